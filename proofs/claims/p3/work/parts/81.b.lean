def c_kindOf_Q (fr : Nat → Bool) (X : Nat → Option (q_C (Nat → Int32))) (u l : Nat) (I : Nat → Int) (A : Nat → Int → Int) (B C : Nat → Nat) (M : w_M) (n : Int) : w_X → w_M → Prop := fun r M' => (∃ v : Int, (r = .inl (some v)) ∧ (w_in v) ∧ (M' = M))
set_option maxHeartbeats 100000000 in
set_option maxRecDepth 100000 in
theorem c_kindOf {L : Nat} {xs : Nat → Int32} {d : Nat} {fr : Nat → Bool} {X : Nat → Option (q_C (Nat → Int32))} {u l : Nat} {I : Nat → Int} {A : Nat → Int → Int} {B C : Nat → Nat} {M : w_M} (n : Int) (hR : w_Rep w_TC fr X u l I A B C M) (hd : 1 ≤ d) (r_n : w_in n) : w_W (z_P L xs) d 53 (0, [(0, .ref 3), (1, .int (Int32.ofInt (n)))], [], M) (c_kindOf_Q fr X u l I A B C M n) := by
  obtain ⟨ra_n, rb_n⟩ := r_n
  obtain ⟨d, rfl⟩ : ∃ d0, d = d0 + 1 := ⟨d - 1, by omega⟩
  refine w_adv (n := 1) (F' := (1, [(0, .ref 3), (1, .int (Int32.ofInt (n)))], [.ref 3], M)) rfl ?_
  refine w_gf (v := .ref 6) hR rfl rfl rfl rfl ?_
  refine w_adv (n := 1) (F' := (5, [(0, .ref 3), (1, .int (Int32.ofInt (n)))], [.int (Int32.ofInt (n)), .ref 6], M)) rfl ?_
  refine w_call (cm := 21) (as := [(0, .ref 6), (1, .int (Int32.ofInt (n)))]) (rest := []) (o := none) rfl (trivial) (c_at (n) 6 420 rfl (by decide) hR ⟨by omega, by omega⟩) (fun r1 M2 q3 => ?_)
  rcases q3 with ⟨v4, e5, ⟨r6, r7⟩, e8, f9⟩
  rw [e5, e8]
  replace f9 : ((0 ≤ n ∧ n < (420 : Int) ∧ v4 = (A 6) (n)) ∨ (¬ (0 ≤ n ∧ n < (420 : Int)) ∧ v4 = -1)) := f9
  show w_W _ _ _ (8, [(0, .ref 3), (1, .int (Int32.ofInt (n)))], [.int (Int32.ofInt (v4))], M) _
  refine w_fin (r := .inl (some (v4))) (M' := M) rfl ?_
  exact ⟨v4, rfl, ⟨by omega, by omega⟩, rfl⟩
def c_atomOf_Q (fr : Nat → Bool) (X : Nat → Option (q_C (Nat → Int32))) (u l : Nat) (I : Nat → Int) (A : Nat → Int → Int) (B C : Nat → Nat) (M : w_M) (n : Int) : w_X → w_M → Prop := fun r M' => (∃ v : Int, (r = .inl (some v)) ∧ (w_in v) ∧ (M' = M))
set_option maxHeartbeats 100000000 in
set_option maxRecDepth 100000 in
theorem c_atomOf {L : Nat} {xs : Nat → Int32} {d : Nat} {fr : Nat → Bool} {X : Nat → Option (q_C (Nat → Int32))} {u l : Nat} {I : Nat → Int} {A : Nat → Int → Int} {B C : Nat → Nat} {M : w_M} (n : Int) (hR : w_Rep w_TC fr X u l I A B C M) (hd : 1 ≤ d) (r_n : w_in n) : w_W (z_P L xs) d 54 (0, [(0, .ref 3), (1, .int (Int32.ofInt (n)))], [], M) (c_atomOf_Q fr X u l I A B C M n) := by
  obtain ⟨ra_n, rb_n⟩ := r_n
  obtain ⟨d, rfl⟩ : ∃ d0, d = d0 + 1 := ⟨d - 1, by omega⟩
  refine w_adv (n := 1) (F' := (1, [(0, .ref 3), (1, .int (Int32.ofInt (n)))], [.ref 3], M)) rfl ?_
  refine w_gf (v := .ref 7) hR rfl rfl rfl rfl ?_
  refine w_adv (n := 1) (F' := (5, [(0, .ref 3), (1, .int (Int32.ofInt (n)))], [.int (Int32.ofInt (n)), .ref 7], M)) rfl ?_
  refine w_call (cm := 21) (as := [(0, .ref 7), (1, .int (Int32.ofInt (n)))]) (rest := []) (o := none) rfl (trivial) (c_at (n) 7 420 rfl (by decide) hR ⟨by omega, by omega⟩) (fun r1 M2 q3 => ?_)
  rcases q3 with ⟨v4, e5, ⟨r6, r7⟩, e8, f9⟩
  rw [e5, e8]
  replace f9 : ((0 ≤ n ∧ n < (420 : Int) ∧ v4 = (A 7) (n)) ∨ (¬ (0 ≤ n ∧ n < (420 : Int)) ∧ v4 = -1)) := f9
  show w_W _ _ _ (8, [(0, .ref 3), (1, .int (Int32.ofInt (n)))], [.int (Int32.ofInt (v4))], M) _
  refine w_fin (r := .inl (some (v4))) (M' := M) rfl ?_
  exact ⟨v4, rfl, ⟨by omega, by omega⟩, rfl⟩
def c_atoms_Q (fr : Nat → Bool) (X : Nat → Option (q_C (Nat → Int32))) (u l : Nat) (I : Nat → Int) (A : Nat → Int → Int) (B C : Nat → Nat) (M : w_M) : w_X → w_M → Prop := fun r M' => (∃ v : Int, (r = .inl (some v)) ∧ (w_in v) ∧ (M' = M))
set_option maxHeartbeats 100000000 in
set_option maxRecDepth 100000 in
theorem c_atoms {L : Nat} {xs : Nat → Int32} {d : Nat} {fr : Nat → Bool} {X : Nat → Option (q_C (Nat → Int32))} {u l : Nat} {I : Nat → Int} {A : Nat → Int → Int} {B C : Nat → Nat} {M : w_M} (hR : w_Rep w_TC fr X u l I A B C M) (hd : 1 ≤ d) : w_W (z_P L xs) d 195 (0, [(0, .ref 3)], [], M) (c_atoms_Q fr X u l I A B C M) := by
  obtain ⟨d, rfl⟩ : ∃ d0, d = d0 + 1 := ⟨d - 1, by omega⟩
  refine w_adv (n := 1) (F' := (1, [(0, .ref 3)], [.ref 3], M)) rfl ?_
  refine w_gf (v := .int (Int32.ofInt ((I 201)))) hR rfl rfl rfl rfl ?_
  obtain ⟨r1, r2⟩ : -2147483648 ≤ (I 201) ∧ (I 201) ≤ 2147483647 := hR.ri 201
  refine w_fin (r := .inl (some ((I 201)))) (M' := M) rfl ?_
  exact ⟨(I 201), rfl, ⟨by omega, by omega⟩, rfl⟩
def c_entryOfAtom_Q (fr : Nat → Bool) (X : Nat → Option (q_C (Nat → Int32))) (u l : Nat) (I : Nat → Int) (A : Nat → Int → Int) (B C : Nat → Nat) (M : w_M) (n : Int) : w_X → w_M → Prop := fun r M' => (∃ v : Int, (r = .inl (some v)) ∧ (w_in v) ∧ (M' = M))
set_option maxHeartbeats 100000000 in
set_option maxRecDepth 100000 in
theorem c_entryOfAtom {L : Nat} {xs : Nat → Int32} {d : Nat} {fr : Nat → Bool} {X : Nat → Option (q_C (Nat → Int32))} {u l : Nat} {I : Nat → Int} {A : Nat → Int → Int} {B C : Nat → Nat} {M : w_M} (n : Int) (hR : w_Rep w_TC fr X u l I A B C M) (hd : 1 ≤ d) (r_n : w_in n) : w_W (z_P L xs) d 96 (0, [(0, .ref 3), (1, .int (Int32.ofInt (n)))], [], M) (c_entryOfAtom_Q fr X u l I A B C M n) := by
  obtain ⟨ra_n, rb_n⟩ := r_n
  obtain ⟨d, rfl⟩ : ∃ d0, d = d0 + 1 := ⟨d - 1, by omega⟩
  refine w_adv (n := 1) (F' := (1, [(0, .ref 3), (1, .int (Int32.ofInt (n)))], [.int (Int32.ofInt (n))], M)) rfl ?_
  refine w_br1 (a := n) rfl rfl ⟨by omega, by omega⟩ (fun h1 => ?_) (fun h1 => ?_)
  · have h1 : n < 0 := h1
    show w_W _ _ _ (28, [(0, .ref 3), (1, .int (Int32.ofInt (n)))], [], M) _
    refine w_adv (n := 1) (F' := (29, [(0, .ref 3), (1, .int (Int32.ofInt (n)))], [.int (Int32.ofInt ((-1)))], M)) rfl ?_
    refine w_fin (r := .inl (some ((-1)))) (M' := M) rfl ?_
    exact ⟨(-1), rfl, ⟨by omega, by omega⟩, rfl⟩
  · have h1 : ¬ (n < 0) := h1
    show w_W _ _ _ (4, [(0, .ref 3), (1, .int (Int32.ofInt (n)))], [], M) _
    refine w_adv (n := 2) (F' := (6, [(0, .ref 3), (1, .int (Int32.ofInt (n)))], [.ref 3, .int (Int32.ofInt (n))], M)) rfl ?_
    refine w_gf (v := .int (Int32.ofInt ((I 201)))) hR rfl rfl rfl rfl ?_
    obtain ⟨r2, r3⟩ : -2147483648 ≤ (I 201) ∧ (I 201) ≤ 2147483647 := hR.ri 201
    refine w_br2 (a := n) (b := (I 201)) rfl rfl ⟨by omega, by omega⟩ ⟨by omega, by omega⟩ (fun h4 => ?_) (fun h4 => ?_)
    · have h4 : n ≥ (I 201) := h4
      show w_W _ _ _ (28, [(0, .ref 3), (1, .int (Int32.ofInt (n)))], [], M) _
      refine w_adv (n := 1) (F' := (29, [(0, .ref 3), (1, .int (Int32.ofInt (n)))], [.int (Int32.ofInt ((-1)))], M)) rfl ?_
      refine w_fin (r := .inl (some ((-1)))) (M' := M) rfl ?_
      exact ⟨(-1), rfl, ⟨by omega, by omega⟩, rfl⟩
    · have h4 : ¬ (n ≥ (I 201)) := h4
      show w_W _ _ _ (12, [(0, .ref 3), (1, .int (Int32.ofInt (n)))], [], M) _
      refine w_adv (n := 2) (F' := (16, [(0, .ref 3), (1, .int (Int32.ofInt (n)))], [.int (Int32.ofInt (400)), .int (Int32.ofInt (n))], M)) rfl ?_
      refine w_br2 (a := n) (b := 400) rfl rfl ⟨by omega, by omega⟩ ⟨by omega, by omega⟩ (fun h5 => ?_) (fun h5 => ?_)
      · have h5 : n ≥ 400 := h5
        show w_W _ _ _ (28, [(0, .ref 3), (1, .int (Int32.ofInt (n)))], [], M) _
        refine w_adv (n := 1) (F' := (29, [(0, .ref 3), (1, .int (Int32.ofInt (n)))], [.int (Int32.ofInt ((-1)))], M)) rfl ?_
        refine w_fin (r := .inl (some ((-1)))) (M' := M) rfl ?_
        exact ⟨(-1), rfl, ⟨by omega, by omega⟩, rfl⟩
      · have h5 : ¬ (n ≥ 400) := h5
        show w_W _ _ _ (19, [(0, .ref 3), (1, .int (Int32.ofInt (n)))], [], M) _
        refine w_adv (n := 1) (F' := (20, [(0, .ref 3), (1, .int (Int32.ofInt (n)))], [.ref 3], M)) rfl ?_
        refine w_gf (v := .ref 11) hR rfl rfl rfl rfl ?_
        refine w_adv (n := 1) (F' := (24, [(0, .ref 3), (1, .int (Int32.ofInt (n)))], [.int (Int32.ofInt (n)), .ref 11], M)) rfl ?_
        refine w_la (n := 400) hR rfl (Or.inl ⟨rfl, rfl⟩) rfl (show 0 ≤ n by omega) (show n < (400 : Int) by omega) (by decide) ?_
        obtain ⟨r6, r7⟩ : -2147483648 ≤ (A 11) (n) ∧ (A 11) (n) ≤ 2147483647 := hR.ra 11 (n)
        show w_W _ _ _ (25, [(0, .ref 3), (1, .int (Int32.ofInt (n)))], [.int (Int32.ofInt ((A 11) (n)))], M) _
        refine w_adv (n := 1) (F' := (29, [(0, .ref 3), (1, .int (Int32.ofInt (n)))], [.int (Int32.ofInt ((A 11) (n)))], M)) rfl ?_
        refine w_fin (r := .inl (some ((A 11) (n)))) (M' := M) rfl ?_
        exact ⟨(A 11) (n), rfl, ⟨by omega, by omega⟩, rfl⟩
def c_entryOfBasis_Q (fr : Nat → Bool) (X : Nat → Option (q_C (Nat → Int32))) (u l : Nat) (I : Nat → Int) (A : Nat → Int → Int) (B C : Nat → Nat) (M : w_M) (n : Int) : w_X → w_M → Prop := fun r M' => (∃ v : Int, (r = .inl (some v)) ∧ (w_in v) ∧ (M' = M))
set_option maxHeartbeats 100000000 in
set_option maxRecDepth 100000 in
theorem c_entryOfBasis {L : Nat} {xs : Nat → Int32} {d : Nat} {fr : Nat → Bool} {X : Nat → Option (q_C (Nat → Int32))} {u l : Nat} {I : Nat → Int} {A : Nat → Int → Int} {B C : Nat → Nat} {M : w_M} (n : Int) (hR : w_Rep w_TC fr X u l I A B C M) (hd : 1 ≤ d) (r_n : w_in n) (hnb : -1 ≤ n ∧ n ≤ 1000000) : w_W (z_P L xs) d 30 (0, [(0, .ref 3), (1, .int (Int32.ofInt (n)))], [], M) (c_entryOfBasis_Q fr X u l I A B C M n) := by
  obtain ⟨ra_n, rb_n⟩ := r_n
  obtain ⟨d, rfl⟩ : ∃ d0, d = d0 + 1 := ⟨d - 1, by omega⟩
  refine w_adv (n := 2) (F' := (3, [(0, .ref 3), (1, .int (Int32.ofInt (n)))], [.int (Int32.ofInt (n)), .int (Int32.ofInt (29))], M)) rfl ?_
  refine w_add rfl ?_
  refine w_fin (r := .inl (some (29 + n))) (M' := M) rfl ?_
  exact ⟨29 + n, rfl, ⟨by omega, by omega⟩, rfl⟩
def c_lengthOf_Q (fr : Nat → Bool) (X : Nat → Option (q_C (Nat → Int32))) (u l : Nat) (I : Nat → Int) (A : Nat → Int → Int) (B C : Nat → Nat) (M : w_M) (n : Int) : w_X → w_M → Prop := fun r M' => (∃ v : Int, (r = .inl (some v)) ∧ (w_in v) ∧ (M' = M))
set_option maxHeartbeats 100000000 in
set_option maxRecDepth 100000 in
theorem c_lengthOf {L : Nat} {xs : Nat → Int32} {d : Nat} {fr : Nat → Bool} {X : Nat → Option (q_C (Nat → Int32))} {u l : Nat} {I : Nat → Int} {A : Nat → Int → Int} {B C : Nat → Nat} {M : w_M} (n : Int) (hR : w_Rep w_TC fr X u l I A B C M) (hd : 1 ≤ d) (r_n : w_in n) : w_W (z_P L xs) d 23 (0, [(0, .ref 3), (1, .int (Int32.ofInt (n)))], [], M) (c_lengthOf_Q fr X u l I A B C M n) := by
  obtain ⟨ra_n, rb_n⟩ := r_n
  obtain ⟨d, rfl⟩ : ∃ d0, d = d0 + 1 := ⟨d - 1, by omega⟩
  refine w_adv (n := 1) (F' := (1, [(0, .ref 3), (1, .int (Int32.ofInt (n)))], [.int (Int32.ofInt (n))], M)) rfl ?_
  refine w_br1 (a := n) rfl rfl ⟨by omega, by omega⟩ (fun h1 => ?_) (fun h1 => ?_)
  · have h1 : n < 0 := h1
    show w_W _ _ _ (28, [(0, .ref 3), (1, .int (Int32.ofInt (n)))], [], M) _
    refine w_adv (n := 1) (F' := (29, [(0, .ref 3), (1, .int (Int32.ofInt (n)))], [.int (Int32.ofInt (0))], M)) rfl ?_
    refine w_fin (r := .inl (some (0))) (M' := M) rfl ?_
    exact ⟨0, rfl, ⟨by omega, by omega⟩, rfl⟩
  · have h1 : ¬ (n < 0) := h1
    show w_W _ _ _ (4, [(0, .ref 3), (1, .int (Int32.ofInt (n)))], [], M) _
    refine w_adv (n := 2) (F' := (6, [(0, .ref 3), (1, .int (Int32.ofInt (n)))], [.ref 3, .int (Int32.ofInt (n))], M)) rfl ?_
    refine w_gf (v := .int (Int32.ofInt ((I 200)))) hR rfl rfl rfl rfl ?_
    obtain ⟨r2, r3⟩ : -2147483648 ≤ (I 200) ∧ (I 200) ≤ 2147483647 := hR.ri 200
    refine w_br2 (a := n) (b := (I 200)) rfl rfl ⟨by omega, by omega⟩ ⟨by omega, by omega⟩ (fun h4 => ?_) (fun h4 => ?_)
    · have h4 : n ≥ (I 200) := h4
      show w_W _ _ _ (28, [(0, .ref 3), (1, .int (Int32.ofInt (n)))], [], M) _
      refine w_adv (n := 1) (F' := (29, [(0, .ref 3), (1, .int (Int32.ofInt (n)))], [.int (Int32.ofInt (0))], M)) rfl ?_
      refine w_fin (r := .inl (some (0))) (M' := M) rfl ?_
      exact ⟨0, rfl, ⟨by omega, by omega⟩, rfl⟩
    · have h4 : ¬ (n ≥ (I 200)) := h4
      show w_W _ _ _ (12, [(0, .ref 3), (1, .int (Int32.ofInt (n)))], [], M) _
      refine w_adv (n := 2) (F' := (16, [(0, .ref 3), (1, .int (Int32.ofInt (n)))], [.int (Int32.ofInt (420)), .int (Int32.ofInt (n))], M)) rfl ?_
      refine w_br2 (a := n) (b := 420) rfl rfl ⟨by omega, by omega⟩ ⟨by omega, by omega⟩ (fun h5 => ?_) (fun h5 => ?_)
      · have h5 : n ≥ 420 := h5
        show w_W _ _ _ (28, [(0, .ref 3), (1, .int (Int32.ofInt (n)))], [], M) _
        refine w_adv (n := 1) (F' := (29, [(0, .ref 3), (1, .int (Int32.ofInt (n)))], [.int (Int32.ofInt (0))], M)) rfl ?_
        refine w_fin (r := .inl (some (0))) (M' := M) rfl ?_
        exact ⟨0, rfl, ⟨by omega, by omega⟩, rfl⟩
      · have h5 : ¬ (n ≥ 420) := h5
        show w_W _ _ _ (19, [(0, .ref 3), (1, .int (Int32.ofInt (n)))], [], M) _
        refine w_adv (n := 1) (F' := (20, [(0, .ref 3), (1, .int (Int32.ofInt (n)))], [.ref 3], M)) rfl ?_
        refine w_gf (v := .ref 5) hR rfl rfl rfl rfl ?_
        refine w_adv (n := 1) (F' := (24, [(0, .ref 3), (1, .int (Int32.ofInt (n)))], [.int (Int32.ofInt (n)), .ref 5], M)) rfl ?_
        refine w_la (n := 420) hR rfl (Or.inl ⟨rfl, rfl⟩) rfl (show 0 ≤ n by omega) (show n < (420 : Int) by omega) (by decide) ?_
        obtain ⟨r6, r7⟩ : -2147483648 ≤ (A 5) (n) ∧ (A 5) (n) ≤ 2147483647 := hR.ra 5 (n)
        show w_W _ _ _ (25, [(0, .ref 3), (1, .int (Int32.ofInt (n)))], [.int (Int32.ofInt ((A 5) (n)))], M) _
        refine w_adv (n := 1) (F' := (29, [(0, .ref 3), (1, .int (Int32.ofInt (n)))], [.int (Int32.ofInt ((A 5) (n)))], M)) rfl ?_
        refine w_fin (r := .inl (some ((A 5) (n)))) (M' := M) rfl ?_
        exact ⟨(A 5) (n), rfl, ⟨by omega, by omega⟩, rfl⟩
def c_byteAt_Q (fr : Nat → Bool) (X : Nat → Option (q_C (Nat → Int32))) (u l : Nat) (I : Nat → Int) (A : Nat → Int → Int) (B C : Nat → Nat) (M : w_M) (n : Int) : w_X → w_M → Prop := fun r M' => (∃ v : Int, (r = .inl (some v)) ∧ (w_in v) ∧ (M' = M))
set_option maxHeartbeats 100000000 in
set_option maxRecDepth 100000 in
theorem c_byteAt {L : Nat} {xs : Nat → Int32} {d : Nat} {fr : Nat → Bool} {X : Nat → Option (q_C (Nat → Int32))} {u l : Nat} {I : Nat → Int} {A : Nat → Int → Int} {B C : Nat → Nat} {M : w_M} (n : Int) (hR : w_Rep w_TC fr X u l I A B C M) (hd : 1 ≤ d) (r_n : w_in n) : w_W (z_P L xs) d 46 (0, [(0, .ref 1), (1, .int (Int32.ofInt (n)))], [], M) (c_byteAt_Q fr X u l I A B C M n) := by
  obtain ⟨ra_n, rb_n⟩ := r_n
  obtain ⟨d, rfl⟩ : ∃ d0, d = d0 + 1 := ⟨d - 1, by omega⟩
  refine w_adv (n := 1) (F' := (1, [(0, .ref 1), (1, .int (Int32.ofInt (n)))], [.int (Int32.ofInt (n))], M)) rfl ?_
  refine w_br1 (a := n) rfl rfl ⟨by omega, by omega⟩ (fun h1 => ?_) (fun h1 => ?_)
  · have h1 : n < 0 := h1
    show w_W _ _ _ (34, [(0, .ref 1), (1, .int (Int32.ofInt (n)))], [], M) _
    refine w_adv (n := 1) (F' := (35, [(0, .ref 1), (1, .int (Int32.ofInt (n)))], [.int (Int32.ofInt (0))], M)) rfl ?_
    refine w_fin (r := .inl (some (0))) (M' := M) rfl ?_
    exact ⟨0, rfl, ⟨by omega, by omega⟩, rfl⟩
  · have h1 : ¬ (n < 0) := h1
    show w_W _ _ _ (4, [(0, .ref 1), (1, .int (Int32.ofInt (n)))], [], M) _
    refine w_adv (n := 2) (F' := (6, [(0, .ref 1), (1, .int (Int32.ofInt (n)))], [.ref 1, .int (Int32.ofInt (n))], M)) rfl ?_
    refine w_gf (v := .int (Int32.ofInt ((I 65)))) hR rfl rfl rfl rfl ?_
    obtain ⟨r2, r3⟩ : -2147483648 ≤ (I 65) ∧ (I 65) ≤ 2147483647 := hR.ri 65
    refine w_br2 (a := n) (b := (I 65)) rfl rfl ⟨by omega, by omega⟩ ⟨by omega, by omega⟩ (fun h4 => ?_) (fun h4 => ?_)
    · have h4 : n ≥ (I 65) := h4
      show w_W _ _ _ (34, [(0, .ref 1), (1, .int (Int32.ofInt (n)))], [], M) _
      refine w_adv (n := 1) (F' := (35, [(0, .ref 1), (1, .int (Int32.ofInt (n)))], [.int (Int32.ofInt (0))], M)) rfl ?_
      refine w_fin (r := .inl (some (0))) (M' := M) rfl ?_
      exact ⟨0, rfl, ⟨by omega, by omega⟩, rfl⟩
    · have h4 : ¬ (n ≥ (I 65)) := h4
      show w_W _ _ _ (12, [(0, .ref 1), (1, .int (Int32.ofInt (n)))], [], M) _
      refine w_adv (n := 2) (F' := (14, [(0, .ref 1), (1, .int (Int32.ofInt (n)))], [.ref 1, .int (Int32.ofInt (n))], M)) rfl ?_
      refine w_gf (v := .ref 2) hR rfl rfl rfl rfl ?_
      refine w_lena (n := 8192) hR rfl rfl rfl ?_
      show w_W _ _ _ (18, [(0, .ref 1), (1, .int (Int32.ofInt (n)))], [.int (Int32.ofInt (8192)), .int (Int32.ofInt (n))], M) _
      refine w_br2 (a := n) (b := 8192) rfl rfl ⟨by omega, by omega⟩ ⟨by omega, by omega⟩ (fun h5 => ?_) (fun h5 => ?_)
      · have h5 : n ≥ 8192 := h5
        show w_W _ _ _ (34, [(0, .ref 1), (1, .int (Int32.ofInt (n)))], [], M) _
        refine w_adv (n := 1) (F' := (35, [(0, .ref 1), (1, .int (Int32.ofInt (n)))], [.int (Int32.ofInt (0))], M)) rfl ?_
        refine w_fin (r := .inl (some (0))) (M' := M) rfl ?_
        exact ⟨0, rfl, ⟨by omega, by omega⟩, rfl⟩
      · have h5 : ¬ (n ≥ 8192) := h5
        show w_W _ _ _ (21, [(0, .ref 1), (1, .int (Int32.ofInt (n)))], [], M) _
        refine w_adv (n := 1) (F' := (22, [(0, .ref 1), (1, .int (Int32.ofInt (n)))], [.ref 1], M)) rfl ?_
        refine w_gf (v := .ref 2) hR rfl rfl rfl rfl ?_
        refine w_adv (n := 1) (F' := (26, [(0, .ref 1), (1, .int (Int32.ofInt (n)))], [.int (Int32.ofInt (n)), .ref 2], M)) rfl ?_
        refine w_la (n := 8192) hR rfl (Or.inr ⟨rfl, rfl⟩) rfl (show 0 ≤ n by omega) (show n < (8192 : Int) by omega) (by decide) ?_
        obtain ⟨r6, r7⟩ : -2147483648 ≤ (A 2) (n) ∧ (A 2) (n) ≤ 2147483647 := hR.ra 2 (n)
        show w_W _ _ _ (27, [(0, .ref 1), (1, .int (Int32.ofInt (n)))], [.int (Int32.ofInt ((A 2) (n)))], M) _
        refine w_adv (n := 2) (F' := (31, [(0, .ref 1), (1, .int (Int32.ofInt (n)))], [.int ((Int32.ofInt ((A 2) (n))) &&& (Int32.ofInt (255)))], M)) rfl ?_
        refine w_int (fun x8 r9 e10 => ?_)
        obtain ⟨r9a, r9b⟩ := r9
        refine w_adv (n := 1) (F' := (35, [(0, .ref 1), (1, .int (Int32.ofInt (n)))], [.int (Int32.ofInt (x8))], M)) rfl ?_
        refine w_fin (r := .inl (some (x8))) (M' := M) rfl ?_
        exact ⟨x8, rfl, ⟨by omega, by omega⟩, rfl⟩
def c_Tokens_kind_Q (fr : Nat → Bool) (X : Nat → Option (q_C (Nat → Int32))) (u l : Nat) (I : Nat → Int) (A : Nat → Int → Int) (B C : Nat → Nat) (M : w_M) (n : Int) : w_X → w_M → Prop := fun r M' => (∃ v : Int, (r = .inl (some v)) ∧ (w_in v) ∧ (M' = M))
set_option maxHeartbeats 100000000 in
set_option maxRecDepth 100000 in
theorem c_Tokens_kind {L : Nat} {xs : Nat → Int32} {d : Nat} {fr : Nat → Bool} {X : Nat → Option (q_C (Nat → Int32))} {u l : Nat} {I : Nat → Int} {A : Nat → Int → Int} {B C : Nat → Nat} {M : w_M} (n : Int) (hR : w_Rep w_TC fr X u l I A B C M) (hd : 2 ≤ d) (r_n : w_in n) : w_W (z_P L xs) d 86 (0, [(0, .ref 12), (1, .int (Int32.ofInt (n)))], [], M) (c_Tokens_kind_Q fr X u l I A B C M n) := by
  obtain ⟨ra_n, rb_n⟩ := r_n
  obtain ⟨d, rfl⟩ : ∃ d0, d = d0 + 1 := ⟨d - 1, by omega⟩
  refine w_adv (n := 1) (F' := (1, [(0, .ref 12), (1, .int (Int32.ofInt (n)))], [.int (Int32.ofInt (n))], M)) rfl ?_
  refine w_br1 (a := n) rfl rfl ⟨by omega, by omega⟩ (fun h1 => ?_) (fun h1 => ?_)
  · have h1 : n < 0 := h1
    show w_W _ _ _ (30, [(0, .ref 12), (1, .int (Int32.ofInt (n)))], [], M) _
    refine w_adv (n := 1) (F' := (31, [(0, .ref 12), (1, .int (Int32.ofInt (n)))], [.int (Int32.ofInt (0))], M)) rfl ?_
    refine w_fin (r := .inl (some (0))) (M' := M) rfl ?_
    exact ⟨0, rfl, ⟨by omega, by omega⟩, rfl⟩
  · have h1 : ¬ (n < 0) := h1
    show w_W _ _ _ (4, [(0, .ref 12), (1, .int (Int32.ofInt (n)))], [], M) _
    refine w_adv (n := 2) (F' := (6, [(0, .ref 12), (1, .int (Int32.ofInt (n)))], [.ref 12, .int (Int32.ofInt (n))], M)) rfl ?_
    refine w_gf (v := .int (Int32.ofInt ((I 773)))) hR rfl rfl rfl rfl ?_
    obtain ⟨r2, r3⟩ : -2147483648 ≤ (I 773) ∧ (I 773) ≤ 2147483647 := hR.ri 773
    refine w_br2 (a := n) (b := (I 773)) rfl rfl ⟨by omega, by omega⟩ ⟨by omega, by omega⟩ (fun h4 => ?_) (fun h4 => ?_)
    · have h4 : n ≥ (I 773) := h4
      show w_W _ _ _ (30, [(0, .ref 12), (1, .int (Int32.ofInt (n)))], [], M) _
      refine w_adv (n := 1) (F' := (31, [(0, .ref 12), (1, .int (Int32.ofInt (n)))], [.int (Int32.ofInt (0))], M)) rfl ?_
      refine w_fin (r := .inl (some (0))) (M' := M) rfl ?_
      exact ⟨0, rfl, ⟨by omega, by omega⟩, rfl⟩
    · have h4 : ¬ (n ≥ (I 773)) := h4
      show w_W _ _ _ (12, [(0, .ref 12), (1, .int (Int32.ofInt (n)))], [], M) _
      refine w_adv (n := 2) (F' := (14, [(0, .ref 12), (1, .int (Int32.ofInt (n)))], [.ref 12, .int (Int32.ofInt (n))], M)) rfl ?_
      refine w_gf (v := .ref 13) hR rfl rfl rfl rfl ?_
      refine w_lena (n := 1502) hR rfl rfl rfl ?_
      show w_W _ _ _ (18, [(0, .ref 12), (1, .int (Int32.ofInt (n)))], [.int (Int32.ofInt (1502)), .int (Int32.ofInt (n))], M) _
      refine w_br2 (a := n) (b := 1502) rfl rfl ⟨by omega, by omega⟩ ⟨by omega, by omega⟩ (fun h5 => ?_) (fun h5 => ?_)
      · have h5 : n ≥ 1502 := h5
        show w_W _ _ _ (30, [(0, .ref 12), (1, .int (Int32.ofInt (n)))], [], M) _
        refine w_adv (n := 1) (F' := (31, [(0, .ref 12), (1, .int (Int32.ofInt (n)))], [.int (Int32.ofInt (0))], M)) rfl ?_
        refine w_fin (r := .inl (some (0))) (M' := M) rfl ?_
        exact ⟨0, rfl, ⟨by omega, by omega⟩, rfl⟩
      · have h5 : ¬ (n ≥ 1502) := h5
        show w_W _ _ _ (21, [(0, .ref 12), (1, .int (Int32.ofInt (n)))], [], M) _
        refine w_adv (n := 1) (F' := (22, [(0, .ref 12), (1, .int (Int32.ofInt (n)))], [.ref 12], M)) rfl ?_
        refine w_gf (v := .ref 13) hR rfl rfl rfl rfl ?_
        refine w_adv (n := 1) (F' := (26, [(0, .ref 12), (1, .int (Int32.ofInt (n)))], [.int (Int32.ofInt (n)), .ref 13], M)) rfl ?_
        refine w_la (n := 1502) hR rfl (Or.inl ⟨rfl, rfl⟩) rfl (show 0 ≤ n by omega) (show n < (1502 : Int) by omega) (by decide) ?_
        obtain ⟨r6, r7⟩ : -2147483648 ≤ (A 13) (n) ∧ (A 13) (n) ≤ 2147483647 := hR.ra 13 (n)
        show w_W _ _ _ (27, [(0, .ref 12), (1, .int (Int32.ofInt (n)))], [.int (Int32.ofInt ((A 13) (n)))], M) _
        refine w_adv (n := 1) (F' := (31, [(0, .ref 12), (1, .int (Int32.ofInt (n)))], [.int (Int32.ofInt ((A 13) (n)))], M)) rfl ?_
        refine w_fin (r := .inl (some ((A 13) (n)))) (M' := M) rfl ?_
        exact ⟨(A 13) (n), rfl, ⟨by omega, by omega⟩, rfl⟩
def c_Tokens_start_Q (fr : Nat → Bool) (X : Nat → Option (q_C (Nat → Int32))) (u l : Nat) (I : Nat → Int) (A : Nat → Int → Int) (B C : Nat → Nat) (M : w_M) (n : Int) : w_X → w_M → Prop := fun r M' => (∃ v : Int, (r = .inl (some v)) ∧ (w_in v) ∧ (M' = M))
set_option maxHeartbeats 100000000 in
set_option maxRecDepth 100000 in
theorem c_Tokens_start {L : Nat} {xs : Nat → Int32} {d : Nat} {fr : Nat → Bool} {X : Nat → Option (q_C (Nat → Int32))} {u l : Nat} {I : Nat → Int} {A : Nat → Int → Int} {B C : Nat → Nat} {M : w_M} (n : Int) (hR : w_Rep w_TC fr X u l I A B C M) (hd : 2 ≤ d) (r_n : w_in n) : w_W (z_P L xs) d 97 (0, [(0, .ref 12), (1, .int (Int32.ofInt (n)))], [], M) (c_Tokens_start_Q fr X u l I A B C M n) := by
  obtain ⟨ra_n, rb_n⟩ := r_n
  obtain ⟨d, rfl⟩ : ∃ d0, d = d0 + 1 := ⟨d - 1, by omega⟩
  refine w_adv (n := 1) (F' := (1, [(0, .ref 12), (1, .int (Int32.ofInt (n)))], [.int (Int32.ofInt (n))], M)) rfl ?_
  refine w_br1 (a := n) rfl rfl ⟨by omega, by omega⟩ (fun h1 => ?_) (fun h1 => ?_)
  · have h1 : n < 0 := h1
    show w_W _ _ _ (30, [(0, .ref 12), (1, .int (Int32.ofInt (n)))], [], M) _
    refine w_adv (n := 1) (F' := (31, [(0, .ref 12), (1, .int (Int32.ofInt (n)))], [.ref 12], M)) rfl ?_
    refine w_gf (v := .ref 1) hR rfl rfl rfl rfl ?_
    refine w_call (cm := 45) (as := [(0, .ref 1)]) (rest := []) (o := some (6, 1)) rfl (w_fitR hR rfl) (c_len hR) (fun r2 M3 q4 => ?_)
    rcases q4 with ⟨e5, e6, f7⟩
    rw [e5, e6]
    replace f7 : -2147483648 ≤ (I 65) ∧ (I 65) ≤ 2147483647 := f7
    obtain ⟨n8, n9⟩ := id f7
    clear f7
    show w_W _ _ _ (37, [(0, .ref 12), (1, .int (Int32.ofInt (n)))], [.int (Int32.ofInt ((I 65)))], M) _
    refine w_fin (r := .inl (some ((I 65)))) (M' := M) rfl ?_
    exact ⟨(I 65), rfl, ⟨by omega, by omega⟩, rfl⟩
  · have h1 : ¬ (n < 0) := h1
    show w_W _ _ _ (4, [(0, .ref 12), (1, .int (Int32.ofInt (n)))], [], M) _
    refine w_adv (n := 2) (F' := (6, [(0, .ref 12), (1, .int (Int32.ofInt (n)))], [.ref 12, .int (Int32.ofInt (n))], M)) rfl ?_
    refine w_gf (v := .int (Int32.ofInt ((I 773)))) hR rfl rfl rfl rfl ?_
    obtain ⟨r10, r11⟩ : -2147483648 ≤ (I 773) ∧ (I 773) ≤ 2147483647 := hR.ri 773
    refine w_br2 (a := n) (b := (I 773)) rfl rfl ⟨by omega, by omega⟩ ⟨by omega, by omega⟩ (fun h12 => ?_) (fun h12 => ?_)
    · have h12 : n ≥ (I 773) := h12
      show w_W _ _ _ (30, [(0, .ref 12), (1, .int (Int32.ofInt (n)))], [], M) _
      refine w_adv (n := 1) (F' := (31, [(0, .ref 12), (1, .int (Int32.ofInt (n)))], [.ref 12], M)) rfl ?_
      refine w_gf (v := .ref 1) hR rfl rfl rfl rfl ?_
      refine w_call (cm := 45) (as := [(0, .ref 1)]) (rest := []) (o := some (6, 1)) rfl (w_fitR hR rfl) (c_len hR) (fun r13 M14 q15 => ?_)
      rcases q15 with ⟨e16, e17, f18⟩
      rw [e16, e17]
      replace f18 : -2147483648 ≤ (I 65) ∧ (I 65) ≤ 2147483647 := f18
      obtain ⟨n19, n20⟩ := id f18
      clear f18
      show w_W _ _ _ (37, [(0, .ref 12), (1, .int (Int32.ofInt (n)))], [.int (Int32.ofInt ((I 65)))], M) _
      refine w_fin (r := .inl (some ((I 65)))) (M' := M) rfl ?_
      exact ⟨(I 65), rfl, ⟨by omega, by omega⟩, rfl⟩
    · have h12 : ¬ (n ≥ (I 773)) := h12
      show w_W _ _ _ (12, [(0, .ref 12), (1, .int (Int32.ofInt (n)))], [], M) _
      refine w_adv (n := 2) (F' := (14, [(0, .ref 12), (1, .int (Int32.ofInt (n)))], [.ref 12, .int (Int32.ofInt (n))], M)) rfl ?_
      refine w_gf (v := .ref 14) hR rfl rfl rfl rfl ?_
      refine w_lena (n := 1502) hR rfl rfl rfl ?_
      show w_W _ _ _ (18, [(0, .ref 12), (1, .int (Int32.ofInt (n)))], [.int (Int32.ofInt (1502)), .int (Int32.ofInt (n))], M) _
      refine w_br2 (a := n) (b := 1502) rfl rfl ⟨by omega, by omega⟩ ⟨by omega, by omega⟩ (fun h21 => ?_) (fun h21 => ?_)
      · have h21 : n ≥ 1502 := h21
        show w_W _ _ _ (30, [(0, .ref 12), (1, .int (Int32.ofInt (n)))], [], M) _
        refine w_adv (n := 1) (F' := (31, [(0, .ref 12), (1, .int (Int32.ofInt (n)))], [.ref 12], M)) rfl ?_
        refine w_gf (v := .ref 1) hR rfl rfl rfl rfl ?_
        refine w_call (cm := 45) (as := [(0, .ref 1)]) (rest := []) (o := some (6, 1)) rfl (w_fitR hR rfl) (c_len hR) (fun r22 M23 q24 => ?_)
        rcases q24 with ⟨e25, e26, f27⟩
        rw [e25, e26]
        replace f27 : -2147483648 ≤ (I 65) ∧ (I 65) ≤ 2147483647 := f27
        obtain ⟨n28, n29⟩ := id f27
        clear f27
        show w_W _ _ _ (37, [(0, .ref 12), (1, .int (Int32.ofInt (n)))], [.int (Int32.ofInt ((I 65)))], M) _
        refine w_fin (r := .inl (some ((I 65)))) (M' := M) rfl ?_
        exact ⟨(I 65), rfl, ⟨by omega, by omega⟩, rfl⟩
      · have h21 : ¬ (n ≥ 1502) := h21
        show w_W _ _ _ (21, [(0, .ref 12), (1, .int (Int32.ofInt (n)))], [], M) _
        refine w_adv (n := 1) (F' := (22, [(0, .ref 12), (1, .int (Int32.ofInt (n)))], [.ref 12], M)) rfl ?_
        refine w_gf (v := .ref 14) hR rfl rfl rfl rfl ?_
        refine w_adv (n := 1) (F' := (26, [(0, .ref 12), (1, .int (Int32.ofInt (n)))], [.int (Int32.ofInt (n)), .ref 14], M)) rfl ?_
        refine w_la (n := 1502) hR rfl (Or.inl ⟨rfl, rfl⟩) rfl (show 0 ≤ n by omega) (show n < (1502 : Int) by omega) (by decide) ?_
        obtain ⟨r30, r31⟩ : -2147483648 ≤ (A 14) (n) ∧ (A 14) (n) ≤ 2147483647 := hR.ra 14 (n)
        show w_W _ _ _ (27, [(0, .ref 12), (1, .int (Int32.ofInt (n)))], [.int (Int32.ofInt ((A 14) (n)))], M) _
        refine w_adv (n := 1) (F' := (37, [(0, .ref 12), (1, .int (Int32.ofInt (n)))], [.int (Int32.ofInt ((A 14) (n)))], M)) rfl ?_
        refine w_fin (r := .inl (some ((A 14) (n)))) (M' := M) rfl ?_
        exact ⟨(A 14) (n), rfl, ⟨by omega, by omega⟩, rfl⟩
def c_Tokens_value_Q (fr : Nat → Bool) (X : Nat → Option (q_C (Nat → Int32))) (u l : Nat) (I : Nat → Int) (A : Nat → Int → Int) (B C : Nat → Nat) (M : w_M) (n : Int) : w_X → w_M → Prop := fun r M' => (∃ v : Int, (r = .inl (some v)) ∧ (w_in v) ∧ (M' = M))
set_option maxHeartbeats 100000000 in
set_option maxRecDepth 100000 in
theorem c_Tokens_value {L : Nat} {xs : Nat → Int32} {d : Nat} {fr : Nat → Bool} {X : Nat → Option (q_C (Nat → Int32))} {u l : Nat} {I : Nat → Int} {A : Nat → Int → Int} {B C : Nat → Nat} {M : w_M} (n : Int) (hR : w_Rep w_TC fr X u l I A B C M) (hd : 2 ≤ d) (r_n : w_in n) : w_W (z_P L xs) d 87 (0, [(0, .ref 12), (1, .int (Int32.ofInt (n)))], [], M) (c_Tokens_value_Q fr X u l I A B C M n) := by
  obtain ⟨ra_n, rb_n⟩ := r_n
  obtain ⟨d, rfl⟩ : ∃ d0, d = d0 + 1 := ⟨d - 1, by omega⟩
  refine w_adv (n := 1) (F' := (1, [(0, .ref 12), (1, .int (Int32.ofInt (n)))], [.int (Int32.ofInt (n))], M)) rfl ?_
  refine w_br1 (a := n) rfl rfl ⟨by omega, by omega⟩ (fun h1 => ?_) (fun h1 => ?_)
  · have h1 : n < 0 := h1
    show w_W _ _ _ (30, [(0, .ref 12), (1, .int (Int32.ofInt (n)))], [], M) _
    refine w_adv (n := 1) (F' := (31, [(0, .ref 12), (1, .int (Int32.ofInt (n)))], [.int (Int32.ofInt ((-1)))], M)) rfl ?_
    refine w_fin (r := .inl (some ((-1)))) (M' := M) rfl ?_
    exact ⟨(-1), rfl, ⟨by omega, by omega⟩, rfl⟩
  · have h1 : ¬ (n < 0) := h1
    show w_W _ _ _ (4, [(0, .ref 12), (1, .int (Int32.ofInt (n)))], [], M) _
    refine w_adv (n := 2) (F' := (6, [(0, .ref 12), (1, .int (Int32.ofInt (n)))], [.ref 12, .int (Int32.ofInt (n))], M)) rfl ?_
    refine w_gf (v := .int (Int32.ofInt ((I 773)))) hR rfl rfl rfl rfl ?_
    obtain ⟨r2, r3⟩ : -2147483648 ≤ (I 773) ∧ (I 773) ≤ 2147483647 := hR.ri 773
    refine w_br2 (a := n) (b := (I 773)) rfl rfl ⟨by omega, by omega⟩ ⟨by omega, by omega⟩ (fun h4 => ?_) (fun h4 => ?_)
    · have h4 : n ≥ (I 773) := h4
      show w_W _ _ _ (30, [(0, .ref 12), (1, .int (Int32.ofInt (n)))], [], M) _
      refine w_adv (n := 1) (F' := (31, [(0, .ref 12), (1, .int (Int32.ofInt (n)))], [.int (Int32.ofInt ((-1)))], M)) rfl ?_
      refine w_fin (r := .inl (some ((-1)))) (M' := M) rfl ?_
      exact ⟨(-1), rfl, ⟨by omega, by omega⟩, rfl⟩
    · have h4 : ¬ (n ≥ (I 773)) := h4
      show w_W _ _ _ (12, [(0, .ref 12), (1, .int (Int32.ofInt (n)))], [], M) _
      refine w_adv (n := 2) (F' := (14, [(0, .ref 12), (1, .int (Int32.ofInt (n)))], [.ref 12, .int (Int32.ofInt (n))], M)) rfl ?_
      refine w_gf (v := .ref 15) hR rfl rfl rfl rfl ?_
      refine w_lena (n := 1502) hR rfl rfl rfl ?_
      show w_W _ _ _ (18, [(0, .ref 12), (1, .int (Int32.ofInt (n)))], [.int (Int32.ofInt (1502)), .int (Int32.ofInt (n))], M) _
      refine w_br2 (a := n) (b := 1502) rfl rfl ⟨by omega, by omega⟩ ⟨by omega, by omega⟩ (fun h5 => ?_) (fun h5 => ?_)
      · have h5 : n ≥ 1502 := h5
        show w_W _ _ _ (30, [(0, .ref 12), (1, .int (Int32.ofInt (n)))], [], M) _
        refine w_adv (n := 1) (F' := (31, [(0, .ref 12), (1, .int (Int32.ofInt (n)))], [.int (Int32.ofInt ((-1)))], M)) rfl ?_
        refine w_fin (r := .inl (some ((-1)))) (M' := M) rfl ?_
        exact ⟨(-1), rfl, ⟨by omega, by omega⟩, rfl⟩
      · have h5 : ¬ (n ≥ 1502) := h5
        show w_W _ _ _ (21, [(0, .ref 12), (1, .int (Int32.ofInt (n)))], [], M) _
        refine w_adv (n := 1) (F' := (22, [(0, .ref 12), (1, .int (Int32.ofInt (n)))], [.ref 12], M)) rfl ?_
        refine w_gf (v := .ref 15) hR rfl rfl rfl rfl ?_
        refine w_adv (n := 1) (F' := (26, [(0, .ref 12), (1, .int (Int32.ofInt (n)))], [.int (Int32.ofInt (n)), .ref 15], M)) rfl ?_
        refine w_la (n := 1502) hR rfl (Or.inl ⟨rfl, rfl⟩) rfl (show 0 ≤ n by omega) (show n < (1502 : Int) by omega) (by decide) ?_
        obtain ⟨r6, r7⟩ : -2147483648 ≤ (A 15) (n) ∧ (A 15) (n) ≤ 2147483647 := hR.ra 15 (n)
        show w_W _ _ _ (27, [(0, .ref 12), (1, .int (Int32.ofInt (n)))], [.int (Int32.ofInt ((A 15) (n)))], M) _
        refine w_adv (n := 1) (F' := (31, [(0, .ref 12), (1, .int (Int32.ofInt (n)))], [.int (Int32.ofInt ((A 15) (n)))], M)) rfl ?_
        refine w_fin (r := .inl (some ((A 15) (n)))) (M' := M) rfl ?_
        exact ⟨(A 15) (n), rfl, ⟨by omega, by omega⟩, rfl⟩
def c_Tokens_troubleAt_Q (fr : Nat → Bool) (X : Nat → Option (q_C (Nat → Int32))) (u l : Nat) (I : Nat → Int) (A : Nat → Int → Int) (B C : Nat → Nat) (M : w_M) (n : Int) : w_X → w_M → Prop := fun r M' => (∃ v : Int, (r = .inl (some v)) ∧ (w_in v) ∧ (M' = M))
set_option maxHeartbeats 100000000 in
set_option maxRecDepth 100000 in
theorem c_Tokens_troubleAt {L : Nat} {xs : Nat → Int32} {d : Nat} {fr : Nat → Bool} {X : Nat → Option (q_C (Nat → Int32))} {u l : Nat} {I : Nat → Int} {A : Nat → Int → Int} {B C : Nat → Nat} {M : w_M} (n : Int) (hR : w_Rep w_TC fr X u l I A B C M) (hd : 2 ≤ d) (r_n : w_in n) : w_W (z_P L xs) d 81 (0, [(0, .ref 12), (1, .int (Int32.ofInt (n)))], [], M) (c_Tokens_troubleAt_Q fr X u l I A B C M n) := by
  obtain ⟨ra_n, rb_n⟩ := r_n
  obtain ⟨d, rfl⟩ : ∃ d0, d = d0 + 1 := ⟨d - 1, by omega⟩
  refine w_adv (n := 2) (F' := (2, [(0, .ref 12), (1, .int (Int32.ofInt (n)))], [.ref 12, .int (Int32.ofInt (n))], M)) rfl ?_
  refine w_gf (v := .int (Int32.ofInt ((I 774)))) hR rfl rfl rfl rfl ?_
  obtain ⟨r1, r2⟩ : -2147483648 ≤ (I 774) ∧ (I 774) ≤ 2147483647 := hR.ri 774
  refine w_br2 (a := n) (b := (I 774)) rfl rfl ⟨by omega, by omega⟩ ⟨by omega, by omega⟩ (fun h3 => ?_) (fun h3 => ?_)
  · have h3 : ¬ n = (I 774) := h3
    show w_W _ _ _ (15, [(0, .ref 12), (1, .int (Int32.ofInt (n)))], [], M) _
    refine w_adv (n := 1) (F' := (16, [(0, .ref 12), (1, .int (Int32.ofInt (n)))], [.int (Int32.ofInt (0))], M)) rfl ?_
    refine w_fin (r := .inl (some (0))) (M' := M) rfl ?_
    exact ⟨0, rfl, ⟨by omega, by omega⟩, rfl⟩
  · have h3 : ¬ (¬ n = (I 774)) := h3
    show w_W _ _ _ (8, [(0, .ref 12), (1, .int (Int32.ofInt (n)))], [], M) _
    refine w_adv (n := 1) (F' := (9, [(0, .ref 12), (1, .int (Int32.ofInt (n)))], [.ref 12], M)) rfl ?_
    refine w_gf (v := .int (Int32.ofInt ((I 775)))) hR rfl rfl rfl rfl ?_
    obtain ⟨r4, r5⟩ : -2147483648 ≤ (I 775) ∧ (I 775) ≤ 2147483647 := hR.ri 775
    refine w_adv (n := 1) (F' := (16, [(0, .ref 12), (1, .int (Int32.ofInt (n)))], [.int (Int32.ofInt ((I 775)))], M)) rfl ?_
    refine w_fin (r := .inl (some ((I 775)))) (M' := M) rfl ?_
    exact ⟨(I 775), rfl, ⟨by omega, by omega⟩, rfl⟩
def c_Tree_kind_Q (fr : Nat → Bool) (X : Nat → Option (q_C (Nat → Int32))) (u l : Nat) (I : Nat → Int) (A : Nat → Int → Int) (B C : Nat → Nat) (M : w_M) (n : Int) : w_X → w_M → Prop := fun r M' => (∃ v : Int, (r = .inl (some v)) ∧ (w_in v) ∧ (M' = M))
set_option maxHeartbeats 100000000 in
set_option maxRecDepth 100000 in
theorem c_Tree_kind {L : Nat} {xs : Nat → Int32} {d : Nat} {fr : Nat → Bool} {X : Nat → Option (q_C (Nat → Int32))} {u l : Nat} {I : Nat → Int} {A : Nat → Int → Int} {B C : Nat → Nat} {M : w_M} (n : Int) (hR : w_Rep w_TC fr X u l I A B C M) (hd : 2 ≤ d) (r_n : w_in n) : w_W (z_P L xs) d 135 (0, [(0, .ref 26), (1, .int (Int32.ofInt (n)))], [], M) (c_Tree_kind_Q fr X u l I A B C M n) := by
  obtain ⟨ra_n, rb_n⟩ := r_n
  obtain ⟨d, rfl⟩ : ∃ d0, d = d0 + 1 := ⟨d - 1, by omega⟩
  refine w_adv (n := 1) (F' := (1, [(0, .ref 26), (1, .int (Int32.ofInt (n)))], [.ref 26], M)) rfl ?_
  refine w_gf (v := .ref 27) hR rfl rfl rfl rfl ?_
  refine w_adv (n := 1) (F' := (5, [(0, .ref 26), (1, .int (Int32.ofInt (n)))], [.int (Int32.ofInt (n)), .ref 27], M)) rfl ?_
  refine w_call (cm := 21) (as := [(0, .ref 27), (1, .int (Int32.ofInt (n)))]) (rest := []) (o := none) rfl (trivial) (c_at (n) 27 3016 rfl (by decide) hR ⟨by omega, by omega⟩) (fun r1 M2 q3 => ?_)
  rcases q3 with ⟨v4, e5, ⟨r6, r7⟩, e8, f9⟩
  rw [e5, e8]
  replace f9 : ((0 ≤ n ∧ n < (3016 : Int) ∧ v4 = (A 27) (n)) ∨ (¬ (0 ≤ n ∧ n < (3016 : Int)) ∧ v4 = -1)) := f9
  show w_W _ _ _ (8, [(0, .ref 26), (1, .int (Int32.ofInt (n)))], [.int (Int32.ofInt (v4))], M) _
  refine w_fin (r := .inl (some (v4))) (M' := M) rfl ?_
  exact ⟨v4, rfl, ⟨by omega, by omega⟩, rfl⟩
def c_Tree_a_Q (fr : Nat → Bool) (X : Nat → Option (q_C (Nat → Int32))) (u l : Nat) (I : Nat → Int) (A : Nat → Int → Int) (B C : Nat → Nat) (M : w_M) (n : Int) : w_X → w_M → Prop := fun r M' => (∃ v : Int, (r = .inl (some v)) ∧ (w_in v) ∧ (M' = M))
set_option maxHeartbeats 100000000 in
set_option maxRecDepth 100000 in
theorem c_Tree_a {L : Nat} {xs : Nat → Int32} {d : Nat} {fr : Nat → Bool} {X : Nat → Option (q_C (Nat → Int32))} {u l : Nat} {I : Nat → Int} {A : Nat → Int → Int} {B C : Nat → Nat} {M : w_M} (n : Int) (hR : w_Rep w_TC fr X u l I A B C M) (hd : 2 ≤ d) (r_n : w_in n) : w_W (z_P L xs) d 145 (0, [(0, .ref 26), (1, .int (Int32.ofInt (n)))], [], M) (c_Tree_a_Q fr X u l I A B C M n) := by
  obtain ⟨ra_n, rb_n⟩ := r_n
  obtain ⟨d, rfl⟩ : ∃ d0, d = d0 + 1 := ⟨d - 1, by omega⟩
  refine w_adv (n := 1) (F' := (1, [(0, .ref 26), (1, .int (Int32.ofInt (n)))], [.ref 26], M)) rfl ?_
  refine w_gf (v := .ref 28) hR rfl rfl rfl rfl ?_
  refine w_adv (n := 1) (F' := (5, [(0, .ref 26), (1, .int (Int32.ofInt (n)))], [.int (Int32.ofInt (n)), .ref 28], M)) rfl ?_
  refine w_call (cm := 21) (as := [(0, .ref 28), (1, .int (Int32.ofInt (n)))]) (rest := []) (o := none) rfl (trivial) (c_at (n) 28 3016 rfl (by decide) hR ⟨by omega, by omega⟩) (fun r1 M2 q3 => ?_)
  rcases q3 with ⟨v4, e5, ⟨r6, r7⟩, e8, f9⟩
  rw [e5, e8]
  replace f9 : ((0 ≤ n ∧ n < (3016 : Int) ∧ v4 = (A 28) (n)) ∨ (¬ (0 ≤ n ∧ n < (3016 : Int)) ∧ v4 = -1)) := f9
  show w_W _ _ _ (8, [(0, .ref 26), (1, .int (Int32.ofInt (n)))], [.int (Int32.ofInt (v4))], M) _
  refine w_fin (r := .inl (some (v4))) (M' := M) rfl ?_
  exact ⟨v4, rfl, ⟨by omega, by omega⟩, rfl⟩
def c_Tree_b_Q (fr : Nat → Bool) (X : Nat → Option (q_C (Nat → Int32))) (u l : Nat) (I : Nat → Int) (A : Nat → Int → Int) (B C : Nat → Nat) (M : w_M) (n : Int) : w_X → w_M → Prop := fun r M' => (∃ v : Int, (r = .inl (some v)) ∧ (w_in v) ∧ (M' = M))
set_option maxHeartbeats 100000000 in
set_option maxRecDepth 100000 in
theorem c_Tree_b {L : Nat} {xs : Nat → Int32} {d : Nat} {fr : Nat → Bool} {X : Nat → Option (q_C (Nat → Int32))} {u l : Nat} {I : Nat → Int} {A : Nat → Int → Int} {B C : Nat → Nat} {M : w_M} (n : Int) (hR : w_Rep w_TC fr X u l I A B C M) (hd : 2 ≤ d) (r_n : w_in n) : w_W (z_P L xs) d 152 (0, [(0, .ref 26), (1, .int (Int32.ofInt (n)))], [], M) (c_Tree_b_Q fr X u l I A B C M n) := by
  obtain ⟨ra_n, rb_n⟩ := r_n
  obtain ⟨d, rfl⟩ : ∃ d0, d = d0 + 1 := ⟨d - 1, by omega⟩
  refine w_adv (n := 1) (F' := (1, [(0, .ref 26), (1, .int (Int32.ofInt (n)))], [.ref 26], M)) rfl ?_
  refine w_gf (v := .ref 29) hR rfl rfl rfl rfl ?_
  refine w_adv (n := 1) (F' := (5, [(0, .ref 26), (1, .int (Int32.ofInt (n)))], [.int (Int32.ofInt (n)), .ref 29], M)) rfl ?_
  refine w_call (cm := 21) (as := [(0, .ref 29), (1, .int (Int32.ofInt (n)))]) (rest := []) (o := none) rfl (trivial) (c_at (n) 29 3016 rfl (by decide) hR ⟨by omega, by omega⟩) (fun r1 M2 q3 => ?_)
  rcases q3 with ⟨v4, e5, ⟨r6, r7⟩, e8, f9⟩
  rw [e5, e8]
  replace f9 : ((0 ≤ n ∧ n < (3016 : Int) ∧ v4 = (A 29) (n)) ∨ (¬ (0 ≤ n ∧ n < (3016 : Int)) ∧ v4 = -1)) := f9
  show w_W _ _ _ (8, [(0, .ref 26), (1, .int (Int32.ofInt (n)))], [.int (Int32.ofInt (v4))], M) _
  refine w_fin (r := .inl (some (v4))) (M' := M) rfl ?_
  exact ⟨v4, rfl, ⟨by omega, by omega⟩, rfl⟩
def c_Tree_c_Q (fr : Nat → Bool) (X : Nat → Option (q_C (Nat → Int32))) (u l : Nat) (I : Nat → Int) (A : Nat → Int → Int) (B C : Nat → Nat) (M : w_M) (n : Int) : w_X → w_M → Prop := fun r M' => (∃ v : Int, (r = .inl (some v)) ∧ (w_in v) ∧ (M' = M))
set_option maxHeartbeats 100000000 in
set_option maxRecDepth 100000 in
theorem c_Tree_c {L : Nat} {xs : Nat → Int32} {d : Nat} {fr : Nat → Bool} {X : Nat → Option (q_C (Nat → Int32))} {u l : Nat} {I : Nat → Int} {A : Nat → Int → Int} {B C : Nat → Nat} {M : w_M} (n : Int) (hR : w_Rep w_TC fr X u l I A B C M) (hd : 2 ≤ d) (r_n : w_in n) : w_W (z_P L xs) d 174 (0, [(0, .ref 26), (1, .int (Int32.ofInt (n)))], [], M) (c_Tree_c_Q fr X u l I A B C M n) := by
  obtain ⟨ra_n, rb_n⟩ := r_n
  obtain ⟨d, rfl⟩ : ∃ d0, d = d0 + 1 := ⟨d - 1, by omega⟩
  refine w_adv (n := 1) (F' := (1, [(0, .ref 26), (1, .int (Int32.ofInt (n)))], [.ref 26], M)) rfl ?_
  refine w_gf (v := .ref 30) hR rfl rfl rfl rfl ?_
  refine w_adv (n := 1) (F' := (5, [(0, .ref 26), (1, .int (Int32.ofInt (n)))], [.int (Int32.ofInt (n)), .ref 30], M)) rfl ?_
  refine w_call (cm := 21) (as := [(0, .ref 30), (1, .int (Int32.ofInt (n)))]) (rest := []) (o := none) rfl (trivial) (c_at (n) 30 3016 rfl (by decide) hR ⟨by omega, by omega⟩) (fun r1 M2 q3 => ?_)
  rcases q3 with ⟨v4, e5, ⟨r6, r7⟩, e8, f9⟩
  rw [e5, e8]
  replace f9 : ((0 ≤ n ∧ n < (3016 : Int) ∧ v4 = (A 30) (n)) ∨ (¬ (0 ≤ n ∧ n < (3016 : Int)) ∧ v4 = -1)) := f9
  show w_W _ _ _ (8, [(0, .ref 26), (1, .int (Int32.ofInt (n)))], [.int (Int32.ofInt (v4))], M) _
  refine w_fin (r := .inl (some (v4))) (M' := M) rfl ?_
  exact ⟨v4, rfl, ⟨by omega, by omega⟩, rfl⟩
def c_Tree_next_Q (fr : Nat → Bool) (X : Nat → Option (q_C (Nat → Int32))) (u l : Nat) (I : Nat → Int) (A : Nat → Int → Int) (B C : Nat → Nat) (M : w_M) (n : Int) : w_X → w_M → Prop := fun r M' => (∃ v : Int, (r = .inl (some v)) ∧ (w_in v) ∧ (M' = M))
set_option maxHeartbeats 100000000 in
set_option maxRecDepth 100000 in
theorem c_Tree_next {L : Nat} {xs : Nat → Int32} {d : Nat} {fr : Nat → Bool} {X : Nat → Option (q_C (Nat → Int32))} {u l : Nat} {I : Nat → Int} {A : Nat → Int → Int} {B C : Nat → Nat} {M : w_M} (n : Int) (hR : w_Rep w_TC fr X u l I A B C M) (hd : 2 ≤ d) (r_n : w_in n) : w_W (z_P L xs) d 161 (0, [(0, .ref 26), (1, .int (Int32.ofInt (n)))], [], M) (c_Tree_next_Q fr X u l I A B C M n) := by
  obtain ⟨ra_n, rb_n⟩ := r_n
  obtain ⟨d, rfl⟩ : ∃ d0, d = d0 + 1 := ⟨d - 1, by omega⟩
  refine w_adv (n := 1) (F' := (1, [(0, .ref 26), (1, .int (Int32.ofInt (n)))], [.ref 26], M)) rfl ?_
  refine w_gf (v := .ref 31) hR rfl rfl rfl rfl ?_
  refine w_adv (n := 1) (F' := (5, [(0, .ref 26), (1, .int (Int32.ofInt (n)))], [.int (Int32.ofInt (n)), .ref 31], M)) rfl ?_
  refine w_call (cm := 21) (as := [(0, .ref 31), (1, .int (Int32.ofInt (n)))]) (rest := []) (o := none) rfl (trivial) (c_at (n) 31 3016 rfl (by decide) hR ⟨by omega, by omega⟩) (fun r1 M2 q3 => ?_)
  rcases q3 with ⟨v4, e5, ⟨r6, r7⟩, e8, f9⟩
  rw [e5, e8]
  replace f9 : ((0 ≤ n ∧ n < (3016 : Int) ∧ v4 = (A 31) (n)) ∨ (¬ (0 ≤ n ∧ n < (3016 : Int)) ∧ v4 = -1)) := f9
  show w_W _ _ _ (8, [(0, .ref 26), (1, .int (Int32.ofInt (n)))], [.int (Int32.ofInt (v4))], M) _
  refine w_fin (r := .inl (some (v4))) (M' := M) rfl ?_
  exact ⟨v4, rfl, ⟨by omega, by omega⟩, rfl⟩
def c_Tree_variable_Q (fr : Nat → Bool) (X : Nat → Option (q_C (Nat → Int32))) (u l : Nat) (I : Nat → Int) (A : Nat → Int → Int) (B C : Nat → Nat) (M : w_M) (n : Int) : w_X → w_M → Prop := fun r M' => (∃ v : Int, (r = .inl (some v)) ∧ (w_in v) ∧ (M' = M))
set_option maxHeartbeats 100000000 in
set_option maxRecDepth 100000 in
theorem c_Tree_variable {L : Nat} {xs : Nat → Int32} {d : Nat} {fr : Nat → Bool} {X : Nat → Option (q_C (Nat → Int32))} {u l : Nat} {I : Nat → Int} {A : Nat → Int → Int} {B C : Nat → Nat} {M : w_M} (n : Int) (hR : w_Rep w_TC fr X u l I A B C M) (hd : 2 ≤ d) (r_n : w_in n) : w_W (z_P L xs) d 162 (0, [(0, .ref 26), (1, .int (Int32.ofInt (n)))], [], M) (c_Tree_variable_Q fr X u l I A B C M n) := by
  obtain ⟨ra_n, rb_n⟩ := r_n
  obtain ⟨d, rfl⟩ : ∃ d0, d = d0 + 1 := ⟨d - 1, by omega⟩
  refine w_adv (n := 1) (F' := (1, [(0, .ref 26), (1, .int (Int32.ofInt (n)))], [.ref 26], M)) rfl ?_
  refine w_gf (v := .ref 32) hR rfl rfl rfl rfl ?_
  refine w_adv (n := 1) (F' := (5, [(0, .ref 26), (1, .int (Int32.ofInt (n)))], [.int (Int32.ofInt (n)), .ref 32], M)) rfl ?_
  refine w_call (cm := 21) (as := [(0, .ref 32), (1, .int (Int32.ofInt (n)))]) (rest := []) (o := none) rfl (trivial) (c_at (n) 32 3016 rfl (by decide) hR ⟨by omega, by omega⟩) (fun r1 M2 q3 => ?_)
  rcases q3 with ⟨v4, e5, ⟨r6, r7⟩, e8, f9⟩
  rw [e5, e8]
  replace f9 : ((0 ≤ n ∧ n < (3016 : Int) ∧ v4 = (A 32) (n)) ∨ (¬ (0 ≤ n ∧ n < (3016 : Int)) ∧ v4 = -1)) := f9
  show w_W _ _ _ (8, [(0, .ref 26), (1, .int (Int32.ofInt (n)))], [.int (Int32.ofInt (v4))], M) _
  refine w_fin (r := .inl (some (v4))) (M' := M) rfl ?_
  exact ⟨v4, rfl, ⟨by omega, by omega⟩, rfl⟩
def c_Scope_next_Q (fr : Nat → Bool) (X : Nat → Option (q_C (Nat → Int32))) (u l : Nat) (I : Nat → Int) (A : Nat → Int → Int) (B C : Nat → Nat) (M : w_M) : w_X → w_M → Prop := fun r M' => (∃ v : Int, (r = .inl (some v)) ∧ (w_in v) ∧ (M' = M))
set_option maxHeartbeats 100000000 in
set_option maxRecDepth 100000 in
theorem c_Scope_next {L : Nat} {xs : Nat → Int32} {d : Nat} {fr : Nat → Bool} {X : Nat → Option (q_C (Nat → Int32))} {u l : Nat} {I : Nat → Int} {A : Nat → Int → Int} {B C : Nat → Nat} {M : w_M} (hR : w_Rep w_TC fr X u l I A B C M) (hd : 2 ≤ d) : w_W (z_P L xs) d 118 (0, [(0, .ref 33)], [], M) (c_Scope_next_Q fr X u l I A B C M) := by
  obtain ⟨d, rfl⟩ : ∃ d0, d = d0 + 1 := ⟨d - 1, by omega⟩
  refine w_adv (n := 1) (F' := (1, [(0, .ref 33)], [.ref 33], M)) rfl ?_
  refine w_gf (v := .int (Int32.ofInt ((I 2117)))) hR rfl rfl rfl rfl ?_
  obtain ⟨r1, r2⟩ : -2147483648 ≤ (I 2117) ∧ (I 2117) ≤ 2147483647 := hR.ri 2117
  refine w_fin (r := .inl (some ((I 2117)))) (M' := M) rfl ?_
  exact ⟨(I 2117), rfl, ⟨by omega, by omega⟩, rfl⟩
def c_Scope_entry_Q (fr : Nat → Bool) (X : Nat → Option (q_C (Nat → Int32))) (u l : Nat) (I : Nat → Int) (A : Nat → Int → Int) (B C : Nat → Nat) (M : w_M) (n : Int) : w_X → w_M → Prop := fun r M' => (∃ v : Int, (r = .inl (some v)) ∧ (w_in v) ∧ (M' = M))
set_option maxHeartbeats 100000000 in
set_option maxRecDepth 100000 in
theorem c_Scope_entry {L : Nat} {xs : Nat → Int32} {d : Nat} {fr : Nat → Bool} {X : Nat → Option (q_C (Nat → Int32))} {u l : Nat} {I : Nat → Int} {A : Nat → Int → Int} {B C : Nat → Nat} {M : w_M} (n : Int) (hR : w_Rep w_TC fr X u l I A B C M) (hd : 2 ≤ d) (r_n : w_in n) : w_W (z_P L xs) d 180 (0, [(0, .ref 33), (1, .int (Int32.ofInt (n)))], [], M) (c_Scope_entry_Q fr X u l I A B C M n) := by
  obtain ⟨ra_n, rb_n⟩ := r_n
  obtain ⟨d, rfl⟩ : ∃ d0, d = d0 + 1 := ⟨d - 1, by omega⟩
  refine w_adv (n := 1) (F' := (1, [(0, .ref 33), (1, .int (Int32.ofInt (n)))], [.ref 33], M)) rfl ?_
  refine w_gf (v := .ref 34) hR rfl rfl rfl rfl ?_
  refine w_adv (n := 1) (F' := (5, [(0, .ref 33), (1, .int (Int32.ofInt (n)))], [.int (Int32.ofInt (n)), .ref 34], M)) rfl ?_
  refine w_call (cm := 21) (as := [(0, .ref 34), (1, .int (Int32.ofInt (n)))]) (rest := []) (o := none) rfl (trivial) (c_at (n) 34 1508 rfl (by decide) hR ⟨by omega, by omega⟩) (fun r1 M2 q3 => ?_)
  rcases q3 with ⟨v4, e5, ⟨r6, r7⟩, e8, f9⟩
  rw [e5, e8]
  replace f9 : ((0 ≤ n ∧ n < (1508 : Int) ∧ v4 = (A 34) (n)) ∨ (¬ (0 ≤ n ∧ n < (1508 : Int)) ∧ v4 = -1)) := f9
  show w_W _ _ _ (8, [(0, .ref 33), (1, .int (Int32.ofInt (n)))], [.int (Int32.ofInt (v4))], M) _
  refine w_fin (r := .inl (some (v4))) (M' := M) rfl ?_
  exact ⟨v4, rfl, ⟨by omega, by omega⟩, rfl⟩
def c_Scope_variable_Q (fr : Nat → Bool) (X : Nat → Option (q_C (Nat → Int32))) (u l : Nat) (I : Nat → Int) (A : Nat → Int → Int) (B C : Nat → Nat) (M : w_M) (n : Int) : w_X → w_M → Prop := fun r M' => (∃ v : Int, (r = .inl (some v)) ∧ (w_in v) ∧ (M' = M))
set_option maxHeartbeats 100000000 in
set_option maxRecDepth 100000 in
theorem c_Scope_variable {L : Nat} {xs : Nat → Int32} {d : Nat} {fr : Nat → Bool} {X : Nat → Option (q_C (Nat → Int32))} {u l : Nat} {I : Nat → Int} {A : Nat → Int → Int} {B C : Nat → Nat} {M : w_M} (n : Int) (hR : w_Rep w_TC fr X u l I A B C M) (hd : 2 ≤ d) (r_n : w_in n) : w_W (z_P L xs) d 155 (0, [(0, .ref 33), (1, .int (Int32.ofInt (n)))], [], M) (c_Scope_variable_Q fr X u l I A B C M n) := by
  obtain ⟨ra_n, rb_n⟩ := r_n
  obtain ⟨d, rfl⟩ : ∃ d0, d = d0 + 1 := ⟨d - 1, by omega⟩
  refine w_adv (n := 1) (F' := (1, [(0, .ref 33), (1, .int (Int32.ofInt (n)))], [.ref 33], M)) rfl ?_
  refine w_gf (v := .ref 36) hR rfl rfl rfl rfl ?_
  refine w_adv (n := 1) (F' := (5, [(0, .ref 33), (1, .int (Int32.ofInt (n)))], [.int (Int32.ofInt (n)), .ref 36], M)) rfl ?_
  refine w_call (cm := 21) (as := [(0, .ref 36), (1, .int (Int32.ofInt (n)))]) (rest := []) (o := none) rfl (trivial) (c_at (n) 36 1508 rfl (by decide) hR ⟨by omega, by omega⟩) (fun r1 M2 q3 => ?_)
  rcases q3 with ⟨v4, e5, ⟨r6, r7⟩, e8, f9⟩
  rw [e5, e8]
  replace f9 : ((0 ≤ n ∧ n < (1508 : Int) ∧ v4 = (A 36) (n)) ∨ (¬ (0 ≤ n ∧ n < (1508 : Int)) ∧ v4 = -1)) := f9
  show w_W _ _ _ (8, [(0, .ref 33), (1, .int (Int32.ofInt (n)))], [.int (Int32.ofInt (v4))], M) _
  refine w_fin (r := .inl (some (v4))) (M' := M) rfl ?_
  exact ⟨v4, rfl, ⟨by omega, by omega⟩, rfl⟩
def c_Kernel_statements_Q (fr : Nat → Bool) (X : Nat → Option (q_C (Nat → Int32))) (u l : Nat) (I : Nat → Int) (A : Nat → Int → Int) (B C : Nat → Nat) (M : w_M) : w_X → w_M → Prop := fun r M' => (∃ v : Int, (r = .inl (some v)) ∧ (w_in v) ∧ (M' = M))
set_option maxHeartbeats 100000000 in
set_option maxRecDepth 100000 in
theorem c_Kernel_statements {L : Nat} {xs : Nat → Int32} {d : Nat} {fr : Nat → Bool} {X : Nat → Option (q_C (Nat → Int32))} {u l : Nat} {I : Nat → Int} {A : Nat → Int → Int} {B C : Nat → Nat} {M : w_M} (hR : w_Rep w_TC fr X u l I A B C M) (hd : 2 ≤ d) : w_W (z_P L xs) d 193 (0, [(0, .ref 16)], [], M) (c_Kernel_statements_Q fr X u l I A B C M) := by
  obtain ⟨d, rfl⟩ : ∃ d0, d = d0 + 1 := ⟨d - 1, by omega⟩
  refine w_adv (n := 1) (F' := (1, [(0, .ref 16)], [.ref 16], M)) rfl ?_
  refine w_gf (v := .int (Int32.ofInt ((I 1034)))) hR rfl rfl rfl rfl ?_
  obtain ⟨r1, r2⟩ : -2147483648 ≤ (I 1034) ∧ (I 1034) ≤ 2147483647 := hR.ri 1034
  refine w_fin (r := .inl (some ((I 1034)))) (M' := M) rfl ?_
  exact ⟨(I 1034), rfl, ⟨by omega, by omega⟩, rfl⟩
def c_Kernel_variables_Q (fr : Nat → Bool) (X : Nat → Option (q_C (Nat → Int32))) (u l : Nat) (I : Nat → Int) (A : Nat → Int → Int) (B C : Nat → Nat) (M : w_M) : w_X → w_M → Prop := fun r M' => (∃ v : Int, (r = .inl (some v)) ∧ (w_in v) ∧ (M' = M))
set_option maxHeartbeats 100000000 in
set_option maxRecDepth 100000 in
theorem c_Kernel_variables {L : Nat} {xs : Nat → Int32} {d : Nat} {fr : Nat → Bool} {X : Nat → Option (q_C (Nat → Int32))} {u l : Nat} {I : Nat → Int} {A : Nat → Int → Int} {B C : Nat → Nat} {M : w_M} (hR : w_Rep w_TC fr X u l I A B C M) (hd : 2 ≤ d) : w_W (z_P L xs) d 194 (0, [(0, .ref 16)], [], M) (c_Kernel_variables_Q fr X u l I A B C M) := by
  obtain ⟨d, rfl⟩ : ∃ d0, d = d0 + 1 := ⟨d - 1, by omega⟩
  refine w_adv (n := 1) (F' := (1, [(0, .ref 16)], [.ref 16], M)) rfl ?_
  refine w_gf (v := .int (Int32.ofInt ((I 1036)))) hR rfl rfl rfl rfl ?_
  obtain ⟨r1, r2⟩ : -2147483648 ≤ (I 1036) ∧ (I 1036) ≤ 2147483647 := hR.ri 1036
  refine w_fin (r := .inl (some ((I 1036)))) (M' := M) rfl ?_
  exact ⟨(I 1036), rfl, ⟨by omega, by omega⟩, rfl⟩
def c_Parser_marks_Q (fr : Nat → Bool) (X : Nat → Option (q_C (Nat → Int32))) (u l : Nat) (I : Nat → Int) (A : Nat → Int → Int) (B C : Nat → Nat) (M : w_M) : w_X → w_M → Prop := fun r M' => (∃ v : Int, (r = .inl (some v)) ∧ (w_in v) ∧ (M' = M))
set_option maxHeartbeats 100000000 in
set_option maxRecDepth 100000 in
theorem c_Parser_marks {L : Nat} {xs : Nat → Int32} {d : Nat} {fr : Nat → Bool} {X : Nat → Option (q_C (Nat → Int32))} {u l : Nat} {I : Nat → Int} {A : Nat → Int → Int} {B C : Nat → Nat} {M : w_M} (hR : w_Rep w_TC fr X u l I A B C M) (hd : 2 ≤ d) : w_W (z_P L xs) d 142 (0, [(0, .ref 38)], [], M) (c_Parser_marks_Q fr X u l I A B C M) := by
  obtain ⟨d, rfl⟩ : ∃ d0, d = d0 + 1 := ⟨d - 1, by omega⟩
  refine w_adv (n := 1) (F' := (1, [(0, .ref 38)], [.ref 38], M)) rfl ?_
  refine w_gf (v := .int (Int32.ofInt ((I 2440)))) hR rfl rfl rfl rfl ?_
  obtain ⟨r1, r2⟩ : -2147483648 ≤ (I 2440) ∧ (I 2440) ≤ 2147483647 := hR.ri 2440
  refine w_fin (r := .inl (some ((I 2440)))) (M' := M) rfl ?_
  exact ⟨(I 2440), rfl, ⟨by omega, by omega⟩, rfl⟩
def c_Parser_trouble_Q (fr : Nat → Bool) (X : Nat → Option (q_C (Nat → Int32))) (u l : Nat) (I : Nat → Int) (A : Nat → Int → Int) (B C : Nat → Nat) (M : w_M) : w_X → w_M → Prop := fun r M' => (∃ v : Int, (r = .inl (some v)) ∧ (w_in v) ∧ (M' = M))
set_option maxHeartbeats 100000000 in
set_option maxRecDepth 100000 in
theorem c_Parser_trouble {L : Nat} {xs : Nat → Int32} {d : Nat} {fr : Nat → Bool} {X : Nat → Option (q_C (Nat → Int32))} {u l : Nat} {I : Nat → Int} {A : Nat → Int → Int} {B C : Nat → Nat} {M : w_M} (hR : w_Rep w_TC fr X u l I A B C M) (hd : 2 ≤ d) : w_W (z_P L xs) d 138 (0, [(0, .ref 38)], [], M) (c_Parser_trouble_Q fr X u l I A B C M) := by
  obtain ⟨d, rfl⟩ : ∃ d0, d = d0 + 1 := ⟨d - 1, by omega⟩
  refine w_adv (n := 1) (F' := (1, [(0, .ref 38)], [.ref 38], M)) rfl ?_
  refine w_gf (v := .int (Int32.ofInt ((I 2441)))) hR rfl rfl rfl rfl ?_
  obtain ⟨r1, r2⟩ : -2147483648 ≤ (I 2441) ∧ (I 2441) ≤ 2147483647 := hR.ri 2441
  refine w_fin (r := .inl (some ((I 2441)))) (M' := M) rfl ?_
  exact ⟨(I 2441), rfl, ⟨by omega, by omega⟩, rfl⟩
def c_Parser_place_Q (fr : Nat → Bool) (X : Nat → Option (q_C (Nat → Int32))) (u l : Nat) (I : Nat → Int) (A : Nat → Int → Int) (B C : Nat → Nat) (M : w_M) : w_X → w_M → Prop := fun r M' => (∃ v : Int, (r = .inl (some v)) ∧ (w_in v) ∧ (M' = M))
set_option maxHeartbeats 100000000 in
set_option maxRecDepth 100000 in
theorem c_Parser_place {L : Nat} {xs : Nat → Int32} {d : Nat} {fr : Nat → Bool} {X : Nat → Option (q_C (Nat → Int32))} {u l : Nat} {I : Nat → Int} {A : Nat → Int → Int} {B C : Nat → Nat} {M : w_M} (hR : w_Rep w_TC fr X u l I A B C M) (hd : 3 ≤ d) : w_W (z_P L xs) d 139 (0, [(0, .ref 38)], [], M) (c_Parser_place_Q fr X u l I A B C M) := by
  obtain ⟨d, rfl⟩ : ∃ d0, d = d0 + 1 := ⟨d - 1, by omega⟩
  refine w_adv (n := 1) (F' := (1, [(0, .ref 38)], [.ref 38], M)) rfl ?_
  refine w_gf (v := .ref 12) hR rfl rfl rfl rfl ?_
  refine w_adv (n := 1) (F' := (5, [(0, .ref 38)], [.ref 38, .ref 12], M)) rfl ?_
  refine w_gf (v := .int (Int32.ofInt ((I 2436)))) hR rfl rfl rfl rfl ?_
  obtain ⟨r1, r2⟩ : -2147483648 ≤ (I 2436) ∧ (I 2436) ≤ 2147483647 := hR.ri 2436
  refine w_call (cm := 97) (as := [(0, .ref 12), (1, .int (Int32.ofInt ((I 2436))))]) (rest := []) (o := some (7, 12)) rfl (w_fitR hR rfl) (c_Tokens_start ((I 2436)) hR (show 2 ≤ d by omega) ⟨by omega, by omega⟩) (fun r3 M4 q5 => ?_)
  rcases q5 with ⟨v6, e7, ⟨r8, r9⟩, e10⟩
  rw [e7, e10]
  show w_W _ _ _ (11, [(0, .ref 38)], [.int (Int32.ofInt (v6))], M) _
  refine w_fin (r := .inl (some (v6))) (M' := M) rfl ?_
  exact ⟨v6, rfl, ⟨by omega, by omega⟩, rfl⟩
