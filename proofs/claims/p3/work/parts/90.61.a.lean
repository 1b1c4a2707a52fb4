/-! TOKENS of the reference. -/
def m_by (t : Int → Int) (n i : Int) : Int := if i < n then (Int32.ofInt (t i) &&& Int32.ofInt 255).toInt else 0
theorem w_eqI {x : Int} {w : Int32} (h : Int32.ofInt x = w) (r : w_in x) : x = w.toInt := by rw [← h, w_toI r]
/-- atoms and names: how many, where their bytes begin -/
def m_NA (I : Nat → Int) (A : Nat → Int → Int) : Prop := (0 ≤ I 2760 ∧ 0 ≤ I 2763 ∧ I 2760 + I 2763 ≤ 400) ∧ ∀ i, 0 ≤ i → i ≤ 401 → (0 ≤ A 49 i ∧ A 49 i ≤ 24 * i) ∧ (0 ≤ A 51 i ∧ A 51 i ≤ 24 * i)
theorem m_NA_up {I I' : Nat → Int} {A A' : Nat → Int → Int} {j v : Int} (h : m_NA I A) (h1 : 0 ≤ I' 2760 ∧ 0 ≤ I' 2763 ∧ I' 2760 + I' 2763 ≤ 400) (h2 : (A' 49 = A 49 ∧ A' 51 = w_upA (A 51) j v) ∨ (A' 51 = A 51 ∧ A' 49 = w_upA (A 49) j v)) (h3 : 0 ≤ v ∧ v ≤ 24 * j) : m_NA I' A' := by
  refine ⟨h1, fun i q0 q1 => ?_⟩
  obtain ⟨g1, g2⟩ := h.2 i q0 q1
  rcases h2 with ⟨e1, e2⟩ | ⟨e1, e2⟩
  · rw [e1, e2]
    refine ⟨g1, ?_⟩
    unfold w_upA
    split
    · omega
    · exact g2
  · rw [e1, e2]
    refine ⟨?_, g2⟩
    unfold w_upA
    split
    · omega
    · exact g1
def m_byteAt_Q (fr : Nat → Bool) (X : Nat → Option (q_C (Nat → Int32))) (u l : Nat) (I : Nat → Int) (A : Nat → Int → Int) (B C : Nat → Nat) (M : w_M) (i : Int) : w_X → w_M → Prop := fun r M' => (∃ v : Int, (r = .inl (some v)) ∧ (w_in v) ∧ (M' = M) ∧ (v = m_by (A 44) (I 2753) (i)) ∧ ((I 2753) ≤ i → v = 0))
set_option maxHeartbeats 100000000 in
set_option maxRecDepth 100000 in
theorem m_byteAt {L : Nat} {xs : Nat → Int32} {d : Nat} {fr : Nat → Bool} {X : Nat → Option (q_C (Nat → Int32))} {u l : Nat} {I : Nat → Int} {A : Nat → Int → Int} {B C : Nat → Nat} {M : w_M} (i : Int) (hR : w_Rep w_TM fr X u l I A B C M) (r_i : w_in i) (hsz : 0 ≤ (I 2753) ∧ (I 2753) ≤ 8192) (h0 : 0 ≤ i) : w_W (z_P L xs) d 212 (0, [(0, .ref 43), (1, .int (Int32.ofInt (i)))], [], M) (m_byteAt_Q fr X u l I A B C M i) := by
  obtain ⟨ra_i, rb_i⟩ := r_i
  refine w_adv (n := 2) (F' := (2, [(0, .ref 43), (1, .int (Int32.ofInt (i)))], [.ref 43, .int (Int32.ofInt (i))], M)) rfl ?_
  refine w_gf (v := .int (Int32.ofInt ((I 2753)))) hR rfl rfl rfl rfl ?_
  obtain ⟨r1, r2⟩ : -2147483648 ≤ (I 2753) ∧ (I 2753) ≤ 2147483647 := hR.ri 2753
  refine w_br2 (a := i) (b := (I 2753)) rfl rfl ⟨by omega, by omega⟩ ⟨by omega, by omega⟩ (fun h3 => ?_) (fun h3 => ?_)
  · have h3 : i ≥ (I 2753) := h3
    show w_W _ _ _ (21, [(0, .ref 43), (1, .int (Int32.ofInt (i)))], [], M) _
    refine w_adv (n := 1) (F' := (22, [(0, .ref 43), (1, .int (Int32.ofInt (i)))], [.int (Int32.ofInt (0))], M)) rfl ?_
    refine w_fin (r := .inl (some (0))) (M' := M) rfl ?_
    exact ⟨0, rfl, ⟨by omega, by omega⟩, rfl, (show 0 = m_by (A 44) (I 2753) (i) by unfold m_by; rw [if_neg (by omega)]), (show (I 2753) ≤ i → 0 = 0 by intro h; omega)⟩
  · have h3 : ¬ (i ≥ (I 2753)) := h3
    show w_W _ _ _ (8, [(0, .ref 43), (1, .int (Int32.ofInt (i)))], [], M) _
    refine w_adv (n := 1) (F' := (9, [(0, .ref 43), (1, .int (Int32.ofInt (i)))], [.ref 43], M)) rfl ?_
    refine w_gf (v := .ref 44) hR rfl rfl rfl rfl ?_
    refine w_adv (n := 1) (F' := (13, [(0, .ref 43), (1, .int (Int32.ofInt (i)))], [.int (Int32.ofInt (i)), .ref 44], M)) rfl ?_
    refine w_la (n := 8192) hR rfl (Or.inr ⟨rfl, rfl⟩) rfl (show 0 ≤ i by omega) (show i < (8192 : Int) by omega) (by decide) ?_
    obtain ⟨r4, r5⟩ : -2147483648 ≤ (A 44) (i) ∧ (A 44) (i) ≤ 2147483647 := hR.ra 44 (i)
    show w_W _ _ _ (14, [(0, .ref 43), (1, .int (Int32.ofInt (i)))], [.int (Int32.ofInt ((A 44) (i)))], M) _
    refine w_adv (n := 2) (F' := (18, [(0, .ref 43), (1, .int (Int32.ofInt (i)))], [.int ((Int32.ofInt ((A 44) (i))) &&& (Int32.ofInt (255)))], M)) rfl ?_
    refine w_int (fun x6 r7 e8 => ?_)
    obtain ⟨r7a, r7b⟩ := r7
    refine w_adv (n := 1) (F' := (22, [(0, .ref 43), (1, .int (Int32.ofInt (i)))], [.int (Int32.ofInt (x6))], M)) rfl ?_
    refine w_fin (r := .inl (some (x6))) (M' := M) rfl ?_
    exact ⟨x6, rfl, ⟨by omega, by omega⟩, rfl, (show x6 = m_by (A 44) (I 2753) (i) by unfold m_by; rw [if_pos (by omega)]; exact w_eqI e8 ⟨by omega, by omega⟩), (show (I 2753) ≤ i → x6 = 0 by intro h; omega)⟩
def m_isSmall_Q (fr : Nat → Bool) (X : Nat → Option (q_C (Nat → Int32))) (u l : Nat) (I : Nat → Int) (A : Nat → Int → Int) (B C : Nat → Nat) (M : w_M) (b : Int) : w_X → w_M → Prop := fun r M' => ((r = .inl (some 1)) ∧ (M' = M) ∧ (97 ≤ b ∧ b ≤ 122)) ∨ ((r = .inl (some 0)) ∧ (M' = M) ∧ (¬ (97 ≤ b ∧ b ≤ 122)))
set_option maxHeartbeats 100000000 in
set_option maxRecDepth 100000 in
theorem m_isSmall {L : Nat} {xs : Nat → Int32} {d : Nat} {fr : Nat → Bool} {X : Nat → Option (q_C (Nat → Int32))} {u l : Nat} {I : Nat → Int} {A : Nat → Int → Int} {B C : Nat → Nat} {M : w_M} (b : Int) (hR : w_Rep w_TM fr X u l I A B C M) (r_b : w_in b) : w_W (z_P L xs) d 214 (0, [(0, .int (Int32.ofInt (b)))], [], M) (m_isSmall_Q fr X u l I A B C M b) := by
  obtain ⟨ra_b, rb_b⟩ := r_b
  refine w_adv (n := 2) (F' := (3, [(0, .int (Int32.ofInt (b)))], [.int (Int32.ofInt (97)), .int (Int32.ofInt (b))], M)) rfl ?_
  refine w_br2 (a := b) (b := 97) rfl rfl ⟨by omega, by omega⟩ ⟨by omega, by omega⟩ (fun h1 => ?_) (fun h1 => ?_)
  · have h1 : b < 97 := h1
    show w_W _ _ _ (16, [(0, .int (Int32.ofInt (b)))], [], M) _
    refine w_adv (n := 1) (F' := (17, [(0, .int (Int32.ofInt (b)))], [.int (Int32.ofInt (0))], M)) rfl ?_
    refine w_fin (r := .inl (some (0))) (M' := M) rfl ?_
    exact Or.inr (⟨rfl, rfl, (show ¬ (97 ≤ b ∧ b ≤ 122) by first | assumption | omega)⟩)
  · have h1 : ¬ (b < 97) := h1
    show w_W _ _ _ (6, [(0, .int (Int32.ofInt (b)))], [], M) _
    refine w_adv (n := 2) (F' := (9, [(0, .int (Int32.ofInt (b)))], [.int (Int32.ofInt (122)), .int (Int32.ofInt (b))], M)) rfl ?_
    refine w_br2 (a := b) (b := 122) rfl rfl ⟨by omega, by omega⟩ ⟨by omega, by omega⟩ (fun h2 => ?_) (fun h2 => ?_)
    · have h2 : b > 122 := h2
      show w_W _ _ _ (16, [(0, .int (Int32.ofInt (b)))], [], M) _
      refine w_adv (n := 1) (F' := (17, [(0, .int (Int32.ofInt (b)))], [.int (Int32.ofInt (0))], M)) rfl ?_
      refine w_fin (r := .inl (some (0))) (M' := M) rfl ?_
      exact Or.inr (⟨rfl, rfl, (show ¬ (97 ≤ b ∧ b ≤ 122) by first | assumption | omega)⟩)
    · have h2 : ¬ (b > 122) := h2
      show w_W _ _ _ (12, [(0, .int (Int32.ofInt (b)))], [], M) _
      refine w_adv (n := 2) (F' := (17, [(0, .int (Int32.ofInt (b)))], [.int (Int32.ofInt (1))], M)) rfl ?_
      refine w_fin (r := .inl (some (1))) (M' := M) rfl ?_
      exact Or.inl ⟨rfl, rfl, (show 97 ≤ b ∧ b ≤ 122 by first | assumption | omega)⟩
def m_isLarge_Q (fr : Nat → Bool) (X : Nat → Option (q_C (Nat → Int32))) (u l : Nat) (I : Nat → Int) (A : Nat → Int → Int) (B C : Nat → Nat) (M : w_M) (b : Int) : w_X → w_M → Prop := fun r M' => ((r = .inl (some 1)) ∧ (M' = M) ∧ (65 ≤ b ∧ b ≤ 90)) ∨ ((r = .inl (some 0)) ∧ (M' = M) ∧ (¬ (65 ≤ b ∧ b ≤ 90)))
set_option maxHeartbeats 100000000 in
set_option maxRecDepth 100000 in
theorem m_isLarge {L : Nat} {xs : Nat → Int32} {d : Nat} {fr : Nat → Bool} {X : Nat → Option (q_C (Nat → Int32))} {u l : Nat} {I : Nat → Int} {A : Nat → Int → Int} {B C : Nat → Nat} {M : w_M} (b : Int) (hR : w_Rep w_TM fr X u l I A B C M) (r_b : w_in b) : w_W (z_P L xs) d 215 (0, [(0, .int (Int32.ofInt (b)))], [], M) (m_isLarge_Q fr X u l I A B C M b) := by
  obtain ⟨ra_b, rb_b⟩ := r_b
  refine w_adv (n := 2) (F' := (3, [(0, .int (Int32.ofInt (b)))], [.int (Int32.ofInt (65)), .int (Int32.ofInt (b))], M)) rfl ?_
  refine w_br2 (a := b) (b := 65) rfl rfl ⟨by omega, by omega⟩ ⟨by omega, by omega⟩ (fun h1 => ?_) (fun h1 => ?_)
  · have h1 : b < 65 := h1
    show w_W _ _ _ (16, [(0, .int (Int32.ofInt (b)))], [], M) _
    refine w_adv (n := 1) (F' := (17, [(0, .int (Int32.ofInt (b)))], [.int (Int32.ofInt (0))], M)) rfl ?_
    refine w_fin (r := .inl (some (0))) (M' := M) rfl ?_
    exact Or.inr (⟨rfl, rfl, (show ¬ (65 ≤ b ∧ b ≤ 90) by first | assumption | omega)⟩)
  · have h1 : ¬ (b < 65) := h1
    show w_W _ _ _ (6, [(0, .int (Int32.ofInt (b)))], [], M) _
    refine w_adv (n := 2) (F' := (9, [(0, .int (Int32.ofInt (b)))], [.int (Int32.ofInt (90)), .int (Int32.ofInt (b))], M)) rfl ?_
    refine w_br2 (a := b) (b := 90) rfl rfl ⟨by omega, by omega⟩ ⟨by omega, by omega⟩ (fun h2 => ?_) (fun h2 => ?_)
    · have h2 : b > 90 := h2
      show w_W _ _ _ (16, [(0, .int (Int32.ofInt (b)))], [], M) _
      refine w_adv (n := 1) (F' := (17, [(0, .int (Int32.ofInt (b)))], [.int (Int32.ofInt (0))], M)) rfl ?_
      refine w_fin (r := .inl (some (0))) (M' := M) rfl ?_
      exact Or.inr (⟨rfl, rfl, (show ¬ (65 ≤ b ∧ b ≤ 90) by first | assumption | omega)⟩)
    · have h2 : ¬ (b > 90) := h2
      show w_W _ _ _ (12, [(0, .int (Int32.ofInt (b)))], [], M) _
      refine w_adv (n := 2) (F' := (17, [(0, .int (Int32.ofInt (b)))], [.int (Int32.ofInt (1))], M)) rfl ?_
      refine w_fin (r := .inl (some (1))) (M' := M) rfl ?_
      exact Or.inl ⟨rfl, rfl, (show 65 ≤ b ∧ b ≤ 90 by first | assumption | omega)⟩
def m_isDigit_Q (fr : Nat → Bool) (X : Nat → Option (q_C (Nat → Int32))) (u l : Nat) (I : Nat → Int) (A : Nat → Int → Int) (B C : Nat → Nat) (M : w_M) (b : Int) : w_X → w_M → Prop := fun r M' => ((r = .inl (some 1)) ∧ (M' = M) ∧ (48 ≤ b ∧ b ≤ 57)) ∨ ((r = .inl (some 0)) ∧ (M' = M) ∧ (¬ (48 ≤ b ∧ b ≤ 57)))
set_option maxHeartbeats 100000000 in
set_option maxRecDepth 100000 in
theorem m_isDigit {L : Nat} {xs : Nat → Int32} {d : Nat} {fr : Nat → Bool} {X : Nat → Option (q_C (Nat → Int32))} {u l : Nat} {I : Nat → Int} {A : Nat → Int → Int} {B C : Nat → Nat} {M : w_M} (b : Int) (hR : w_Rep w_TM fr X u l I A B C M) (r_b : w_in b) : w_W (z_P L xs) d 217 (0, [(0, .int (Int32.ofInt (b)))], [], M) (m_isDigit_Q fr X u l I A B C M b) := by
  obtain ⟨ra_b, rb_b⟩ := r_b
  refine w_adv (n := 2) (F' := (3, [(0, .int (Int32.ofInt (b)))], [.int (Int32.ofInt (48)), .int (Int32.ofInt (b))], M)) rfl ?_
  refine w_br2 (a := b) (b := 48) rfl rfl ⟨by omega, by omega⟩ ⟨by omega, by omega⟩ (fun h1 => ?_) (fun h1 => ?_)
  · have h1 : b < 48 := h1
    show w_W _ _ _ (16, [(0, .int (Int32.ofInt (b)))], [], M) _
    refine w_adv (n := 1) (F' := (17, [(0, .int (Int32.ofInt (b)))], [.int (Int32.ofInt (0))], M)) rfl ?_
    refine w_fin (r := .inl (some (0))) (M' := M) rfl ?_
    exact Or.inr (⟨rfl, rfl, (show ¬ (48 ≤ b ∧ b ≤ 57) by first | assumption | omega)⟩)
  · have h1 : ¬ (b < 48) := h1
    show w_W _ _ _ (6, [(0, .int (Int32.ofInt (b)))], [], M) _
    refine w_adv (n := 2) (F' := (9, [(0, .int (Int32.ofInt (b)))], [.int (Int32.ofInt (57)), .int (Int32.ofInt (b))], M)) rfl ?_
    refine w_br2 (a := b) (b := 57) rfl rfl ⟨by omega, by omega⟩ ⟨by omega, by omega⟩ (fun h2 => ?_) (fun h2 => ?_)
    · have h2 : b > 57 := h2
      show w_W _ _ _ (16, [(0, .int (Int32.ofInt (b)))], [], M) _
      refine w_adv (n := 1) (F' := (17, [(0, .int (Int32.ofInt (b)))], [.int (Int32.ofInt (0))], M)) rfl ?_
      refine w_fin (r := .inl (some (0))) (M' := M) rfl ?_
      exact Or.inr (⟨rfl, rfl, (show ¬ (48 ≤ b ∧ b ≤ 57) by first | assumption | omega)⟩)
    · have h2 : ¬ (b > 57) := h2
      show w_W _ _ _ (12, [(0, .int (Int32.ofInt (b)))], [], M) _
      refine w_adv (n := 2) (F' := (17, [(0, .int (Int32.ofInt (b)))], [.int (Int32.ofInt (1))], M)) rfl ?_
      refine w_fin (r := .inl (some (1))) (M' := M) rfl ?_
      exact Or.inl ⟨rfl, rfl, (show 48 ≤ b ∧ b ≤ 57 by first | assumption | omega)⟩
def m_goesOn_Q (fr : Nat → Bool) (X : Nat → Option (q_C (Nat → Int32))) (u l : Nat) (I : Nat → Int) (A : Nat → Int → Int) (B C : Nat → Nat) (M : w_M) (b : Int) : w_X → w_M → Prop := fun r M' => ((r = .inl (some 1)) ∧ (M' = M) ∧ (48 ≤ b)) ∨ ((r = .inl (some 0)) ∧ (M' = M))
set_option maxHeartbeats 100000000 in
set_option maxRecDepth 100000 in
theorem m_goesOn {L : Nat} {xs : Nat → Int32} {d : Nat} {fr : Nat → Bool} {X : Nat → Option (q_C (Nat → Int32))} {u l : Nat} {I : Nat → Int} {A : Nat → Int → Int} {B C : Nat → Nat} {M : w_M} (b : Int) (hR : w_Rep w_TM fr X u l I A B C M) (hd : 1 ≤ d) (r_b : w_in b) : w_W (z_P L xs) d 216 (0, [(0, .int (Int32.ofInt (b)))], [], M) (m_goesOn_Q fr X u l I A B C M b) := by
  obtain ⟨ra_b, rb_b⟩ := r_b
  obtain ⟨d, rfl⟩ : ∃ d0, d = d0 + 1 := ⟨d - 1, by omega⟩
  refine w_adv (n := 1) (F' := (1, [(0, .int (Int32.ofInt (b)))], [.int (Int32.ofInt (b))], M)) rfl ?_
  refine w_call (cm := 214) (as := [(0, .int (Int32.ofInt (b)))]) (rest := []) (o := none) rfl (trivial) (m_isSmall (b) hR ⟨by omega, by omega⟩) (fun r1 M2 q3 => ?_)
  rcases q3 with ⟨e4, e5, f6⟩ | ⟨e7, e8, f9⟩
  · rw [e4, e5]
    replace f6 : 97 ≤ b ∧ b ≤ 122 := f6
    show w_W _ _ _ (4, [(0, .int (Int32.ofInt (b)))], [.int (Int32.ofInt (1))], M) _
    refine w_adv (n := 3) (F' := (32, [(0, .int (Int32.ofInt (b)))], [.int (Int32.ofInt (1))], M)) rfl ?_
    refine w_fin (r := .inl (some (1))) (M' := M) rfl ?_
    exact Or.inl ⟨rfl, rfl, (show 48 ≤ b by first | assumption | omega)⟩
  · rw [e7, e8]
    replace f9 : ¬ (97 ≤ b ∧ b ≤ 122) := f9
    show w_W _ _ _ (4, [(0, .int (Int32.ofInt (b)))], [.int (Int32.ofInt (0))], M) _
    refine w_adv (n := 2) (F' := (8, [(0, .int (Int32.ofInt (b)))], [.int (Int32.ofInt (b))], M)) rfl ?_
    refine w_call (cm := 215) (as := [(0, .int (Int32.ofInt (b)))]) (rest := []) (o := none) rfl (trivial) (m_isLarge (b) hR ⟨by omega, by omega⟩) (fun r10 M11 q12 => ?_)
    rcases q12 with ⟨e13, e14, f15⟩ | ⟨e16, e17, f18⟩
    · rw [e13, e14]
      replace f15 : 65 ≤ b ∧ b ≤ 90 := f15
      show w_W _ _ _ (11, [(0, .int (Int32.ofInt (b)))], [.int (Int32.ofInt (1))], M) _
      refine w_adv (n := 3) (F' := (32, [(0, .int (Int32.ofInt (b)))], [.int (Int32.ofInt (1))], M)) rfl ?_
      refine w_fin (r := .inl (some (1))) (M' := M) rfl ?_
      exact Or.inl ⟨rfl, rfl, (show 48 ≤ b by first | assumption | omega)⟩
    · rw [e16, e17]
      replace f18 : ¬ (65 ≤ b ∧ b ≤ 90) := f18
      show w_W _ _ _ (11, [(0, .int (Int32.ofInt (b)))], [.int (Int32.ofInt (0))], M) _
      refine w_adv (n := 2) (F' := (15, [(0, .int (Int32.ofInt (b)))], [.int (Int32.ofInt (b))], M)) rfl ?_
      refine w_call (cm := 217) (as := [(0, .int (Int32.ofInt (b)))]) (rest := []) (o := none) rfl (trivial) (m_isDigit (b) hR ⟨by omega, by omega⟩) (fun r19 M20 q21 => ?_)
      rcases q21 with ⟨e22, e23, f24⟩ | ⟨e25, e26, f27⟩
      · rw [e22, e23]
        replace f24 : 48 ≤ b ∧ b ≤ 57 := f24
        show w_W _ _ _ (18, [(0, .int (Int32.ofInt (b)))], [.int (Int32.ofInt (1))], M) _
        refine w_adv (n := 3) (F' := (32, [(0, .int (Int32.ofInt (b)))], [.int (Int32.ofInt (1))], M)) rfl ?_
        refine w_fin (r := .inl (some (1))) (M' := M) rfl ?_
        exact Or.inl ⟨rfl, rfl, (show 48 ≤ b by first | assumption | omega)⟩
      · rw [e25, e26]
        replace f27 : ¬ (48 ≤ b ∧ b ≤ 57) := f27
        show w_W _ _ _ (18, [(0, .int (Int32.ofInt (b)))], [.int (Int32.ofInt (0))], M) _
        refine w_adv (n := 3) (F' := (24, [(0, .int (Int32.ofInt (b)))], [.int (Int32.ofInt (95)), .int (Int32.ofInt (b))], M)) rfl ?_
        refine w_br2 (a := b) (b := 95) rfl rfl ⟨by omega, by omega⟩ ⟨by omega, by omega⟩ (fun h28 => ?_) (fun h28 => ?_)
        · have h28 : ¬ b = 95 := h28
          show w_W _ _ _ (31, [(0, .int (Int32.ofInt (b)))], [], M) _
          refine w_adv (n := 1) (F' := (32, [(0, .int (Int32.ofInt (b)))], [.int (Int32.ofInt (0))], M)) rfl ?_
          refine w_fin (r := .inl (some (0))) (M' := M) rfl ?_
          exact Or.inr (⟨rfl, rfl⟩)
        · have h28 : ¬ (¬ b = 95) := h28
          show w_W _ _ _ (27, [(0, .int (Int32.ofInt (b)))], [], M) _
          refine w_adv (n := 2) (F' := (32, [(0, .int (Int32.ofInt (b)))], [.int (Int32.ofInt (1))], M)) rfl ?_
          refine w_fin (r := .inl (some (1))) (M' := M) rfl ?_
          exact Or.inl ⟨rfl, rfl, (show 48 ≤ b by first | assumption | omega)⟩
def m_token_Q (fr : Nat → Bool) (X : Nat → Option (q_C (Nat → Int32))) (u l : Nat) (I : Nat → Int) (A : Nat → Int → Int) (B C : Nat → Nat) (M : w_M) (kd : Int) (nu : Int) (fm : Int) (tt : Int) : w_X → w_M → Prop := fun r M' => ((r = .inl none) ∧ (w_Rep w_TM fr X u l (w_up I 2754 ((I 2754) + 1)) (w_upF (w_upF (w_upF (w_upF A 45 (w_upA (A 45) ((I 2754)) (kd))) 46 (w_upA (A 46) ((I 2754)) (nu))) 47 (w_upA (A 47) ((I 2754)) (fm))) 48 (w_upA (A 48) ((I 2754)) (tt))) B C M'))
set_option maxHeartbeats 100000000 in
set_option maxRecDepth 100000 in
theorem m_token {L : Nat} {xs : Nat → Int32} {d : Nat} {fr : Nat → Bool} {X : Nat → Option (q_C (Nat → Int32))} {u l : Nat} {I : Nat → Int} {A : Nat → Int → Int} {B C : Nat → Nat} {M : w_M} (kd : Int) (nu : Int) (fm : Int) (tt : Int) (hR : w_Rep w_TM fr X u l I A B C M) (r_kd : w_in kd) (r_nu : w_in nu) (r_fm : w_in fm) (r_tt : w_in tt) (ht : 0 ≤ (I 2754) ∧ (I 2754) ≤ 1501) : w_W (z_P L xs) d 224 (0, [(0, .ref 43), (1, .int (Int32.ofInt (kd))), (2, .int (Int32.ofInt (nu))), (3, .int (Int32.ofInt (fm))), (4, .int (Int32.ofInt (tt)))], [], M) (m_token_Q fr X u l I A B C M kd nu fm tt) := by
  obtain ⟨ra_kd, rb_kd⟩ := r_kd
  obtain ⟨ra_nu, rb_nu⟩ := r_nu
  obtain ⟨ra_fm, rb_fm⟩ := r_fm
  obtain ⟨ra_tt, rb_tt⟩ := r_tt
  refine w_adv (n := 1) (F' := (1, [(0, .ref 43), (1, .int (Int32.ofInt (kd))), (2, .int (Int32.ofInt (nu))), (3, .int (Int32.ofInt (fm))), (4, .int (Int32.ofInt (tt)))], [.ref 43], M)) rfl ?_
  refine w_gf (v := .ref 45) hR rfl rfl rfl rfl ?_
  refine w_adv (n := 1) (F' := (5, [(0, .ref 43), (1, .int (Int32.ofInt (kd))), (2, .int (Int32.ofInt (nu))), (3, .int (Int32.ofInt (fm))), (4, .int (Int32.ofInt (tt)))], [.ref 43, .ref 45], M)) rfl ?_
  refine w_gf (v := .int (Int32.ofInt ((I 2754)))) hR rfl rfl rfl rfl ?_
  obtain ⟨r1, r2⟩ : -2147483648 ≤ (I 2754) ∧ (I 2754) ≤ 2147483647 := hR.ri 2754
  refine w_adv (n := 1) (F' := (9, [(0, .ref 43), (1, .int (Int32.ofInt (kd))), (2, .int (Int32.ofInt (nu))), (3, .int (Int32.ofInt (fm))), (4, .int (Int32.ofInt (tt)))], [.int (Int32.ofInt (kd)), .int (Int32.ofInt ((I 2754))), .ref 45], M)) rfl ?_
  refine w_sai (n := 1502) hR rfl rfl (show 0 ≤ (I 2754) by omega) (show (I 2754) < (1502 : Int) by omega) (by decide) (show w_in (kd) from ⟨by omega, by omega⟩) (fun M3 hR4 => ?_)
  replace hR4 : w_Rep w_TM fr X u l I (w_upF A 45 (w_upA (A 45) ((I 2754)) (kd))) B C M3 := hR4
  refine w_adv (n := 1) (F' := (11, [(0, .ref 43), (1, .int (Int32.ofInt (kd))), (2, .int (Int32.ofInt (nu))), (3, .int (Int32.ofInt (fm))), (4, .int (Int32.ofInt (tt)))], [.ref 43], M3)) rfl ?_
  refine w_gf (v := .ref 46) hR4 rfl rfl rfl rfl ?_
  refine w_adv (n := 1) (F' := (15, [(0, .ref 43), (1, .int (Int32.ofInt (kd))), (2, .int (Int32.ofInt (nu))), (3, .int (Int32.ofInt (fm))), (4, .int (Int32.ofInt (tt)))], [.ref 43, .ref 46], M3)) rfl ?_
  refine w_gf (v := .int (Int32.ofInt ((I 2754)))) hR4 rfl rfl rfl rfl ?_
  refine w_adv (n := 1) (F' := (19, [(0, .ref 43), (1, .int (Int32.ofInt (kd))), (2, .int (Int32.ofInt (nu))), (3, .int (Int32.ofInt (fm))), (4, .int (Int32.ofInt (tt)))], [.int (Int32.ofInt (nu)), .int (Int32.ofInt ((I 2754))), .ref 46], M3)) rfl ?_
  refine w_sai (n := 1502) hR4 rfl rfl (show 0 ≤ (I 2754) by omega) (show (I 2754) < (1502 : Int) by omega) (by decide) (show w_in (nu) from ⟨by omega, by omega⟩) (fun M5 hR6 => ?_)
  replace hR6 : w_Rep w_TM fr X u l I (w_upF (w_upF A 45 (w_upA (A 45) ((I 2754)) (kd))) 46 (w_upA (A 46) ((I 2754)) (nu))) B C M5 := hR6
  refine w_adv (n := 1) (F' := (21, [(0, .ref 43), (1, .int (Int32.ofInt (kd))), (2, .int (Int32.ofInt (nu))), (3, .int (Int32.ofInt (fm))), (4, .int (Int32.ofInt (tt)))], [.ref 43], M5)) rfl ?_
  refine w_gf (v := .ref 47) hR6 rfl rfl rfl rfl ?_
  refine w_adv (n := 1) (F' := (25, [(0, .ref 43), (1, .int (Int32.ofInt (kd))), (2, .int (Int32.ofInt (nu))), (3, .int (Int32.ofInt (fm))), (4, .int (Int32.ofInt (tt)))], [.ref 43, .ref 47], M5)) rfl ?_
  refine w_gf (v := .int (Int32.ofInt ((I 2754)))) hR6 rfl rfl rfl rfl ?_
  refine w_adv (n := 1) (F' := (29, [(0, .ref 43), (1, .int (Int32.ofInt (kd))), (2, .int (Int32.ofInt (nu))), (3, .int (Int32.ofInt (fm))), (4, .int (Int32.ofInt (tt)))], [.int (Int32.ofInt (fm)), .int (Int32.ofInt ((I 2754))), .ref 47], M5)) rfl ?_
  refine w_sai (n := 1502) hR6 rfl rfl (show 0 ≤ (I 2754) by omega) (show (I 2754) < (1502 : Int) by omega) (by decide) (show w_in (fm) from ⟨by omega, by omega⟩) (fun M7 hR8 => ?_)
  replace hR8 : w_Rep w_TM fr X u l I (w_upF (w_upF (w_upF A 45 (w_upA (A 45) ((I 2754)) (kd))) 46 (w_upA (A 46) ((I 2754)) (nu))) 47 (w_upA (A 47) ((I 2754)) (fm))) B C M7 := hR8
  refine w_adv (n := 1) (F' := (31, [(0, .ref 43), (1, .int (Int32.ofInt (kd))), (2, .int (Int32.ofInt (nu))), (3, .int (Int32.ofInt (fm))), (4, .int (Int32.ofInt (tt)))], [.ref 43], M7)) rfl ?_
  refine w_gf (v := .ref 48) hR8 rfl rfl rfl rfl ?_
  refine w_adv (n := 1) (F' := (35, [(0, .ref 43), (1, .int (Int32.ofInt (kd))), (2, .int (Int32.ofInt (nu))), (3, .int (Int32.ofInt (fm))), (4, .int (Int32.ofInt (tt)))], [.ref 43, .ref 48], M7)) rfl ?_
  refine w_gf (v := .int (Int32.ofInt ((I 2754)))) hR8 rfl rfl rfl rfl ?_
  refine w_adv (n := 1) (F' := (40, [(0, .ref 43), (1, .int (Int32.ofInt (kd))), (2, .int (Int32.ofInt (nu))), (3, .int (Int32.ofInt (fm))), (4, .int (Int32.ofInt (tt)))], [.int (Int32.ofInt (tt)), .int (Int32.ofInt ((I 2754))), .ref 48], M7)) rfl ?_
  refine w_sai (n := 1502) hR8 rfl rfl (show 0 ≤ (I 2754) by omega) (show (I 2754) < (1502 : Int) by omega) (by decide) (show w_in (tt) from ⟨by omega, by omega⟩) (fun M9 hR10 => ?_)
  replace hR10 : w_Rep w_TM fr X u l I (w_upF (w_upF (w_upF (w_upF A 45 (w_upA (A 45) ((I 2754)) (kd))) 46 (w_upA (A 46) ((I 2754)) (nu))) 47 (w_upA (A 47) ((I 2754)) (fm))) 48 (w_upA (A 48) ((I 2754)) (tt))) B C M9 := hR10
  refine w_adv (n := 2) (F' := (43, [(0, .ref 43), (1, .int (Int32.ofInt (kd))), (2, .int (Int32.ofInt (nu))), (3, .int (Int32.ofInt (fm))), (4, .int (Int32.ofInt (tt)))], [.ref 43, .ref 43], M9)) rfl ?_
  refine w_gf (v := .int (Int32.ofInt ((I 2754)))) hR10 rfl rfl rfl rfl ?_
  refine w_adv (n := 1) (F' := (47, [(0, .ref 43), (1, .int (Int32.ofInt (kd))), (2, .int (Int32.ofInt (nu))), (3, .int (Int32.ofInt (fm))), (4, .int (Int32.ofInt (tt)))], [.int (Int32.ofInt (1)), .int (Int32.ofInt ((I 2754))), .ref 43], M9)) rfl ?_
  refine w_add rfl ?_
  refine w_pf hR10 rfl rfl rfl rfl (show w_in ((I 2754) + 1) from ⟨by omega, by omega⟩) (fun h => absurd h (by decide)) (fun M11 hR12 => ?_)
  replace hR12 : w_Rep w_TM fr X u l (w_up I 2754 ((I 2754) + 1)) (w_upF (w_upF (w_upF (w_upF A 45 (w_upA (A 45) ((I 2754)) (kd))) 46 (w_upA (A 46) ((I 2754)) (nu))) 47 (w_upA (A 47) ((I 2754)) (fm))) 48 (w_upA (A 48) ((I 2754)) (tt))) B C M11 := hR12
  refine w_fin (r := .inl none) (M' := M11) rfl ?_
  exact ⟨rfl, hR12⟩
