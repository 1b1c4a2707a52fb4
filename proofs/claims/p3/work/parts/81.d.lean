/-! the kernel's short methods, the scope's bind and meaning. -/
def c_Kernel_makeVariable_Q (fr : Nat → Bool) (X : Nat → Option (q_C (Nat → Int32))) (u l : Nat) (I : Nat → Int) (A : Nat → Int → Int) (B C : Nat → Nat) (M : w_M) (n : Int) : w_X → w_M → Prop := fun r M' => ((r = .inl (some (-1))) ∧ (M' = M) ∧ (3107 ≤ (I 1036))) ∨ ((r = .inl (some (I 1036))) ∧ (w_Rep w_TC fr X u l (w_up I 1036 ((I 1036) + 1)) (w_upF A 25 (w_upG 3107 (A 25) ((I 1036)) (n))) B C M') ∧ ((I 1036) < 3107))
set_option maxHeartbeats 100000000 in
set_option maxRecDepth 100000 in
theorem c_Kernel_makeVariable {L : Nat} {xs : Nat → Int32} {d : Nat} {fr : Nat → Bool} {X : Nat → Option (q_C (Nat → Int32))} {u l : Nat} {I : Nat → Int} {A : Nat → Int → Int} {B C : Nat → Nat} {M : w_M} (n : Int) (hR : w_Rep w_TC fr X u l I A B C M) (hd : 2 ≤ d) (r_n : w_in n) : w_W (z_P L xs) d 31 (0, [(0, .ref 16), (1, .int (Int32.ofInt (n)))], [], M) (c_Kernel_makeVariable_Q fr X u l I A B C M n) := by
  obtain ⟨ra_n, rb_n⟩ := r_n
  obtain ⟨d, rfl⟩ : ∃ d0, d = d0 + 1 := ⟨d - 1, by omega⟩
  refine w_adv (n := 1) (F' := (1, [(0, .ref 16), (1, .int (Int32.ofInt (n)))], [.ref 16], M)) rfl ?_
  refine w_gf (v := .int (Int32.ofInt ((I 1036)))) hR rfl rfl rfl rfl ?_
  obtain ⟨r1, r2⟩ : -2147483648 ≤ (I 1036) ∧ (I 1036) ≤ 2147483647 := hR.ri 1036
  refine w_adv (n := 1) (F' := (7, [(0, .ref 16), (1, .int (Int32.ofInt (n)))], [.int (Int32.ofInt (3107)), .int (Int32.ofInt ((I 1036)))], M)) rfl ?_
  refine w_br2 (a := (I 1036)) (b := 3107) rfl rfl ⟨by omega, by omega⟩ ⟨by omega, by omega⟩ (fun h3 => ?_) (fun h3 => ?_)
  · have h3 : (I 1036) < 3107 := h3
    show w_W _ _ _ (12, [(0, .ref 16), (1, .int (Int32.ofInt (n)))], [], M) _
    refine w_adv (n := 1) (F' := (13, [(0, .ref 16), (1, .int (Int32.ofInt (n)))], [.ref 16], M)) rfl ?_
    refine w_gf (v := .int (Int32.ofInt ((I 1036)))) hR rfl rfl rfl rfl ?_
    refine w_adv (n := 2) (F' := (18, [(2, .int (Int32.ofInt ((I 1036)))), (0, .ref 16), (1, .int (Int32.ofInt (n)))], [.ref 16], M)) rfl ?_
    refine w_gf (v := .ref 25) hR rfl rfl rfl rfl ?_
    refine w_adv (n := 2) (F' := (23, [(2, .int (Int32.ofInt ((I 1036)))), (0, .ref 16), (1, .int (Int32.ofInt (n)))], [.int (Int32.ofInt (n)), .int (Int32.ofInt ((I 1036))), .ref 25], M)) rfl ?_
    refine w_call (cm := 25) (as := [(0, .ref 25), (1, .int (Int32.ofInt ((I 1036)))), (2, .int (Int32.ofInt (n)))]) (rest := []) (o := none) rfl (trivial) (c_set ((I 1036)) (n) 25 3107 rfl (by decide) hR ⟨by omega, by omega⟩ ⟨by omega, by omega⟩) (fun r4 M5 q6 => ?_)
    rcases q6 with ⟨e7, hR6a⟩
    rw [e7]
    replace hR6a : w_Rep w_TC fr X u l I (w_upF A 25 (w_upG 3107 (A 25) ((I 1036)) (n))) B C M5 := hR6a
    show w_W _ _ _ (26, [(2, .int (Int32.ofInt ((I 1036)))), (0, .ref 16), (1, .int (Int32.ofInt (n)))], [], M5) _
    refine w_adv (n := 2) (F' := (28, [(2, .int (Int32.ofInt ((I 1036)))), (0, .ref 16), (1, .int (Int32.ofInt (n)))], [.ref 16, .ref 16], M5)) rfl ?_
    refine w_gf (v := .int (Int32.ofInt ((I 1036)))) hR6a rfl rfl rfl rfl ?_
    refine w_adv (n := 1) (F' := (32, [(2, .int (Int32.ofInt ((I 1036)))), (0, .ref 16), (1, .int (Int32.ofInt (n)))], [.int (Int32.ofInt (1)), .int (Int32.ofInt ((I 1036))), .ref 16], M5)) rfl ?_
    refine w_add rfl ?_
    refine w_pf hR6a rfl rfl rfl rfl (show w_in ((I 1036) + 1) from ⟨by omega, by omega⟩) (fun h => absurd h (by decide)) (fun M8 hR9 => ?_)
    replace hR9 : w_Rep w_TC fr X u l (w_up I 1036 ((I 1036) + 1)) (w_upF A 25 (w_upG 3107 (A 25) ((I 1036)) (n))) B C M8 := hR9
    refine w_adv (n := 1) (F' := (37, [(2, .int (Int32.ofInt ((I 1036)))), (0, .ref 16), (1, .int (Int32.ofInt (n)))], [.int (Int32.ofInt ((I 1036)))], M8)) rfl ?_
    refine w_fin (r := .inl (some ((I 1036)))) (M' := M8) rfl ?_
    exact Or.inr (⟨rfl, hR9, (show (I 1036) < 3107 by first | assumption | omega)⟩)
  · have h3 : ¬ ((I 1036) < 3107) := h3
    show w_W _ _ _ (10, [(0, .ref 16), (1, .int (Int32.ofInt (n)))], [], M) _
    refine w_adv (n := 1) (F' := (11, [(0, .ref 16), (1, .int (Int32.ofInt (n)))], [.int (Int32.ofInt ((-1)))], M)) rfl ?_
    refine w_fin (r := .inl (some ((-1)))) (M' := M) rfl ?_
    first
      | exact Or.inl ⟨rfl, rfl, (show 3107 ≤ (I 1036) by first | assumption | omega)⟩
      | exact Or.inr (⟨rfl, (w_Rep.up hR (show (w_up I 1036 ((I 1036) + 1)) = I from (funext fun s => if e0 : s = 1036 then (by subst e0; rfl) else (by simp only [w_up_ne e0]))) (show (w_upF A 25 (w_upG 3107 (A 25) ((I 1036)) (n))) = A from (funext fun s => if e0 : s = 25 then (by subst e0; rfl) else (by simp only [w_upF_ne e0])))), (show (I 1036) < 3107 by first | assumption | omega)⟩)
def c_Kernel_nameOf_Q (fr : Nat → Bool) (X : Nat → Option (q_C (Nat → Int32))) (u l : Nat) (I : Nat → Int) (A : Nat → Int → Int) (B C : Nat → Nat) (M : w_M) (n : Int) : w_X → w_M → Prop := fun r M' => (∃ v : Int, (r = .inl (some v)) ∧ (w_in v) ∧ (M' = M))
set_option maxHeartbeats 100000000 in
set_option maxRecDepth 100000 in
theorem c_Kernel_nameOf {L : Nat} {xs : Nat → Int32} {d : Nat} {fr : Nat → Bool} {X : Nat → Option (q_C (Nat → Int32))} {u l : Nat} {I : Nat → Int} {A : Nat → Int → Int} {B C : Nat → Nat} {M : w_M} (n : Int) (hR : w_Rep w_TC fr X u l I A B C M) (hd : 2 ≤ d) (r_n : w_in n) : w_W (z_P L xs) d 202 (0, [(0, .ref 16), (1, .int (Int32.ofInt (n)))], [], M) (c_Kernel_nameOf_Q fr X u l I A B C M n) := by
  obtain ⟨ra_n, rb_n⟩ := r_n
  obtain ⟨d, rfl⟩ : ∃ d0, d = d0 + 1 := ⟨d - 1, by omega⟩
  refine w_adv (n := 1) (F' := (1, [(0, .ref 16), (1, .int (Int32.ofInt (n)))], [.int (Int32.ofInt (n))], M)) rfl ?_
  refine w_br1 (a := n) rfl rfl ⟨by omega, by omega⟩ (fun h1 => ?_) (fun h1 => ?_)
  · have h1 : n < 0 := h1
    show w_W _ _ _ (23, [(0, .ref 16), (1, .int (Int32.ofInt (n)))], [], M) _
    refine w_adv (n := 1) (F' := (24, [(0, .ref 16), (1, .int (Int32.ofInt (n)))], [.int (Int32.ofInt ((-1)))], M)) rfl ?_
    refine w_fin (r := .inl (some ((-1)))) (M' := M) rfl ?_
    exact ⟨(-1), rfl, ⟨by omega, by omega⟩, rfl⟩
  · have h1 : ¬ (n < 0) := h1
    show w_W _ _ _ (4, [(0, .ref 16), (1, .int (Int32.ofInt (n)))], [], M) _
    refine w_adv (n := 2) (F' := (6, [(0, .ref 16), (1, .int (Int32.ofInt (n)))], [.ref 16, .int (Int32.ofInt (n))], M)) rfl ?_
    refine w_gf (v := .int (Int32.ofInt ((I 1036)))) hR rfl rfl rfl rfl ?_
    obtain ⟨r2, r3⟩ : -2147483648 ≤ (I 1036) ∧ (I 1036) ≤ 2147483647 := hR.ri 1036
    refine w_br2 (a := n) (b := (I 1036)) rfl rfl ⟨by omega, by omega⟩ ⟨by omega, by omega⟩ (fun h4 => ?_) (fun h4 => ?_)
    · have h4 : n ≥ (I 1036) := h4
      show w_W _ _ _ (23, [(0, .ref 16), (1, .int (Int32.ofInt (n)))], [], M) _
      refine w_adv (n := 1) (F' := (24, [(0, .ref 16), (1, .int (Int32.ofInt (n)))], [.int (Int32.ofInt ((-1)))], M)) rfl ?_
      refine w_fin (r := .inl (some ((-1)))) (M' := M) rfl ?_
      exact ⟨(-1), rfl, ⟨by omega, by omega⟩, rfl⟩
    · have h4 : ¬ (n ≥ (I 1036)) := h4
      show w_W _ _ _ (12, [(0, .ref 16), (1, .int (Int32.ofInt (n)))], [], M) _
      refine w_adv (n := 1) (F' := (13, [(0, .ref 16), (1, .int (Int32.ofInt (n)))], [.ref 16], M)) rfl ?_
      refine w_gf (v := .ref 25) hR rfl rfl rfl rfl ?_
      refine w_adv (n := 1) (F' := (17, [(0, .ref 16), (1, .int (Int32.ofInt (n)))], [.int (Int32.ofInt (n)), .ref 25], M)) rfl ?_
      refine w_call (cm := 21) (as := [(0, .ref 25), (1, .int (Int32.ofInt (n)))]) (rest := []) (o := none) rfl (trivial) (c_at (n) 25 3107 rfl (by decide) hR ⟨by omega, by omega⟩) (fun r5 M6 q7 => ?_)
      rcases q7 with ⟨v8, e9, ⟨r10, r11⟩, e12, f13⟩
      rw [e9, e12]
      replace f13 : ((0 ≤ n ∧ n < (3107 : Int) ∧ v8 = (A 25) (n)) ∨ (¬ (0 ≤ n ∧ n < (3107 : Int)) ∧ v8 = -1)) := f13
      show w_W _ _ _ (20, [(0, .ref 16), (1, .int (Int32.ofInt (n)))], [.int (Int32.ofInt (v8))], M) _
      refine w_adv (n := 1) (F' := (24, [(0, .ref 16), (1, .int (Int32.ofInt (n)))], [.int (Int32.ofInt (v8))], M)) rfl ?_
      refine w_fin (r := .inl (some (v8))) (M' := M) rfl ?_
      exact ⟨v8, rfl, ⟨by omega, by omega⟩, rfl⟩
def c_Kernel_make_Q (fr : Nat → Bool) (X : Nat → Option (q_C (Nat → Int32))) (u l : Nat) (I : Nat → Int) (A : Nat → Int → Int) (B C : Nat → Nat) (M : w_M) (k : Int) (x : Int) (a : Int) (b : Int) : w_X → w_M → Prop := fun r M' => ((r = .inl (some (-1))) ∧ (M' = M) ∧ (3200 ≤ (I 1034))) ∨ ((r = .inl (some (I 1034))) ∧ (w_Rep w_TC fr X u l (w_up I 1034 ((I 1034) + 1)) (w_upF (w_upF (w_upF (w_upF (w_upF (w_upF (w_upF A 17 (w_upG 3200 (A 17) ((I 1034)) (k))) 18 (w_upG 3200 (A 18) ((I 1034)) (x))) 19 (w_upG 3200 (A 19) ((I 1034)) (a))) 20 (w_upG 3200 (A 20) ((I 1034)) (b))) 21 (w_upG 3200 (A 21) ((I 1034)) ((-1)))) 22 (w_upG 3200 (A 22) ((I 1034)) ((I 1035)))) 23 (w_upG 3200 (A 23) ((I 1034)) (0))) B C M') ∧ ((I 1034) < 3200))
set_option maxHeartbeats 100000000 in
set_option maxRecDepth 100000 in
theorem c_Kernel_make {L : Nat} {xs : Nat → Int32} {d : Nat} {fr : Nat → Bool} {X : Nat → Option (q_C (Nat → Int32))} {u l : Nat} {I : Nat → Int} {A : Nat → Int → Int} {B C : Nat → Nat} {M : w_M} (k : Int) (x : Int) (a : Int) (b : Int) (hR : w_Rep w_TC fr X u l I A B C M) (hd : 2 ≤ d) (r_k : w_in k) (r_x : w_in x) (r_a : w_in a) (r_b : w_in b) : w_W (z_P L xs) d 149 (0, [(0, .ref 16), (1, .int (Int32.ofInt (k))), (2, .int (Int32.ofInt (x))), (3, .int (Int32.ofInt (a))), (4, .int (Int32.ofInt (b)))], [], M) (c_Kernel_make_Q fr X u l I A B C M k x a b) := by
  obtain ⟨ra_k, rb_k⟩ := r_k
  obtain ⟨ra_x, rb_x⟩ := r_x
  obtain ⟨ra_a, rb_a⟩ := r_a
  obtain ⟨ra_b, rb_b⟩ := r_b
  obtain ⟨d, rfl⟩ : ∃ d0, d = d0 + 1 := ⟨d - 1, by omega⟩
  refine w_adv (n := 1) (F' := (1, [(0, .ref 16), (1, .int (Int32.ofInt (k))), (2, .int (Int32.ofInt (x))), (3, .int (Int32.ofInt (a))), (4, .int (Int32.ofInt (b)))], [.ref 16], M)) rfl ?_
  refine w_gf (v := .int (Int32.ofInt ((I 1034)))) hR rfl rfl rfl rfl ?_
  obtain ⟨r1, r2⟩ : -2147483648 ≤ (I 1034) ∧ (I 1034) ≤ 2147483647 := hR.ri 1034
  refine w_adv (n := 1) (F' := (7, [(0, .ref 16), (1, .int (Int32.ofInt (k))), (2, .int (Int32.ofInt (x))), (3, .int (Int32.ofInt (a))), (4, .int (Int32.ofInt (b)))], [.int (Int32.ofInt (3200)), .int (Int32.ofInt ((I 1034)))], M)) rfl ?_
  refine w_br2 (a := (I 1034)) (b := 3200) rfl rfl ⟨by omega, by omega⟩ ⟨by omega, by omega⟩ (fun h3 => ?_) (fun h3 => ?_)
  · have h3 : (I 1034) < 3200 := h3
    show w_W _ _ _ (12, [(0, .ref 16), (1, .int (Int32.ofInt (k))), (2, .int (Int32.ofInt (x))), (3, .int (Int32.ofInt (a))), (4, .int (Int32.ofInt (b)))], [], M) _
    refine w_adv (n := 1) (F' := (13, [(0, .ref 16), (1, .int (Int32.ofInt (k))), (2, .int (Int32.ofInt (x))), (3, .int (Int32.ofInt (a))), (4, .int (Int32.ofInt (b)))], [.ref 16], M)) rfl ?_
    refine w_gf (v := .int (Int32.ofInt ((I 1034)))) hR rfl rfl rfl rfl ?_
    refine w_adv (n := 2) (F' := (19, [(5, .int (Int32.ofInt ((I 1034)))), (0, .ref 16), (1, .int (Int32.ofInt (k))), (2, .int (Int32.ofInt (x))), (3, .int (Int32.ofInt (a))), (4, .int (Int32.ofInt (b)))], [.ref 16], M)) rfl ?_
    refine w_gf (v := .ref 17) hR rfl rfl rfl rfl ?_
    refine w_adv (n := 2) (F' := (25, [(5, .int (Int32.ofInt ((I 1034)))), (0, .ref 16), (1, .int (Int32.ofInt (k))), (2, .int (Int32.ofInt (x))), (3, .int (Int32.ofInt (a))), (4, .int (Int32.ofInt (b)))], [.int (Int32.ofInt (k)), .int (Int32.ofInt ((I 1034))), .ref 17], M)) rfl ?_
    refine w_call (cm := 25) (as := [(0, .ref 17), (1, .int (Int32.ofInt ((I 1034)))), (2, .int (Int32.ofInt (k)))]) (rest := []) (o := none) rfl (trivial) (c_set ((I 1034)) (k) 17 3200 rfl (by decide) hR ⟨by omega, by omega⟩ ⟨by omega, by omega⟩) (fun r4 M5 q6 => ?_)
    rcases q6 with ⟨e7, hR6a⟩
    rw [e7]
    replace hR6a : w_Rep w_TC fr X u l I (w_upF A 17 (w_upG 3200 (A 17) ((I 1034)) (k))) B C M5 := hR6a
    show w_W _ _ _ (28, [(5, .int (Int32.ofInt ((I 1034)))), (0, .ref 16), (1, .int (Int32.ofInt (k))), (2, .int (Int32.ofInt (x))), (3, .int (Int32.ofInt (a))), (4, .int (Int32.ofInt (b)))], [], M5) _
    refine w_adv (n := 1) (F' := (29, [(5, .int (Int32.ofInt ((I 1034)))), (0, .ref 16), (1, .int (Int32.ofInt (k))), (2, .int (Int32.ofInt (x))), (3, .int (Int32.ofInt (a))), (4, .int (Int32.ofInt (b)))], [.ref 16], M5)) rfl ?_
    refine w_gf (v := .ref 18) hR6a rfl rfl rfl rfl ?_
    refine w_adv (n := 2) (F' := (35, [(5, .int (Int32.ofInt ((I 1034)))), (0, .ref 16), (1, .int (Int32.ofInt (k))), (2, .int (Int32.ofInt (x))), (3, .int (Int32.ofInt (a))), (4, .int (Int32.ofInt (b)))], [.int (Int32.ofInt (x)), .int (Int32.ofInt ((I 1034))), .ref 18], M5)) rfl ?_
    refine w_call (cm := 25) (as := [(0, .ref 18), (1, .int (Int32.ofInt ((I 1034)))), (2, .int (Int32.ofInt (x)))]) (rest := []) (o := none) rfl (trivial) (c_set ((I 1034)) (x) 18 3200 rfl (by decide) hR6a ⟨by omega, by omega⟩ ⟨by omega, by omega⟩) (fun r8 M9 q10 => ?_)
    rcases q10 with ⟨e11, hR10a⟩
    rw [e11]
    replace hR10a : w_Rep w_TC fr X u l I (w_upF (w_upF A 17 (w_upG 3200 (A 17) ((I 1034)) (k))) 18 (w_upG 3200 (A 18) ((I 1034)) (x))) B C M9 := hR10a
    show w_W _ _ _ (38, [(5, .int (Int32.ofInt ((I 1034)))), (0, .ref 16), (1, .int (Int32.ofInt (k))), (2, .int (Int32.ofInt (x))), (3, .int (Int32.ofInt (a))), (4, .int (Int32.ofInt (b)))], [], M9) _
    refine w_adv (n := 1) (F' := (39, [(5, .int (Int32.ofInt ((I 1034)))), (0, .ref 16), (1, .int (Int32.ofInt (k))), (2, .int (Int32.ofInt (x))), (3, .int (Int32.ofInt (a))), (4, .int (Int32.ofInt (b)))], [.ref 16], M9)) rfl ?_
    refine w_gf (v := .ref 19) hR10a rfl rfl rfl rfl ?_
    refine w_adv (n := 2) (F' := (45, [(5, .int (Int32.ofInt ((I 1034)))), (0, .ref 16), (1, .int (Int32.ofInt (k))), (2, .int (Int32.ofInt (x))), (3, .int (Int32.ofInt (a))), (4, .int (Int32.ofInt (b)))], [.int (Int32.ofInt (a)), .int (Int32.ofInt ((I 1034))), .ref 19], M9)) rfl ?_
    refine w_call (cm := 25) (as := [(0, .ref 19), (1, .int (Int32.ofInt ((I 1034)))), (2, .int (Int32.ofInt (a)))]) (rest := []) (o := none) rfl (trivial) (c_set ((I 1034)) (a) 19 3200 rfl (by decide) hR10a ⟨by omega, by omega⟩ ⟨by omega, by omega⟩) (fun r12 M13 q14 => ?_)
    rcases q14 with ⟨e15, hR14a⟩
    rw [e15]
    replace hR14a : w_Rep w_TC fr X u l I (w_upF (w_upF (w_upF A 17 (w_upG 3200 (A 17) ((I 1034)) (k))) 18 (w_upG 3200 (A 18) ((I 1034)) (x))) 19 (w_upG 3200 (A 19) ((I 1034)) (a))) B C M13 := hR14a
    show w_W _ _ _ (48, [(5, .int (Int32.ofInt ((I 1034)))), (0, .ref 16), (1, .int (Int32.ofInt (k))), (2, .int (Int32.ofInt (x))), (3, .int (Int32.ofInt (a))), (4, .int (Int32.ofInt (b)))], [], M13) _
    refine w_adv (n := 1) (F' := (49, [(5, .int (Int32.ofInt ((I 1034)))), (0, .ref 16), (1, .int (Int32.ofInt (k))), (2, .int (Int32.ofInt (x))), (3, .int (Int32.ofInt (a))), (4, .int (Int32.ofInt (b)))], [.ref 16], M13)) rfl ?_
    refine w_gf (v := .ref 20) hR14a rfl rfl rfl rfl ?_
    refine w_adv (n := 2) (F' := (56, [(5, .int (Int32.ofInt ((I 1034)))), (0, .ref 16), (1, .int (Int32.ofInt (k))), (2, .int (Int32.ofInt (x))), (3, .int (Int32.ofInt (a))), (4, .int (Int32.ofInt (b)))], [.int (Int32.ofInt (b)), .int (Int32.ofInt ((I 1034))), .ref 20], M13)) rfl ?_
    refine w_call (cm := 25) (as := [(0, .ref 20), (1, .int (Int32.ofInt ((I 1034)))), (2, .int (Int32.ofInt (b)))]) (rest := []) (o := none) rfl (trivial) (c_set ((I 1034)) (b) 20 3200 rfl (by decide) hR14a ⟨by omega, by omega⟩ ⟨by omega, by omega⟩) (fun r16 M17 q18 => ?_)
    rcases q18 with ⟨e19, hR18a⟩
    rw [e19]
    replace hR18a : w_Rep w_TC fr X u l I (w_upF (w_upF (w_upF (w_upF A 17 (w_upG 3200 (A 17) ((I 1034)) (k))) 18 (w_upG 3200 (A 18) ((I 1034)) (x))) 19 (w_upG 3200 (A 19) ((I 1034)) (a))) 20 (w_upG 3200 (A 20) ((I 1034)) (b))) B C M17 := hR18a
    show w_W _ _ _ (59, [(5, .int (Int32.ofInt ((I 1034)))), (0, .ref 16), (1, .int (Int32.ofInt (k))), (2, .int (Int32.ofInt (x))), (3, .int (Int32.ofInt (a))), (4, .int (Int32.ofInt (b)))], [], M17) _
    refine w_adv (n := 1) (F' := (60, [(5, .int (Int32.ofInt ((I 1034)))), (0, .ref 16), (1, .int (Int32.ofInt (k))), (2, .int (Int32.ofInt (x))), (3, .int (Int32.ofInt (a))), (4, .int (Int32.ofInt (b)))], [.ref 16], M17)) rfl ?_
    refine w_gf (v := .ref 21) hR18a rfl rfl rfl rfl ?_
    refine w_adv (n := 2) (F' := (66, [(5, .int (Int32.ofInt ((I 1034)))), (0, .ref 16), (1, .int (Int32.ofInt (k))), (2, .int (Int32.ofInt (x))), (3, .int (Int32.ofInt (a))), (4, .int (Int32.ofInt (b)))], [.int (Int32.ofInt ((-1))), .int (Int32.ofInt ((I 1034))), .ref 21], M17)) rfl ?_
    refine w_call (cm := 25) (as := [(0, .ref 21), (1, .int (Int32.ofInt ((I 1034)))), (2, .int (Int32.ofInt ((-1))))]) (rest := []) (o := none) rfl (trivial) (c_set ((I 1034)) ((-1)) 21 3200 rfl (by decide) hR18a ⟨by omega, by omega⟩ ⟨by omega, by omega⟩) (fun r20 M21 q22 => ?_)
    rcases q22 with ⟨e23, hR22a⟩
    rw [e23]
    replace hR22a : w_Rep w_TC fr X u l I (w_upF (w_upF (w_upF (w_upF (w_upF A 17 (w_upG 3200 (A 17) ((I 1034)) (k))) 18 (w_upG 3200 (A 18) ((I 1034)) (x))) 19 (w_upG 3200 (A 19) ((I 1034)) (a))) 20 (w_upG 3200 (A 20) ((I 1034)) (b))) 21 (w_upG 3200 (A 21) ((I 1034)) ((-1)))) B C M21 := hR22a
    show w_W _ _ _ (69, [(5, .int (Int32.ofInt ((I 1034)))), (0, .ref 16), (1, .int (Int32.ofInt (k))), (2, .int (Int32.ofInt (x))), (3, .int (Int32.ofInt (a))), (4, .int (Int32.ofInt (b)))], [], M21) _
    refine w_adv (n := 1) (F' := (70, [(5, .int (Int32.ofInt ((I 1034)))), (0, .ref 16), (1, .int (Int32.ofInt (k))), (2, .int (Int32.ofInt (x))), (3, .int (Int32.ofInt (a))), (4, .int (Int32.ofInt (b)))], [.ref 16], M21)) rfl ?_
    refine w_gf (v := .ref 22) hR22a rfl rfl rfl rfl ?_
    refine w_adv (n := 2) (F' := (76, [(5, .int (Int32.ofInt ((I 1034)))), (0, .ref 16), (1, .int (Int32.ofInt (k))), (2, .int (Int32.ofInt (x))), (3, .int (Int32.ofInt (a))), (4, .int (Int32.ofInt (b)))], [.ref 16, .int (Int32.ofInt ((I 1034))), .ref 22], M21)) rfl ?_
    refine w_gf (v := .int (Int32.ofInt ((I 1035)))) hR22a rfl rfl rfl rfl ?_
    obtain ⟨r24, r25⟩ : -2147483648 ≤ (I 1035) ∧ (I 1035) ≤ 2147483647 := hR22a.ri 1035
    refine w_call (cm := 25) (as := [(0, .ref 22), (1, .int (Int32.ofInt ((I 1034)))), (2, .int (Int32.ofInt ((I 1035))))]) (rest := []) (o := none) rfl (trivial) (c_set ((I 1034)) ((I 1035)) 22 3200 rfl (by decide) hR22a ⟨by omega, by omega⟩ ⟨by omega, by omega⟩) (fun r26 M27 q28 => ?_)
    rcases q28 with ⟨e29, hR28a⟩
    rw [e29]
    replace hR28a : w_Rep w_TC fr X u l I (w_upF (w_upF (w_upF (w_upF (w_upF (w_upF A 17 (w_upG 3200 (A 17) ((I 1034)) (k))) 18 (w_upG 3200 (A 18) ((I 1034)) (x))) 19 (w_upG 3200 (A 19) ((I 1034)) (a))) 20 (w_upG 3200 (A 20) ((I 1034)) (b))) 21 (w_upG 3200 (A 21) ((I 1034)) ((-1)))) 22 (w_upG 3200 (A 22) ((I 1034)) ((I 1035)))) B C M27 := hR28a
    show w_W _ _ _ (82, [(5, .int (Int32.ofInt ((I 1034)))), (0, .ref 16), (1, .int (Int32.ofInt (k))), (2, .int (Int32.ofInt (x))), (3, .int (Int32.ofInt (a))), (4, .int (Int32.ofInt (b)))], [], M27) _
    refine w_adv (n := 1) (F' := (83, [(5, .int (Int32.ofInt ((I 1034)))), (0, .ref 16), (1, .int (Int32.ofInt (k))), (2, .int (Int32.ofInt (x))), (3, .int (Int32.ofInt (a))), (4, .int (Int32.ofInt (b)))], [.ref 16], M27)) rfl ?_
    refine w_gf (v := .ref 23) hR28a rfl rfl rfl rfl ?_
    refine w_adv (n := 2) (F' := (89, [(5, .int (Int32.ofInt ((I 1034)))), (0, .ref 16), (1, .int (Int32.ofInt (k))), (2, .int (Int32.ofInt (x))), (3, .int (Int32.ofInt (a))), (4, .int (Int32.ofInt (b)))], [.int (Int32.ofInt (0)), .int (Int32.ofInt ((I 1034))), .ref 23], M27)) rfl ?_
    refine w_call (cm := 25) (as := [(0, .ref 23), (1, .int (Int32.ofInt ((I 1034)))), (2, .int (Int32.ofInt (0)))]) (rest := []) (o := none) rfl (trivial) (c_set ((I 1034)) (0) 23 3200 rfl (by decide) hR28a ⟨by omega, by omega⟩ ⟨by omega, by omega⟩) (fun r30 M31 q32 => ?_)
    rcases q32 with ⟨e33, hR32a⟩
    rw [e33]
    replace hR32a : w_Rep w_TC fr X u l I (w_upF (w_upF (w_upF (w_upF (w_upF (w_upF (w_upF A 17 (w_upG 3200 (A 17) ((I 1034)) (k))) 18 (w_upG 3200 (A 18) ((I 1034)) (x))) 19 (w_upG 3200 (A 19) ((I 1034)) (a))) 20 (w_upG 3200 (A 20) ((I 1034)) (b))) 21 (w_upG 3200 (A 21) ((I 1034)) ((-1)))) 22 (w_upG 3200 (A 22) ((I 1034)) ((I 1035)))) 23 (w_upG 3200 (A 23) ((I 1034)) (0))) B C M31 := hR32a
    show w_W _ _ _ (92, [(5, .int (Int32.ofInt ((I 1034)))), (0, .ref 16), (1, .int (Int32.ofInt (k))), (2, .int (Int32.ofInt (x))), (3, .int (Int32.ofInt (a))), (4, .int (Int32.ofInt (b)))], [], M31) _
    refine w_adv (n := 2) (F' := (94, [(5, .int (Int32.ofInt ((I 1034)))), (0, .ref 16), (1, .int (Int32.ofInt (k))), (2, .int (Int32.ofInt (x))), (3, .int (Int32.ofInt (a))), (4, .int (Int32.ofInt (b)))], [.ref 16, .ref 16], M31)) rfl ?_
    refine w_gf (v := .int (Int32.ofInt ((I 1034)))) hR32a rfl rfl rfl rfl ?_
    refine w_adv (n := 1) (F' := (98, [(5, .int (Int32.ofInt ((I 1034)))), (0, .ref 16), (1, .int (Int32.ofInt (k))), (2, .int (Int32.ofInt (x))), (3, .int (Int32.ofInt (a))), (4, .int (Int32.ofInt (b)))], [.int (Int32.ofInt (1)), .int (Int32.ofInt ((I 1034))), .ref 16], M31)) rfl ?_
    refine w_add rfl ?_
    refine w_pf hR32a rfl rfl rfl rfl (show w_in ((I 1034) + 1) from ⟨by omega, by omega⟩) (fun h => absurd h (by decide)) (fun M34 hR35 => ?_)
    replace hR35 : w_Rep w_TC fr X u l (w_up I 1034 ((I 1034) + 1)) (w_upF (w_upF (w_upF (w_upF (w_upF (w_upF (w_upF A 17 (w_upG 3200 (A 17) ((I 1034)) (k))) 18 (w_upG 3200 (A 18) ((I 1034)) (x))) 19 (w_upG 3200 (A 19) ((I 1034)) (a))) 20 (w_upG 3200 (A 20) ((I 1034)) (b))) 21 (w_upG 3200 (A 21) ((I 1034)) ((-1)))) 22 (w_upG 3200 (A 22) ((I 1034)) ((I 1035)))) 23 (w_upG 3200 (A 23) ((I 1034)) (0))) B C M34 := hR35
    refine w_adv (n := 1) (F' := (104, [(5, .int (Int32.ofInt ((I 1034)))), (0, .ref 16), (1, .int (Int32.ofInt (k))), (2, .int (Int32.ofInt (x))), (3, .int (Int32.ofInt (a))), (4, .int (Int32.ofInt (b)))], [.int (Int32.ofInt ((I 1034)))], M34)) rfl ?_
    refine w_fin (r := .inl (some ((I 1034)))) (M' := M34) rfl ?_
    exact Or.inr (⟨rfl, hR35, (show (I 1034) < 3200 by first | assumption | omega)⟩)
  · have h3 : ¬ ((I 1034) < 3200) := h3
    show w_W _ _ _ (10, [(0, .ref 16), (1, .int (Int32.ofInt (k))), (2, .int (Int32.ofInt (x))), (3, .int (Int32.ofInt (a))), (4, .int (Int32.ofInt (b)))], [], M) _
    refine w_adv (n := 1) (F' := (11, [(0, .ref 16), (1, .int (Int32.ofInt (k))), (2, .int (Int32.ofInt (x))), (3, .int (Int32.ofInt (a))), (4, .int (Int32.ofInt (b)))], [.int (Int32.ofInt ((-1)))], M)) rfl ?_
    refine w_fin (r := .inl (some ((-1)))) (M' := M) rfl ?_
    first
      | exact Or.inl ⟨rfl, rfl, (show 3200 ≤ (I 1034) by first | assumption | omega)⟩
      | exact Or.inr (⟨rfl, (w_Rep.up hR (show (w_up I 1034 ((I 1034) + 1)) = I from (funext fun s => if e0 : s = 1034 then (by subst e0; rfl) else (by simp only [w_up_ne e0]))) (show (w_upF (w_upF (w_upF (w_upF (w_upF (w_upF (w_upF A 17 (w_upG 3200 (A 17) ((I 1034)) (k))) 18 (w_upG 3200 (A 18) ((I 1034)) (x))) 19 (w_upG 3200 (A 19) ((I 1034)) (a))) 20 (w_upG 3200 (A 20) ((I 1034)) (b))) 21 (w_upG 3200 (A 21) ((I 1034)) ((-1)))) 22 (w_upG 3200 (A 22) ((I 1034)) ((I 1035)))) 23 (w_upG 3200 (A 23) ((I 1034)) (0))) = A from (funext fun s => if e0 : s = 17 then (by subst e0; rfl) else if e1 : s = 18 then (by subst e1; rfl) else if e2 : s = 19 then (by subst e2; rfl) else if e3 : s = 20 then (by subst e3; rfl) else if e4 : s = 21 then (by subst e4; rfl) else if e5 : s = 22 then (by subst e5; rfl) else if e6 : s = 23 then (by subst e6; rfl) else (by simp only [w_upF_ne e0, w_upF_ne e1, w_upF_ne e2, w_upF_ne e3, w_upF_ne e4, w_upF_ne e5, w_upF_ne e6])))), (show (I 1034) < 3200 by first | assumption | omega)⟩)
def c_Kernel_link_Q (fr : Nat → Bool) (X : Nat → Option (q_C (Nat → Int32))) (u l : Nat) (I : Nat → Int) (A : Nat → Int → Int) (B C : Nat → Nat) (M : w_M) (i : Int) (v : Int) : w_X → w_M → Prop := fun r M' => ((r = .inl none) ∧ (w_Rep w_TC fr X u l I (w_upF A 21 (w_upG 3200 (A 21) (i) (v))) B C M'))
set_option maxHeartbeats 100000000 in
set_option maxRecDepth 100000 in
theorem c_Kernel_link {L : Nat} {xs : Nat → Int32} {d : Nat} {fr : Nat → Bool} {X : Nat → Option (q_C (Nat → Int32))} {u l : Nat} {I : Nat → Int} {A : Nat → Int → Int} {B C : Nat → Nat} {M : w_M} (i : Int) (v : Int) (hR : w_Rep w_TC fr X u l I A B C M) (hd : 2 ≤ d) (r_i : w_in i) (r_v : w_in v) : w_W (z_P L xs) d 151 (0, [(0, .ref 16), (1, .int (Int32.ofInt (i))), (2, .int (Int32.ofInt (v)))], [], M) (c_Kernel_link_Q fr X u l I A B C M i v) := by
  obtain ⟨ra_i, rb_i⟩ := r_i
  obtain ⟨ra_v, rb_v⟩ := r_v
  obtain ⟨d, rfl⟩ : ∃ d0, d = d0 + 1 := ⟨d - 1, by omega⟩
  refine w_adv (n := 1) (F' := (1, [(0, .ref 16), (1, .int (Int32.ofInt (i))), (2, .int (Int32.ofInt (v)))], [.ref 16], M)) rfl ?_
  refine w_gf (v := .ref 21) hR rfl rfl rfl rfl ?_
  refine w_adv (n := 2) (F' := (6, [(0, .ref 16), (1, .int (Int32.ofInt (i))), (2, .int (Int32.ofInt (v)))], [.int (Int32.ofInt (v)), .int (Int32.ofInt (i)), .ref 21], M)) rfl ?_
  refine w_call (cm := 25) (as := [(0, .ref 21), (1, .int (Int32.ofInt (i))), (2, .int (Int32.ofInt (v)))]) (rest := []) (o := none) rfl (trivial) (c_set (i) (v) 21 3200 rfl (by decide) hR ⟨by omega, by omega⟩ ⟨by omega, by omega⟩) (fun r1 M2 q3 => ?_)
  rcases q3 with ⟨e4, hR3a⟩
  rw [e4]
  replace hR3a : w_Rep w_TC fr X u l I (w_upF A 21 (w_upG 3200 (A 21) (i) (v))) B C M2 := hR3a
  show w_W _ _ _ (9, [(0, .ref 16), (1, .int (Int32.ofInt (i))), (2, .int (Int32.ofInt (v)))], [], M2) _
  refine w_fin (r := .inl none) (M' := M2) rfl ?_
  exact ⟨rfl, hR3a⟩
def c_Kernel_next_Q (fr : Nat → Bool) (X : Nat → Option (q_C (Nat → Int32))) (u l : Nat) (I : Nat → Int) (A : Nat → Int → Int) (B C : Nat → Nat) (M : w_M) (n : Int) : w_X → w_M → Prop := fun r M' => (∃ v : Int, (r = .inl (some v)) ∧ (w_in v) ∧ (M' = M))
set_option maxHeartbeats 100000000 in
set_option maxRecDepth 100000 in
theorem c_Kernel_next {L : Nat} {xs : Nat → Int32} {d : Nat} {fr : Nat → Bool} {X : Nat → Option (q_C (Nat → Int32))} {u l : Nat} {I : Nat → Int} {A : Nat → Int → Int} {B C : Nat → Nat} {M : w_M} (n : Int) (hR : w_Rep w_TC fr X u l I A B C M) (hd : 2 ≤ d) (r_n : w_in n) : w_W (z_P L xs) d 190 (0, [(0, .ref 16), (1, .int (Int32.ofInt (n)))], [], M) (c_Kernel_next_Q fr X u l I A B C M n) := by
  obtain ⟨ra_n, rb_n⟩ := r_n
  obtain ⟨d, rfl⟩ : ∃ d0, d = d0 + 1 := ⟨d - 1, by omega⟩
  refine w_adv (n := 1) (F' := (1, [(0, .ref 16), (1, .int (Int32.ofInt (n)))], [.ref 16], M)) rfl ?_
  refine w_gf (v := .ref 21) hR rfl rfl rfl rfl ?_
  refine w_adv (n := 1) (F' := (5, [(0, .ref 16), (1, .int (Int32.ofInt (n)))], [.int (Int32.ofInt (n)), .ref 21], M)) rfl ?_
  refine w_call (cm := 21) (as := [(0, .ref 21), (1, .int (Int32.ofInt (n)))]) (rest := []) (o := none) rfl (trivial) (c_at (n) 21 3200 rfl (by decide) hR ⟨by omega, by omega⟩) (fun r1 M2 q3 => ?_)
  rcases q3 with ⟨v4, e5, ⟨r6, r7⟩, e8, f9⟩
  rw [e5, e8]
  replace f9 : ((0 ≤ n ∧ n < (3200 : Int) ∧ v4 = (A 21) (n)) ∨ (¬ (0 ≤ n ∧ n < (3200 : Int)) ∧ v4 = -1)) := f9
  show w_W _ _ _ (8, [(0, .ref 16), (1, .int (Int32.ofInt (n)))], [.int (Int32.ofInt (v4))], M) _
  refine w_fin (r := .inl (some (v4))) (M' := M) rfl ?_
  exact ⟨v4, rfl, ⟨by omega, by omega⟩, rfl⟩
def c_Kernel_part_Q (fr : Nat → Bool) (X : Nat → Option (q_C (Nat → Int32))) (u l : Nat) (I : Nat → Int) (A : Nat → Int → Int) (B C : Nat → Nat) (M : w_M) (n : Int) (w : Int) : w_X → w_M → Prop := fun r M' => (∃ v : Int, (r = .inl (some v)) ∧ (w_in v) ∧ (M' = M))
set_option maxHeartbeats 100000000 in
set_option maxRecDepth 100000 in
theorem c_Kernel_part {L : Nat} {xs : Nat → Int32} {d : Nat} {fr : Nat → Bool} {X : Nat → Option (q_C (Nat → Int32))} {u l : Nat} {I : Nat → Int} {A : Nat → Int → Int} {B C : Nat → Nat} {M : w_M} (n : Int) (w : Int) (hR : w_Rep w_TC fr X u l I A B C M) (hd : 2 ≤ d) (r_n : w_in n) (r_w : w_in w) : w_W (z_P L xs) d 197 (0, [(0, .ref 16), (1, .int (Int32.ofInt (n))), (2, .int (Int32.ofInt (w)))], [], M) (c_Kernel_part_Q fr X u l I A B C M n w) := by
  obtain ⟨ra_n, rb_n⟩ := r_n
  obtain ⟨ra_w, rb_w⟩ := r_w
  obtain ⟨d, rfl⟩ : ∃ d0, d = d0 + 1 := ⟨d - 1, by omega⟩
  refine w_adv (n := 1) (F' := (1, [(0, .ref 16), (1, .int (Int32.ofInt (n))), (2, .int (Int32.ofInt (w)))], [.int (Int32.ofInt (n))], M)) rfl ?_
  refine w_br1 (a := n) rfl rfl ⟨by omega, by omega⟩ (fun h1 => ?_) (fun h1 => ?_)
  · have h1 : n < 0 := h1
    show w_W _ _ _ (12, [(0, .ref 16), (1, .int (Int32.ofInt (n))), (2, .int (Int32.ofInt (w)))], [], M) _
    refine w_adv (n := 1) (F' := (13, [(0, .ref 16), (1, .int (Int32.ofInt (n))), (2, .int (Int32.ofInt (w)))], [.int (Int32.ofInt ((-1)))], M)) rfl ?_
    refine w_fin (r := .inl (some ((-1)))) (M' := M) rfl ?_
    exact ⟨(-1), rfl, ⟨by omega, by omega⟩, rfl⟩
  · have h1 : ¬ (n < 0) := h1
    show w_W _ _ _ (4, [(0, .ref 16), (1, .int (Int32.ofInt (n))), (2, .int (Int32.ofInt (w)))], [], M) _
    refine w_adv (n := 2) (F' := (6, [(0, .ref 16), (1, .int (Int32.ofInt (n))), (2, .int (Int32.ofInt (w)))], [.ref 16, .int (Int32.ofInt (n))], M)) rfl ?_
    refine w_gf (v := .int (Int32.ofInt ((I 1034)))) hR rfl rfl rfl rfl ?_
    obtain ⟨r2, r3⟩ : -2147483648 ≤ (I 1034) ∧ (I 1034) ≤ 2147483647 := hR.ri 1034
    refine w_br2 (a := n) (b := (I 1034)) rfl rfl ⟨by omega, by omega⟩ ⟨by omega, by omega⟩ (fun h4 => ?_) (fun h4 => ?_)
    · have h4 : n < (I 1034) := h4
      show w_W _ _ _ (14, [(0, .ref 16), (1, .int (Int32.ofInt (n))), (2, .int (Int32.ofInt (w)))], [], M) _
      refine w_adv (n := 1) (F' := (15, [(0, .ref 16), (1, .int (Int32.ofInt (n))), (2, .int (Int32.ofInt (w)))], [.int (Int32.ofInt (w))], M)) rfl ?_
      rcases (show (w < 0 ∨ 5 < w) ∨ w = 0 ∨ w = 1 ∨ w = 2 ∨ w = 3 ∨ w = 4 ∨ w = 5 by omega) with h5 | h5 | h5 | h5 | h5 | h5 | h5
      · refine w_swd rfl ⟨by omega, by omega⟩ h5 rfl ?_
        show w_W _ _ _ (106, [(0, .ref 16), (1, .int (Int32.ofInt (n))), (2, .int (Int32.ofInt (w)))], [], M) _
        refine w_adv (n := 1) (F' := (107, [(0, .ref 16), (1, .int (Int32.ofInt (n))), (2, .int (Int32.ofInt (w)))], [.int (Int32.ofInt ((-1)))], M)) rfl ?_
        refine w_fin (r := .inl (some ((-1)))) (M' := M) rfl ?_
        exact ⟨(-1), rfl, ⟨by omega, by omega⟩, rfl⟩
      · refine w_sw (v := 0) (F' := (52, [(0, .ref 16), (1, .int (Int32.ofInt (n))), (2, .int (Int32.ofInt (w)))], [], M)) h5 rfl rfl ?_
        refine w_adv (n := 1) (F' := (53, [(0, .ref 16), (1, .int (Int32.ofInt (n))), (2, .int (Int32.ofInt (w)))], [.ref 16], M)) rfl ?_
        refine w_gf (v := .ref 17) hR rfl rfl rfl rfl ?_
        refine w_adv (n := 1) (F' := (57, [(0, .ref 16), (1, .int (Int32.ofInt (n))), (2, .int (Int32.ofInt (w)))], [.int (Int32.ofInt (n)), .ref 17], M)) rfl ?_
        refine w_call (cm := 21) (as := [(0, .ref 17), (1, .int (Int32.ofInt (n)))]) (rest := []) (o := none) rfl (trivial) (c_at (n) 17 3200 rfl (by decide) hR ⟨by omega, by omega⟩) (fun r6 M7 q8 => ?_)
        rcases q8 with ⟨v9, e10, ⟨r11, r12⟩, e13, f14⟩
        rw [e10, e13]
        replace f14 : ((0 ≤ n ∧ n < (3200 : Int) ∧ v9 = (A 17) (n)) ∨ (¬ (0 ≤ n ∧ n < (3200 : Int)) ∧ v9 = -1)) := f14
        show w_W _ _ _ (60, [(0, .ref 16), (1, .int (Int32.ofInt (n))), (2, .int (Int32.ofInt (w)))], [.int (Int32.ofInt (v9))], M) _
        refine w_fin (r := .inl (some (v9))) (M' := M) rfl ?_
        exact ⟨v9, rfl, ⟨by omega, by omega⟩, rfl⟩
      · refine w_sw (v := 1) (F' := (61, [(0, .ref 16), (1, .int (Int32.ofInt (n))), (2, .int (Int32.ofInt (w)))], [], M)) h5 rfl rfl ?_
        refine w_adv (n := 1) (F' := (62, [(0, .ref 16), (1, .int (Int32.ofInt (n))), (2, .int (Int32.ofInt (w)))], [.ref 16], M)) rfl ?_
        refine w_gf (v := .ref 18) hR rfl rfl rfl rfl ?_
        refine w_adv (n := 1) (F' := (66, [(0, .ref 16), (1, .int (Int32.ofInt (n))), (2, .int (Int32.ofInt (w)))], [.int (Int32.ofInt (n)), .ref 18], M)) rfl ?_
        refine w_call (cm := 21) (as := [(0, .ref 18), (1, .int (Int32.ofInt (n)))]) (rest := []) (o := none) rfl (trivial) (c_at (n) 18 3200 rfl (by decide) hR ⟨by omega, by omega⟩) (fun r15 M16 q17 => ?_)
        rcases q17 with ⟨v18, e19, ⟨r20, r21⟩, e22, f23⟩
        rw [e19, e22]
        replace f23 : ((0 ≤ n ∧ n < (3200 : Int) ∧ v18 = (A 18) (n)) ∨ (¬ (0 ≤ n ∧ n < (3200 : Int)) ∧ v18 = -1)) := f23
        show w_W _ _ _ (69, [(0, .ref 16), (1, .int (Int32.ofInt (n))), (2, .int (Int32.ofInt (w)))], [.int (Int32.ofInt (v18))], M) _
        refine w_fin (r := .inl (some (v18))) (M' := M) rfl ?_
        exact ⟨v18, rfl, ⟨by omega, by omega⟩, rfl⟩
      · refine w_sw (v := 2) (F' := (70, [(0, .ref 16), (1, .int (Int32.ofInt (n))), (2, .int (Int32.ofInt (w)))], [], M)) h5 rfl rfl ?_
        refine w_adv (n := 1) (F' := (71, [(0, .ref 16), (1, .int (Int32.ofInt (n))), (2, .int (Int32.ofInt (w)))], [.ref 16], M)) rfl ?_
        refine w_gf (v := .ref 19) hR rfl rfl rfl rfl ?_
        refine w_adv (n := 1) (F' := (75, [(0, .ref 16), (1, .int (Int32.ofInt (n))), (2, .int (Int32.ofInt (w)))], [.int (Int32.ofInt (n)), .ref 19], M)) rfl ?_
        refine w_call (cm := 21) (as := [(0, .ref 19), (1, .int (Int32.ofInt (n)))]) (rest := []) (o := none) rfl (trivial) (c_at (n) 19 3200 rfl (by decide) hR ⟨by omega, by omega⟩) (fun r24 M25 q26 => ?_)
        rcases q26 with ⟨v27, e28, ⟨r29, r30⟩, e31, f32⟩
        rw [e28, e31]
        replace f32 : ((0 ≤ n ∧ n < (3200 : Int) ∧ v27 = (A 19) (n)) ∨ (¬ (0 ≤ n ∧ n < (3200 : Int)) ∧ v27 = -1)) := f32
        show w_W _ _ _ (78, [(0, .ref 16), (1, .int (Int32.ofInt (n))), (2, .int (Int32.ofInt (w)))], [.int (Int32.ofInt (v27))], M) _
        refine w_fin (r := .inl (some (v27))) (M' := M) rfl ?_
        exact ⟨v27, rfl, ⟨by omega, by omega⟩, rfl⟩
      · refine w_sw (v := 3) (F' := (79, [(0, .ref 16), (1, .int (Int32.ofInt (n))), (2, .int (Int32.ofInt (w)))], [], M)) h5 rfl rfl ?_
        refine w_adv (n := 1) (F' := (80, [(0, .ref 16), (1, .int (Int32.ofInt (n))), (2, .int (Int32.ofInt (w)))], [.ref 16], M)) rfl ?_
        refine w_gf (v := .ref 20) hR rfl rfl rfl rfl ?_
        refine w_adv (n := 1) (F' := (84, [(0, .ref 16), (1, .int (Int32.ofInt (n))), (2, .int (Int32.ofInt (w)))], [.int (Int32.ofInt (n)), .ref 20], M)) rfl ?_
        refine w_call (cm := 21) (as := [(0, .ref 20), (1, .int (Int32.ofInt (n)))]) (rest := []) (o := none) rfl (trivial) (c_at (n) 20 3200 rfl (by decide) hR ⟨by omega, by omega⟩) (fun r33 M34 q35 => ?_)
        rcases q35 with ⟨v36, e37, ⟨r38, r39⟩, e40, f41⟩
        rw [e37, e40]
        replace f41 : ((0 ≤ n ∧ n < (3200 : Int) ∧ v36 = (A 20) (n)) ∨ (¬ (0 ≤ n ∧ n < (3200 : Int)) ∧ v36 = -1)) := f41
        show w_W _ _ _ (87, [(0, .ref 16), (1, .int (Int32.ofInt (n))), (2, .int (Int32.ofInt (w)))], [.int (Int32.ofInt (v36))], M) _
        refine w_fin (r := .inl (some (v36))) (M' := M) rfl ?_
        exact ⟨v36, rfl, ⟨by omega, by omega⟩, rfl⟩
      · refine w_sw (v := 4) (F' := (88, [(0, .ref 16), (1, .int (Int32.ofInt (n))), (2, .int (Int32.ofInt (w)))], [], M)) h5 rfl rfl ?_
        refine w_adv (n := 1) (F' := (89, [(0, .ref 16), (1, .int (Int32.ofInt (n))), (2, .int (Int32.ofInt (w)))], [.ref 16], M)) rfl ?_
        refine w_gf (v := .ref 21) hR rfl rfl rfl rfl ?_
        refine w_adv (n := 1) (F' := (93, [(0, .ref 16), (1, .int (Int32.ofInt (n))), (2, .int (Int32.ofInt (w)))], [.int (Int32.ofInt (n)), .ref 21], M)) rfl ?_
        refine w_call (cm := 21) (as := [(0, .ref 21), (1, .int (Int32.ofInt (n)))]) (rest := []) (o := none) rfl (trivial) (c_at (n) 21 3200 rfl (by decide) hR ⟨by omega, by omega⟩) (fun r42 M43 q44 => ?_)
        rcases q44 with ⟨v45, e46, ⟨r47, r48⟩, e49, f50⟩
        rw [e46, e49]
        replace f50 : ((0 ≤ n ∧ n < (3200 : Int) ∧ v45 = (A 21) (n)) ∨ (¬ (0 ≤ n ∧ n < (3200 : Int)) ∧ v45 = -1)) := f50
        show w_W _ _ _ (96, [(0, .ref 16), (1, .int (Int32.ofInt (n))), (2, .int (Int32.ofInt (w)))], [.int (Int32.ofInt (v45))], M) _
        refine w_fin (r := .inl (some (v45))) (M' := M) rfl ?_
        exact ⟨v45, rfl, ⟨by omega, by omega⟩, rfl⟩
      · refine w_sw (v := 5) (F' := (97, [(0, .ref 16), (1, .int (Int32.ofInt (n))), (2, .int (Int32.ofInt (w)))], [], M)) h5 rfl rfl ?_
        refine w_adv (n := 1) (F' := (98, [(0, .ref 16), (1, .int (Int32.ofInt (n))), (2, .int (Int32.ofInt (w)))], [.ref 16], M)) rfl ?_
        refine w_gf (v := .ref 23) hR rfl rfl rfl rfl ?_
        refine w_adv (n := 1) (F' := (102, [(0, .ref 16), (1, .int (Int32.ofInt (n))), (2, .int (Int32.ofInt (w)))], [.int (Int32.ofInt (n)), .ref 23], M)) rfl ?_
        refine w_call (cm := 21) (as := [(0, .ref 23), (1, .int (Int32.ofInt (n)))]) (rest := []) (o := none) rfl (trivial) (c_at (n) 23 3200 rfl (by decide) hR ⟨by omega, by omega⟩) (fun r51 M52 q53 => ?_)
        rcases q53 with ⟨v54, e55, ⟨r56, r57⟩, e58, f59⟩
        rw [e55, e58]
        replace f59 : ((0 ≤ n ∧ n < (3200 : Int) ∧ v54 = (A 23) (n)) ∨ (¬ (0 ≤ n ∧ n < (3200 : Int)) ∧ v54 = -1)) := f59
        show w_W _ _ _ (105, [(0, .ref 16), (1, .int (Int32.ofInt (n))), (2, .int (Int32.ofInt (w)))], [.int (Int32.ofInt (v54))], M) _
        refine w_fin (r := .inl (some (v54))) (M' := M) rfl ?_
        exact ⟨v54, rfl, ⟨by omega, by omega⟩, rfl⟩
    · have h4 : ¬ (n < (I 1034)) := h4
      show w_W _ _ _ (12, [(0, .ref 16), (1, .int (Int32.ofInt (n))), (2, .int (Int32.ofInt (w)))], [], M) _
      refine w_adv (n := 1) (F' := (13, [(0, .ref 16), (1, .int (Int32.ofInt (n))), (2, .int (Int32.ofInt (w)))], [.int (Int32.ofInt ((-1)))], M)) rfl ?_
      refine w_fin (r := .inl (some ((-1)))) (M' := M) rfl ?_
      exact ⟨(-1), rfl, ⟨by omega, by omega⟩, rfl⟩
def c_Scope_meaning_Q (fr : Nat → Bool) (X : Nat → Option (q_C (Nat → Int32))) (u l : Nat) (I : Nat → Int) (A : Nat → Int → Int) (B C : Nat → Nat) (M : w_M) (n : Int) : w_X → w_M → Prop := fun r M' => (∃ v : Int, (r = .inl (some v)) ∧ (w_in v) ∧ (M' = M))
set_option maxHeartbeats 100000000 in
set_option maxRecDepth 100000 in
theorem c_Scope_meaning {L : Nat} {xs : Nat → Int32} {d : Nat} {fr : Nat → Bool} {X : Nat → Option (q_C (Nat → Int32))} {u l : Nat} {I : Nat → Int} {A : Nat → Int → Int} {B C : Nat → Nat} {M : w_M} (n : Int) (hR : w_Rep w_TC fr X u l I A B C M) (hd : 2 ≤ d) (r_n : w_in n) : w_W (z_P L xs) d 112 (0, [(0, .ref 33), (1, .int (Int32.ofInt (n)))], [], M) (c_Scope_meaning_Q fr X u l I A B C M n) := by
  obtain ⟨ra_n, rb_n⟩ := r_n
  obtain ⟨d, rfl⟩ : ∃ d0, d = d0 + 1 := ⟨d - 1, by omega⟩
  refine w_adv (n := 1) (F' := (1, [(0, .ref 33), (1, .int (Int32.ofInt (n)))], [.int (Int32.ofInt (n))], M)) rfl ?_
  refine w_br1 (a := n) rfl rfl ⟨by omega, by omega⟩ (fun h1 => ?_) (fun h1 => ?_)
  · have h1 : n < 0 := h1
    show w_W _ _ _ (22, [(0, .ref 33), (1, .int (Int32.ofInt (n)))], [], M) _
    refine w_adv (n := 1) (F' := (23, [(0, .ref 33), (1, .int (Int32.ofInt (n)))], [.int (Int32.ofInt ((-1)))], M)) rfl ?_
    refine w_fin (r := .inl (some ((-1)))) (M' := M) rfl ?_
    exact ⟨(-1), rfl, ⟨by omega, by omega⟩, rfl⟩
  · have h1 : ¬ (n < 0) := h1
    show w_W _ _ _ (4, [(0, .ref 33), (1, .int (Int32.ofInt (n)))], [], M) _
    refine w_adv (n := 2) (F' := (6, [(0, .ref 33), (1, .int (Int32.ofInt (n)))], [.ref 33, .int (Int32.ofInt (n))], M)) rfl ?_
    refine w_gf (v := .ref 37) hR rfl rfl rfl rfl ?_
    refine w_lena (n := 420) hR rfl rfl rfl ?_
    show w_W _ _ _ (10, [(0, .ref 33), (1, .int (Int32.ofInt (n)))], [.int (Int32.ofInt (420)), .int (Int32.ofInt (n))], M) _
    refine w_br2 (a := n) (b := 420) rfl rfl ⟨by omega, by omega⟩ ⟨by omega, by omega⟩ (fun h2 => ?_) (fun h2 => ?_)
    · have h2 : n ≥ 420 := h2
      show w_W _ _ _ (22, [(0, .ref 33), (1, .int (Int32.ofInt (n)))], [], M) _
      refine w_adv (n := 1) (F' := (23, [(0, .ref 33), (1, .int (Int32.ofInt (n)))], [.int (Int32.ofInt ((-1)))], M)) rfl ?_
      refine w_fin (r := .inl (some ((-1)))) (M' := M) rfl ?_
      exact ⟨(-1), rfl, ⟨by omega, by omega⟩, rfl⟩
    · have h2 : ¬ (n ≥ 420) := h2
      show w_W _ _ _ (13, [(0, .ref 33), (1, .int (Int32.ofInt (n)))], [], M) _
      refine w_adv (n := 1) (F' := (14, [(0, .ref 33), (1, .int (Int32.ofInt (n)))], [.ref 33], M)) rfl ?_
      refine w_gf (v := .ref 37) hR rfl rfl rfl rfl ?_
      refine w_adv (n := 1) (F' := (18, [(0, .ref 33), (1, .int (Int32.ofInt (n)))], [.int (Int32.ofInt (n)), .ref 37], M)) rfl ?_
      refine w_la (n := 420) hR rfl (Or.inl ⟨rfl, rfl⟩) rfl (show 0 ≤ n by omega) (show n < (420 : Int) by omega) (by decide) ?_
      obtain ⟨r3, r4⟩ : -2147483648 ≤ (A 37) (n) ∧ (A 37) (n) ≤ 2147483647 := hR.ra 37 (n)
      show w_W _ _ _ (19, [(0, .ref 33), (1, .int (Int32.ofInt (n)))], [.int (Int32.ofInt ((A 37) (n)))], M) _
      refine w_adv (n := 1) (F' := (23, [(0, .ref 33), (1, .int (Int32.ofInt (n)))], [.int (Int32.ofInt ((A 37) (n)))], M)) rfl ?_
      refine w_fin (r := .inl (some ((A 37) (n)))) (M' := M) rfl ?_
      exact ⟨(A 37) (n), rfl, ⟨by omega, by omega⟩, rfl⟩
