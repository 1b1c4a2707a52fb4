/-! CALLS of the class: put, cut and what only looks. -/
def c_put_Q (fr : Nat → Bool) (X : Nat → Option (q_C (Nat → Int32))) (u l : Nat) (I : Nat → Int) (A : Nat → Int → Int) (B C : Nat → Nat) (M : w_M) (e0 : Int64) : w_X → w_M → Prop := fun r M' => (∃ zn : Int, (r = .inl (some (-2))) ∧ (M' = M) ∧ (c_nbp e0 zn ∧ 8192 < (I 65) + zn)) ∨ (∃ v : Int, ∃ gb : Int → Int, ∃ zl : Int, ∃ zn : Int, (r = .inl (some v)) ∧ (w_in v) ∧ (w_Rep w_TC fr X u l (w_up I 65 (zl)) (w_upF A 2 gb) B C M') ∧ (c_nbp e0 zn ∧ zl = v ∧ v = (I 65) + zn ∧ v ≤ 8192))
set_option maxHeartbeats 100000000 in
set_option maxRecDepth 100000 in
theorem c_put {L : Nat} {xs : Nat → Int32} {d : Nat} {fr : Nat → Bool} {X : Nat → Option (q_C (Nat → Int32))} {u l : Nat} {I : Nat → Int} {A : Nat → Int → Int} {B C : Nat → Nat} {M : w_M} (e0 : Int64) (hR : w_Rep w_TC fr X u l I A B C M) (hd : 2 ≤ d) (hL : 0 ≤ (I 65) ∧ (I 65) ≤ 8192) : w_W (z_P L xs) d 37 (0, [(0, .ref 0), (1, .long (e0))], [], M) (c_put_Q fr X u l I A B C M e0) := by
  obtain ⟨d, rfl⟩ : ∃ d0, d = d0 + 1 := ⟨d - 1, by omega⟩
  refine w_adv (n := 1) (F' := (1, [(0, .ref 0), (1, .long (e0))], [.ref 0], M)) rfl ?_
  refine w_gf (v := .ref 1) hR rfl rfl rfl rfl ?_
  refine w_adv (n := 1) (F' := (5, [(0, .ref 0), (1, .long (e0))], [.long (e0), .ref 1], M)) rfl ?_
  refine w_call (cm := 38) (as := [(0, .ref 1), (1, .long (e0))]) (rest := []) (o := some (6, 1)) rfl (w_fitR hR rfl) (c_append (e0) hR (show 1 ≤ d by omega) (show 0 ≤ (I 65) ∧ (I 65) ≤ 8192 by omega)) (fun r1 M2 q3 => ?_)
  rcases q3 with ⟨zn4, e5, e6, f7⟩ | ⟨v8, gb9, zl10, zn11, e12, ⟨r13, r14⟩, hR3b, f15⟩
  · rw [e5, e6]
    replace f7 : c_nbp e0 zn4 ∧ 8192 < (I 65) + zn4 := f7
    obtain ⟨n16, n17⟩ := id f7
    clear f7
    skip
    show w_W _ _ _ (8, [(0, .ref 0), (1, .long (e0))], [.int (Int32.ofInt ((-2)))], M) _
    refine w_fin (r := .inl (some ((-2)))) (M' := M) rfl ?_
    first
      | exact Or.inl ⟨zn4, rfl, rfl, (show c_nbp e0 zn4 ∧ 8192 < (I 65) + zn4 by exact ⟨n16, by omega⟩)⟩
      | exact Or.inr (⟨(-2), (A 2), (I 65), zn4, rfl, ⟨by omega, by omega⟩, (w_Rep.up hR (show (w_up I 65 ((I 65))) = I from (funext fun s => if e0 : s = 65 then (by subst e0; rfl) else (by simp only [w_up_ne e0]))) (show (w_upF A 2 (A 2)) = A from (funext fun s => if e0 : s = 2 then (by subst e0; rfl) else (by simp only [w_upF_ne e0])))), (show c_nbp e0 zn4 ∧ (I 65) = (-2) ∧ (-2) = (I 65) + zn4 ∧ (-2) ≤ 8192 by exact ⟨n16, by omega, by omega, by omega⟩)⟩)
  · rw [e12]
    replace hR3b : w_Rep w_TC fr X u l (w_up I 65 (zl10)) (w_upF A 2 gb9) B C M2 := hR3b
    replace f15 : c_nbp e0 zn11 ∧ zl10 = v8 ∧ v8 = (I 65) + zn11 ∧ v8 ≤ 8192 := f15
    obtain ⟨n18, n19, n20, n21⟩ := id f15
    clear f15
    skip
    show w_W _ _ _ (8, [(0, .ref 0), (1, .long (e0))], [.int (Int32.ofInt (v8))], M2) _
    refine w_fin (r := .inl (some (v8))) (M' := M2) rfl ?_
    exact Or.inr (⟨v8, gb9, zl10, zn11, rfl, ⟨by omega, by omega⟩, hR3b, (show c_nbp e0 zn11 ∧ zl10 = v8 ∧ v8 = (I 65) + zn11 ∧ v8 ≤ 8192 by exact ⟨n18, by omega, by omega, by omega⟩)⟩)
def c_cut_Q (fr : Nat → Bool) (X : Nat → Option (q_C (Nat → Int32))) (u l : Nat) (I : Nat → Int) (A : Nat → Int → Int) (B C : Nat → Nat) (M : w_M) (n : Int) : w_X → w_M → Prop := fun r M' => ((r = .inl (some (-1))) ∧ (M' = M) ∧ (n < 0 ∨ (I 65) < n)) ∨ ((r = .inl (some n)) ∧ (w_Rep w_TC fr X u l (w_up I 65 (n)) A B C M') ∧ (0 ≤ n ∧ n ≤ (I 65)))
set_option maxHeartbeats 100000000 in
set_option maxRecDepth 100000 in
theorem c_cut {L : Nat} {xs : Nat → Int32} {d : Nat} {fr : Nat → Bool} {X : Nat → Option (q_C (Nat → Int32))} {u l : Nat} {I : Nat → Int} {A : Nat → Int → Int} {B C : Nat → Nat} {M : w_M} (n : Int) (hR : w_Rep w_TC fr X u l I A B C M) (hd : 1 ≤ d) (r_n : w_in n) : w_W (z_P L xs) d 40 (0, [(0, .ref 0), (1, .int (Int32.ofInt (n)))], [], M) (c_cut_Q fr X u l I A B C M n) := by
  obtain ⟨ra_n, rb_n⟩ := r_n
  obtain ⟨d, rfl⟩ : ∃ d0, d = d0 + 1 := ⟨d - 1, by omega⟩
  refine w_adv (n := 1) (F' := (1, [(0, .ref 0), (1, .int (Int32.ofInt (n)))], [.ref 0], M)) rfl ?_
  refine w_gf (v := .ref 1) hR rfl rfl rfl rfl ?_
  refine w_adv (n := 1) (F' := (5, [(0, .ref 0), (1, .int (Int32.ofInt (n)))], [.int (Int32.ofInt (n)), .ref 1], M)) rfl ?_
  refine w_call (cm := 41) (as := [(0, .ref 1), (1, .int (Int32.ofInt (n)))]) (rest := []) (o := some (6, 1)) rfl (w_fitR hR rfl) (c_shorten (n) hR ⟨by omega, by omega⟩) (fun r1 M2 q3 => ?_)
  rcases q3 with ⟨e4, e5, f6⟩ | ⟨e7, hR3b, f8⟩
  · rw [e4, e5]
    replace f6 : n < 0 ∨ (I 65) < n := f6
    show w_W _ _ _ (8, [(0, .ref 0), (1, .int (Int32.ofInt (n)))], [.int (Int32.ofInt ((-1)))], M) _
    refine w_fin (r := .inl (some ((-1)))) (M' := M) rfl ?_
    first
      | exact Or.inl ⟨rfl, rfl, (show n < 0 ∨ (I 65) < n by first | assumption | omega)⟩
      | exact Or.inr (⟨rfl, (w_Rep.up hR (show (w_up I 65 (n)) = I from (funext fun s => if e0 : s = 65 then (by subst e0; rfl) else (by simp only [w_up_ne e0]))) (show A = A from rfl)), (show 0 ≤ n ∧ n ≤ (I 65) by first | assumption | omega)⟩)
  · rw [e7]
    replace hR3b : w_Rep w_TC fr X u l (w_up I 65 (n)) A B C M2 := hR3b
    replace f8 : 0 ≤ n ∧ n ≤ (I 65) := f8
    obtain ⟨n9, n10⟩ := id f8
    clear f8
    show w_W _ _ _ (8, [(0, .ref 0), (1, .int (Int32.ofInt (n)))], [.int (Int32.ofInt (n))], M2) _
    refine w_fin (r := .inl (some (n))) (M' := M2) rfl ?_
    exact Or.inr (⟨rfl, hR3b, (show 0 ≤ n ∧ n ≤ (I 65) by first | assumption | omega)⟩)
def c_Cfault_Q (fr : Nat → Bool) (X : Nat → Option (q_C (Nat → Int32))) (u l : Nat) (I : Nat → Int) (A : Nat → Int → Int) (B C : Nat → Nat) (M : w_M) (w : Int) : w_X → w_M → Prop := fun r M' => (∃ v : Int, (r = .inl (some v)) ∧ (w_in v) ∧ (M' = M))
set_option maxHeartbeats 100000000 in
set_option maxRecDepth 100000 in
theorem c_Cfault {L : Nat} {xs : Nat → Int32} {d : Nat} {fr : Nat → Bool} {X : Nat → Option (q_C (Nat → Int32))} {u l : Nat} {I : Nat → Int} {A : Nat → Int → Int} {B C : Nat → Nat} {M : w_M} (w : Int) (hR : w_Rep w_TC fr X u l I A B C M) (hd : 1 ≤ d) (r_w : w_in w) : w_W (z_P L xs) d 191 (0, [(0, .ref 0), (1, .int (Int32.ofInt (w)))], [], M) (c_Cfault_Q fr X u l I A B C M w) := by
  obtain ⟨ra_w, rb_w⟩ := r_w
  obtain ⟨d, rfl⟩ : ∃ d0, d = d0 + 1 := ⟨d - 1, by omega⟩
  refine w_adv (n := 1) (F' := (1, [(0, .ref 0), (1, .int (Int32.ofInt (w)))], [.int (Int32.ofInt (w))], M)) rfl ?_
  rcases (show (w < 0 ∨ 3 < w) ∨ w = 0 ∨ w = 1 ∨ w = 2 ∨ w = 3 by omega) with h1 | h1 | h1 | h1 | h1
  · refine w_swd rfl ⟨by omega, by omega⟩ h1 rfl ?_
    show w_W _ _ _ (52, [(0, .ref 0), (1, .int (Int32.ofInt (w)))], [], M) _
    refine w_adv (n := 1) (F' := (53, [(0, .ref 0), (1, .int (Int32.ofInt (w)))], [.int (Int32.ofInt ((-1)))], M)) rfl ?_
    refine w_fin (r := .inl (some ((-1)))) (M' := M) rfl ?_
    exact ⟨(-1), rfl, ⟨by omega, by omega⟩, rfl⟩
  · refine w_sw (v := 0) (F' := (32, [(0, .ref 0), (1, .int (Int32.ofInt (w)))], [], M)) h1 rfl rfl ?_
    refine w_adv (n := 1) (F' := (33, [(0, .ref 0), (1, .int (Int32.ofInt (w)))], [.ref 0], M)) rfl ?_
    refine w_gf (v := .int (Int32.ofInt ((I 6)))) hR rfl rfl rfl rfl ?_
    obtain ⟨r2, r3⟩ : -2147483648 ≤ (I 6) ∧ (I 6) ≤ 2147483647 := hR.ri 6
    refine w_fin (r := .inl (some ((I 6)))) (M' := M) rfl ?_
    exact ⟨(I 6), rfl, ⟨by omega, by omega⟩, rfl⟩
  · refine w_sw (v := 1) (F' := (37, [(0, .ref 0), (1, .int (Int32.ofInt (w)))], [], M)) h1 rfl rfl ?_
    refine w_adv (n := 1) (F' := (38, [(0, .ref 0), (1, .int (Int32.ofInt (w)))], [.ref 0], M)) rfl ?_
    refine w_gf (v := .int (Int32.ofInt ((I 7)))) hR rfl rfl rfl rfl ?_
    obtain ⟨r4, r5⟩ : -2147483648 ≤ (I 7) ∧ (I 7) ≤ 2147483647 := hR.ri 7
    refine w_fin (r := .inl (some ((I 7)))) (M' := M) rfl ?_
    exact ⟨(I 7), rfl, ⟨by omega, by omega⟩, rfl⟩
  · refine w_sw (v := 2) (F' := (42, [(0, .ref 0), (1, .int (Int32.ofInt (w)))], [], M)) h1 rfl rfl ?_
    refine w_adv (n := 1) (F' := (43, [(0, .ref 0), (1, .int (Int32.ofInt (w)))], [.ref 0], M)) rfl ?_
    refine w_gf (v := .int (Int32.ofInt ((I 8)))) hR rfl rfl rfl rfl ?_
    obtain ⟨r6, r7⟩ : -2147483648 ≤ (I 8) ∧ (I 8) ≤ 2147483647 := hR.ri 8
    refine w_fin (r := .inl (some ((I 8)))) (M' := M) rfl ?_
    exact ⟨(I 8), rfl, ⟨by omega, by omega⟩, rfl⟩
  · refine w_sw (v := 3) (F' := (47, [(0, .ref 0), (1, .int (Int32.ofInt (w)))], [], M)) h1 rfl rfl ?_
    refine w_adv (n := 1) (F' := (48, [(0, .ref 0), (1, .int (Int32.ofInt (w)))], [.ref 0], M)) rfl ?_
    refine w_gf (v := .int (Int32.ofInt ((I 9)))) hR rfl rfl rfl rfl ?_
    obtain ⟨r8, r9⟩ : -2147483648 ≤ (I 9) ∧ (I 9) ≤ 2147483647 := hR.ri 9
    refine w_fin (r := .inl (some ((I 9)))) (M' := M) rfl ?_
    exact ⟨(I 9), rfl, ⟨by omega, by omega⟩, rfl⟩
def c_Ccount_Q (fr : Nat → Bool) (X : Nat → Option (q_C (Nat → Int32))) (u l : Nat) (I : Nat → Int) (A : Nat → Int → Int) (B C : Nat → Nat) (M : w_M) (w : Int) : w_X → w_M → Prop := fun r M' => (∃ v : Int, (r = .inl (some v)) ∧ (w_in v) ∧ (M' = M))
set_option maxHeartbeats 100000000 in
set_option maxRecDepth 100000 in
theorem c_Ccount {L : Nat} {xs : Nat → Int32} {d : Nat} {fr : Nat → Bool} {X : Nat → Option (q_C (Nat → Int32))} {u l : Nat} {I : Nat → Int} {A : Nat → Int → Int} {B C : Nat → Nat} {M : w_M} (w : Int) (hR : w_Rep w_TC fr X u l I A B C M) (hd : 3 ≤ d) (r_w : w_in w) : w_W (z_P L xs) d 192 (0, [(0, .ref 0), (1, .int (Int32.ofInt (w)))], [], M) (c_Ccount_Q fr X u l I A B C M w) := by
  obtain ⟨ra_w, rb_w⟩ := r_w
  obtain ⟨d, rfl⟩ : ∃ d0, d = d0 + 1 := ⟨d - 1, by omega⟩
  refine w_adv (n := 1) (F' := (1, [(0, .ref 0), (1, .int (Int32.ofInt (w)))], [.int (Int32.ofInt (w))], M)) rfl ?_
  rcases (show (w < 0 ∨ 3 < w) ∨ w = 0 ∨ w = 1 ∨ w = 2 ∨ w = 3 by omega) with h1 | h1 | h1 | h1 | h1
  · refine w_swd rfl ⟨by omega, by omega⟩ h1 rfl ?_
    show w_W _ _ _ (64, [(0, .ref 0), (1, .int (Int32.ofInt (w)))], [], M) _
    refine w_adv (n := 1) (F' := (65, [(0, .ref 0), (1, .int (Int32.ofInt (w)))], [.int (Int32.ofInt ((-1)))], M)) rfl ?_
    refine w_fin (r := .inl (some ((-1)))) (M' := M) rfl ?_
    exact ⟨(-1), rfl, ⟨by omega, by omega⟩, rfl⟩
  · refine w_sw (v := 0) (F' := (32, [(0, .ref 0), (1, .int (Int32.ofInt (w)))], [], M)) h1 rfl rfl ?_
    refine w_adv (n := 1) (F' := (33, [(0, .ref 0), (1, .int (Int32.ofInt (w)))], [.ref 0], M)) rfl ?_
    refine w_gf (v := .ref 16) hR rfl rfl rfl rfl ?_
    refine w_call (cm := 193) (as := [(0, .ref 16)]) (rest := []) (o := some (2, 16)) rfl (w_fitR hR rfl) (c_Kernel_statements hR (show 2 ≤ d by omega)) (fun r2 M3 q4 => ?_)
    rcases q4 with ⟨v5, e6, ⟨r7, r8⟩, e9⟩
    rw [e6, e9]
    show w_W _ _ _ (39, [(0, .ref 0), (1, .int (Int32.ofInt (w)))], [.int (Int32.ofInt (v5))], M) _
    refine w_fin (r := .inl (some (v5))) (M' := M) rfl ?_
    exact ⟨v5, rfl, ⟨by omega, by omega⟩, rfl⟩
  · refine w_sw (v := 1) (F' := (40, [(0, .ref 0), (1, .int (Int32.ofInt (w)))], [], M)) h1 rfl rfl ?_
    refine w_adv (n := 1) (F' := (41, [(0, .ref 0), (1, .int (Int32.ofInt (w)))], [.ref 0], M)) rfl ?_
    refine w_gf (v := .ref 16) hR rfl rfl rfl rfl ?_
    refine w_call (cm := 194) (as := [(0, .ref 16)]) (rest := []) (o := some (2, 16)) rfl (w_fitR hR rfl) (c_Kernel_variables hR (show 2 ≤ d by omega)) (fun r10 M11 q12 => ?_)
    rcases q12 with ⟨v13, e14, ⟨r15, r16⟩, e17⟩
    rw [e14, e17]
    show w_W _ _ _ (47, [(0, .ref 0), (1, .int (Int32.ofInt (w)))], [.int (Int32.ofInt (v13))], M) _
    refine w_fin (r := .inl (some (v13))) (M' := M) rfl ?_
    exact ⟨v13, rfl, ⟨by omega, by omega⟩, rfl⟩
  · refine w_sw (v := 2) (F' := (48, [(0, .ref 0), (1, .int (Int32.ofInt (w)))], [], M)) h1 rfl rfl ?_
    refine w_adv (n := 1) (F' := (49, [(0, .ref 0), (1, .int (Int32.ofInt (w)))], [.ref 0], M)) rfl ?_
    refine w_gf (v := .ref 3) hR rfl rfl rfl rfl ?_
    refine w_call (cm := 195) (as := [(0, .ref 3)]) (rest := []) (o := some (3, 3)) rfl (w_fitR hR rfl) (c_atoms hR (show 1 ≤ d by omega)) (fun r18 M19 q20 => ?_)
    rcases q20 with ⟨v21, e22, ⟨r23, r24⟩, e25⟩
    rw [e22, e25]
    show w_W _ _ _ (55, [(0, .ref 0), (1, .int (Int32.ofInt (w)))], [.int (Int32.ofInt (v21))], M) _
    refine w_fin (r := .inl (some (v21))) (M' := M) rfl ?_
    exact ⟨v21, rfl, ⟨by omega, by omega⟩, rfl⟩
  · refine w_sw (v := 3) (F' := (56, [(0, .ref 0), (1, .int (Int32.ofInt (w)))], [], M)) h1 rfl rfl ?_
    refine w_adv (n := 1) (F' := (57, [(0, .ref 0), (1, .int (Int32.ofInt (w)))], [.ref 0], M)) rfl ?_
    refine w_gf (v := .ref 1) hR rfl rfl rfl rfl ?_
    refine w_call (cm := 45) (as := [(0, .ref 1)]) (rest := []) (o := some (6, 1)) rfl (w_fitR hR rfl) (c_len hR) (fun r26 M27 q28 => ?_)
    rcases q28 with ⟨e29, e30, f31⟩
    rw [e29, e30]
    replace f31 : -2147483648 ≤ (I 65) ∧ (I 65) ≤ 2147483647 := f31
    obtain ⟨n32, n33⟩ := id f31
    clear f31
    show w_W _ _ _ (63, [(0, .ref 0), (1, .int (Int32.ofInt (w)))], [.int (Int32.ofInt ((I 65)))], M) _
    refine w_fin (r := .inl (some ((I 65)))) (M' := M) rfl ?_
    exact ⟨(I 65), rfl, ⟨by omega, by omega⟩, rfl⟩
def c_Cnode_Q (fr : Nat → Bool) (X : Nat → Option (q_C (Nat → Int32))) (u l : Nat) (I : Nat → Int) (A : Nat → Int → Int) (B C : Nat → Nat) (M : w_M) (s : Int) (w : Int) : w_X → w_M → Prop := fun r M' => (∃ v : Int, (r = .inl (some v)) ∧ (w_in v) ∧ (M' = M))
set_option maxHeartbeats 100000000 in
set_option maxRecDepth 100000 in
theorem c_Cnode {L : Nat} {xs : Nat → Int32} {d : Nat} {fr : Nat → Bool} {X : Nat → Option (q_C (Nat → Int32))} {u l : Nat} {I : Nat → Int} {A : Nat → Int → Int} {B C : Nat → Nat} {M : w_M} (s : Int) (w : Int) (hR : w_Rep w_TC fr X u l I A B C M) (hd : 3 ≤ d) (r_s : w_in s) (r_w : w_in w) : w_W (z_P L xs) d 196 (0, [(0, .ref 0), (1, .int (Int32.ofInt (s))), (2, .int (Int32.ofInt (w)))], [], M) (c_Cnode_Q fr X u l I A B C M s w) := by
  obtain ⟨ra_s, rb_s⟩ := r_s
  obtain ⟨ra_w, rb_w⟩ := r_w
  obtain ⟨d, rfl⟩ : ∃ d0, d = d0 + 1 := ⟨d - 1, by omega⟩
  refine w_adv (n := 1) (F' := (1, [(0, .ref 0), (1, .int (Int32.ofInt (s))), (2, .int (Int32.ofInt (w)))], [.ref 0], M)) rfl ?_
  refine w_gf (v := .ref 16) hR rfl rfl rfl rfl ?_
  refine w_adv (n := 2) (F' := (6, [(0, .ref 0), (1, .int (Int32.ofInt (s))), (2, .int (Int32.ofInt (w)))], [.int (Int32.ofInt (w)), .int (Int32.ofInt (s)), .ref 16], M)) rfl ?_
  refine w_call (cm := 197) (as := [(0, .ref 16), (1, .int (Int32.ofInt (s))), (2, .int (Int32.ofInt (w)))]) (rest := []) (o := some (2, 16)) rfl (w_fitR hR rfl) (c_Kernel_part (s) (w) hR (show 2 ≤ d by omega) ⟨by omega, by omega⟩ ⟨by omega, by omega⟩) (fun r1 M2 q3 => ?_)
  rcases q3 with ⟨v4, e5, ⟨r6, r7⟩, e8⟩
  rw [e5, e8]
  show w_W _ _ _ (9, [(0, .ref 0), (1, .int (Int32.ofInt (s))), (2, .int (Int32.ofInt (w)))], [.int (Int32.ofInt (v4))], M) _
  refine w_fin (r := .inl (some (v4))) (M' := M) rfl ?_
  exact ⟨v4, rfl, ⟨by omega, by omega⟩, rfl⟩
def c_Citem_Q (fr : Nat → Bool) (X : Nat → Option (q_C (Nat → Int32))) (u l : Nat) (I : Nat → Int) (A : Nat → Int → Int) (B C : Nat → Nat) (M : w_M) (s : Int) (i : Int) : w_X → w_M → Prop := fun r M' => (∃ v : Int, (r = .inl (some v)) ∧ (w_in v) ∧ (M' = M))
set_option maxHeartbeats 100000000 in
set_option maxRecDepth 100000 in
theorem c_Citem {L : Nat} {xs : Nat → Int32} {d : Nat} {fr : Nat → Bool} {X : Nat → Option (q_C (Nat → Int32))} {u l : Nat} {I : Nat → Int} {A : Nat → Int → Int} {B C : Nat → Nat} {M : w_M} (s : Int) (i : Int) (hR : w_Rep w_TC fr X u l I A B C M) (hd : 3 ≤ d) (r_s : w_in s) (r_i : w_in i) : w_W (z_P L xs) d 198 (0, [(0, .ref 0), (1, .int (Int32.ofInt (s))), (2, .int (Int32.ofInt (i)))], [], M) (c_Citem_Q fr X u l I A B C M s i) := by
  obtain ⟨ra_s, rb_s⟩ := r_s
  obtain ⟨ra_i, rb_i⟩ := r_i
  obtain ⟨d, rfl⟩ : ∃ d0, d = d0 + 1 := ⟨d - 1, by omega⟩
  refine w_adv (n := 1) (F' := (1, [(0, .ref 0), (1, .int (Int32.ofInt (s))), (2, .int (Int32.ofInt (i)))], [.ref 0], M)) rfl ?_
  refine w_gf (v := .ref 16) hR rfl rfl rfl rfl ?_
  refine w_adv (n := 2) (F' := (6, [(0, .ref 0), (1, .int (Int32.ofInt (s))), (2, .int (Int32.ofInt (i)))], [.int (Int32.ofInt (i)), .int (Int32.ofInt (s)), .ref 16], M)) rfl ?_
  refine w_call (cm := 199) (as := [(0, .ref 16), (1, .int (Int32.ofInt (s))), (2, .int (Int32.ofInt (i)))]) (rest := []) (o := some (2, 16)) rfl (w_fitR hR rfl) (c_Kernel_itemOf (s) (i) hR (show 1 ≤ d by omega) ⟨by omega, by omega⟩ ⟨by omega, by omega⟩) (fun r1 M2 q3 => ?_)
  rcases q3 with ⟨v4, e5, ⟨r6, r7⟩, e8⟩
  rw [e5, e8]
  show w_W _ _ _ (9, [(0, .ref 0), (1, .int (Int32.ofInt (s))), (2, .int (Int32.ofInt (i)))], [.int (Int32.ofInt (v4))], M) _
  refine w_fin (r := .inl (some (v4))) (M' := M) rfl ?_
  exact ⟨v4, rfl, ⟨by omega, by omega⟩, rfl⟩
def c_CatomByte_Q (fr : Nat → Bool) (X : Nat → Option (q_C (Nat → Int32))) (u l : Nat) (I : Nat → Int) (A : Nat → Int → Int) (B C : Nat → Nat) (M : w_M) (t : Int) (k : Int) : w_X → w_M → Prop := fun r M' => (∃ v : Int, (r = .inl (some v)) ∧ (w_in v) ∧ (M' = M))
set_option maxHeartbeats 100000000 in
set_option maxRecDepth 100000 in
theorem c_CatomByte {L : Nat} {xs : Nat → Int32} {d : Nat} {fr : Nat → Bool} {X : Nat → Option (q_C (Nat → Int32))} {u l : Nat} {I : Nat → Int} {A : Nat → Int → Int} {B C : Nat → Nat} {M : w_M} (t : Int) (k : Int) (hR : w_Rep w_TC fr X u l I A B C M) (hd : 3 ≤ d) (r_t : w_in t) (r_k : w_in k) (hNM : 36 ≤ (I 200) ∧ (I 200) ≤ 419 ∧ 0 ≤ (I 202) ∧ (I 202) ≤ 24) (hLN : ∀ i, (A 5) i ≤ 24) : w_W (z_P L xs) d 200 (0, [(0, .ref 0), (1, .int (Int32.ofInt (t))), (2, .int (Int32.ofInt (k)))], [], M) (c_CatomByte_Q fr X u l I A B C M t k) := by
  obtain ⟨ra_t, rb_t⟩ := r_t
  obtain ⟨ra_k, rb_k⟩ := r_k
  obtain ⟨d, rfl⟩ : ∃ d0, d = d0 + 1 := ⟨d - 1, by omega⟩
  refine w_adv (n := 1) (F' := (1, [(0, .ref 0), (1, .int (Int32.ofInt (t))), (2, .int (Int32.ofInt (k)))], [.ref 0], M)) rfl ?_
  refine w_gf (v := .ref 3) hR rfl rfl rfl rfl ?_
  refine w_adv (n := 1) (F' := (5, [(0, .ref 0), (1, .int (Int32.ofInt (t))), (2, .int (Int32.ofInt (k)))], [.ref 0, .ref 3], M)) rfl ?_
  refine w_gf (v := .ref 3) hR rfl rfl rfl rfl ?_
  refine w_adv (n := 1) (F' := (9, [(0, .ref 0), (1, .int (Int32.ofInt (t))), (2, .int (Int32.ofInt (k)))], [.int (Int32.ofInt (t)), .ref 3, .ref 3], M)) rfl ?_
  refine w_call (cm := 96) (as := [(0, .ref 3), (1, .int (Int32.ofInt (t)))]) (rest := [.ref 3]) (o := some (3, 3)) rfl (w_fitR hR rfl) (c_entryOfAtom (t) hR (show 1 ≤ d by omega) ⟨by omega, by omega⟩) (fun r1 M2 q3 => ?_)
  rcases q3 with ⟨v4, e5, ⟨r6, r7⟩, e8⟩
  rw [e5, e8]
  show w_W _ _ _ (12, [(0, .ref 0), (1, .int (Int32.ofInt (t))), (2, .int (Int32.ofInt (k)))], [.int (Int32.ofInt (v4)), .ref 3], M) _
  refine w_adv (n := 1) (F' := (13, [(0, .ref 0), (1, .int (Int32.ofInt (t))), (2, .int (Int32.ofInt (k)))], [.int (Int32.ofInt (k)), .int (Int32.ofInt (v4)), .ref 3], M)) rfl ?_
  refine w_call (cm := 168) (as := [(0, .ref 3), (1, .int (Int32.ofInt (v4))), (2, .int (Int32.ofInt (k)))]) (rest := []) (o := some (3, 3)) rfl (w_fitR hR rfl) (c_byteOf (v4) (k) hR ⟨by omega, by omega⟩ ⟨by omega, by omega⟩ (show 36 ≤ (I 200) ∧ (I 200) ≤ 419 ∧ 0 ≤ (I 202) ∧ (I 202) ≤ 24 by (repeat' apply And.intro) <;> first | assumption | omega) (show ∀ i, (A 5) i ≤ 24 by exact hLN)) (fun r9 M10 q11 => ?_)
  rcases q11 with ⟨v12, e13, ⟨r14, r15⟩, e16⟩
  rw [e13, e16]
  show w_W _ _ _ (16, [(0, .ref 0), (1, .int (Int32.ofInt (t))), (2, .int (Int32.ofInt (k)))], [.int (Int32.ofInt (v12))], M) _
  refine w_fin (r := .inl (some (v12))) (M' := M) rfl ?_
  exact ⟨v12, rfl, ⟨by omega, by omega⟩, rfl⟩
def c_CnameByte_Q (fr : Nat → Bool) (X : Nat → Option (q_C (Nat → Int32))) (u l : Nat) (I : Nat → Int) (A : Nat → Int → Int) (B C : Nat → Nat) (M : w_M) (v : Int) (k : Int) : w_X → w_M → Prop := fun r M' => (∃ y : Int, (r = .inl (some y)) ∧ (w_in y) ∧ (M' = M))
set_option maxHeartbeats 100000000 in
set_option maxRecDepth 100000 in
theorem c_CnameByte {L : Nat} {xs : Nat → Int32} {d : Nat} {fr : Nat → Bool} {X : Nat → Option (q_C (Nat → Int32))} {u l : Nat} {I : Nat → Int} {A : Nat → Int → Int} {B C : Nat → Nat} {M : w_M} (v : Int) (k : Int) (hR : w_Rep w_TC fr X u l I A B C M) (hd : 4 ≤ d) (r_v : w_in v) (r_k : w_in k) (hNM : 36 ≤ (I 200) ∧ (I 200) ≤ 419 ∧ 0 ≤ (I 202) ∧ (I 202) ≤ 24) (hLN : ∀ i, (A 5) i ≤ 24) : w_W (z_P L xs) d 201 (0, [(0, .ref 0), (1, .int (Int32.ofInt (v))), (2, .int (Int32.ofInt (k)))], [], M) (c_CnameByte_Q fr X u l I A B C M v k) := by
  obtain ⟨ra_v, rb_v⟩ := r_v
  obtain ⟨ra_k, rb_k⟩ := r_k
  obtain ⟨d, rfl⟩ : ∃ d0, d = d0 + 1 := ⟨d - 1, by omega⟩
  refine w_adv (n := 1) (F' := (1, [(0, .ref 0), (1, .int (Int32.ofInt (v))), (2, .int (Int32.ofInt (k)))], [.ref 0], M)) rfl ?_
  refine w_gf (v := .ref 3) hR rfl rfl rfl rfl ?_
  refine w_adv (n := 1) (F' := (5, [(0, .ref 0), (1, .int (Int32.ofInt (v))), (2, .int (Int32.ofInt (k)))], [.ref 0, .ref 3], M)) rfl ?_
  refine w_gf (v := .ref 16) hR rfl rfl rfl rfl ?_
  refine w_adv (n := 1) (F' := (9, [(0, .ref 0), (1, .int (Int32.ofInt (v))), (2, .int (Int32.ofInt (k)))], [.int (Int32.ofInt (v)), .ref 16, .ref 3], M)) rfl ?_
  refine w_call (cm := 202) (as := [(0, .ref 16), (1, .int (Int32.ofInt (v)))]) (rest := [.ref 3]) (o := some (2, 16)) rfl (w_fitR hR rfl) (c_Kernel_nameOf (v) hR (show 2 ≤ d by omega) ⟨by omega, by omega⟩) (fun r1 M2 q3 => ?_)
  rcases q3 with ⟨v4, e5, ⟨r6, r7⟩, e8⟩
  rw [e5, e8]
  show w_W _ _ _ (12, [(0, .ref 0), (1, .int (Int32.ofInt (v))), (2, .int (Int32.ofInt (k)))], [.int (Int32.ofInt (v4)), .ref 3], M) _
  refine w_adv (n := 1) (F' := (13, [(0, .ref 0), (1, .int (Int32.ofInt (v))), (2, .int (Int32.ofInt (k)))], [.int (Int32.ofInt (k)), .int (Int32.ofInt (v4)), .ref 3], M)) rfl ?_
  refine w_call (cm := 168) (as := [(0, .ref 3), (1, .int (Int32.ofInt (v4))), (2, .int (Int32.ofInt (k)))]) (rest := []) (o := some (3, 3)) rfl (w_fitR hR rfl) (c_byteOf (v4) (k) hR ⟨by omega, by omega⟩ ⟨by omega, by omega⟩ (show 36 ≤ (I 200) ∧ (I 200) ≤ 419 ∧ 0 ≤ (I 202) ∧ (I 202) ≤ 24 by (repeat' apply And.intro) <;> first | assumption | omega) (show ∀ i, (A 5) i ≤ 24 by exact hLN)) (fun r9 M10 q11 => ?_)
  rcases q11 with ⟨v12, e13, ⟨r14, r15⟩, e16⟩
  rw [e13, e16]
  show w_W _ _ _ (16, [(0, .ref 0), (1, .int (Int32.ofInt (v))), (2, .int (Int32.ofInt (k)))], [.int (Int32.ofInt (v12))], M) _
  refine w_fin (r := .inl (some (v12))) (M' := M) rfl ?_
  exact ⟨v12, rfl, ⟨by omega, by omega⟩, rfl⟩
def c_Cuses_Q (fr : Nat → Bool) (X : Nat → Option (q_C (Nat → Int32))) (u l : Nat) (I : Nat → Int) (A : Nat → Int → Int) (B C : Nat → Nat) (M : w_M) : w_X → w_M → Prop := fun r M' => (∃ v : Int, (r = .inl (some v)) ∧ (w_in v) ∧ (M' = M))
set_option maxHeartbeats 100000000 in
set_option maxRecDepth 100000 in
theorem c_Cuses {L : Nat} {xs : Nat → Int32} {d : Nat} {fr : Nat → Bool} {X : Nat → Option (q_C (Nat → Int32))} {u l : Nat} {I : Nat → Int} {A : Nat → Int → Int} {B C : Nat → Nat} {M : w_M} (hR : w_Rep w_TC fr X u l I A B C M) (hd : 1 ≤ d) : w_W (z_P L xs) d 203 (0, [(0, .ref 0)], [], M) (c_Cuses_Q fr X u l I A B C M) := by
  obtain ⟨d, rfl⟩ : ∃ d0, d = d0 + 1 := ⟨d - 1, by omega⟩
  refine w_adv (n := 1) (F' := (1, [(0, .ref 0)], [.ref 0], M)) rfl ?_
  refine w_gf (v := .int (Int32.ofInt ((I 10)))) hR rfl rfl rfl rfl ?_
  obtain ⟨r1, r2⟩ : -2147483648 ≤ (I 10) ∧ (I 10) ≤ 2147483647 := hR.ri 10
  refine w_fin (r := .inl (some ((I 10)))) (M' := M) rfl ?_
  exact ⟨(I 10), rfl, ⟨by omega, by omega⟩, rfl⟩
