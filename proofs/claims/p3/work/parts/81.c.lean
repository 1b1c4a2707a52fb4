/-! short methods of the class that write. -/
def c_Tree_setB_Q (fr : Nat → Bool) (X : Nat → Option (q_C (Nat → Int32))) (u l : Nat) (I : Nat → Int) (A : Nat → Int → Int) (B C : Nat → Nat) (M : w_M) (i : Int) (v : Int) : w_X → w_M → Prop := fun r M' => ((r = .inl none) ∧ (w_Rep w_TC fr X u l I (w_upF A 29 (w_upG 3016 (A 29) (i) (v))) B C M'))
set_option maxHeartbeats 100000000 in
set_option maxRecDepth 100000 in
theorem c_Tree_setB {L : Nat} {xs : Nat → Int32} {d : Nat} {fr : Nat → Bool} {X : Nat → Option (q_C (Nat → Int32))} {u l : Nat} {I : Nat → Int} {A : Nat → Int → Int} {B C : Nat → Nat} {M : w_M} (i : Int) (v : Int) (hR : w_Rep w_TC fr X u l I A B C M) (hd : 2 ≤ d) (r_i : w_in i) (r_v : w_in v) : w_W (z_P L xs) d 115 (0, [(0, .ref 26), (1, .int (Int32.ofInt (i))), (2, .int (Int32.ofInt (v)))], [], M) (c_Tree_setB_Q fr X u l I A B C M i v) := by
  obtain ⟨ra_i, rb_i⟩ := r_i
  obtain ⟨ra_v, rb_v⟩ := r_v
  obtain ⟨d, rfl⟩ : ∃ d0, d = d0 + 1 := ⟨d - 1, by omega⟩
  refine w_adv (n := 1) (F' := (1, [(0, .ref 26), (1, .int (Int32.ofInt (i))), (2, .int (Int32.ofInt (v)))], [.ref 26], M)) rfl ?_
  refine w_gf (v := .ref 29) hR rfl rfl rfl rfl ?_
  refine w_adv (n := 2) (F' := (6, [(0, .ref 26), (1, .int (Int32.ofInt (i))), (2, .int (Int32.ofInt (v)))], [.int (Int32.ofInt (v)), .int (Int32.ofInt (i)), .ref 29], M)) rfl ?_
  refine w_call (cm := 25) (as := [(0, .ref 29), (1, .int (Int32.ofInt (i))), (2, .int (Int32.ofInt (v)))]) (rest := []) (o := none) rfl (trivial) (c_set (i) (v) 29 3016 rfl (by decide) hR ⟨by omega, by omega⟩ ⟨by omega, by omega⟩) (fun r1 M2 q3 => ?_)
  rcases q3 with ⟨e4, hR3a⟩
  rw [e4]
  replace hR3a : w_Rep w_TC fr X u l I (w_upF A 29 (w_upG 3016 (A 29) (i) (v))) B C M2 := hR3a
  show w_W _ _ _ (9, [(0, .ref 26), (1, .int (Int32.ofInt (i))), (2, .int (Int32.ofInt (v)))], [], M2) _
  refine w_fin (r := .inl none) (M' := M2) rfl ?_
  exact ⟨rfl, hR3a⟩
def c_Tree_setC_Q (fr : Nat → Bool) (X : Nat → Option (q_C (Nat → Int32))) (u l : Nat) (I : Nat → Int) (A : Nat → Int → Int) (B C : Nat → Nat) (M : w_M) (i : Int) (v : Int) : w_X → w_M → Prop := fun r M' => ((r = .inl none) ∧ (w_Rep w_TC fr X u l I (w_upF A 30 (w_upG 3016 (A 30) (i) (v))) B C M'))
set_option maxHeartbeats 100000000 in
set_option maxRecDepth 100000 in
theorem c_Tree_setC {L : Nat} {xs : Nat → Int32} {d : Nat} {fr : Nat → Bool} {X : Nat → Option (q_C (Nat → Int32))} {u l : Nat} {I : Nat → Int} {A : Nat → Int → Int} {B C : Nat → Nat} {M : w_M} (i : Int) (v : Int) (hR : w_Rep w_TC fr X u l I A B C M) (hd : 2 ≤ d) (r_i : w_in i) (r_v : w_in v) : w_W (z_P L xs) d 186 (0, [(0, .ref 26), (1, .int (Int32.ofInt (i))), (2, .int (Int32.ofInt (v)))], [], M) (c_Tree_setC_Q fr X u l I A B C M i v) := by
  obtain ⟨ra_i, rb_i⟩ := r_i
  obtain ⟨ra_v, rb_v⟩ := r_v
  obtain ⟨d, rfl⟩ : ∃ d0, d = d0 + 1 := ⟨d - 1, by omega⟩
  refine w_adv (n := 1) (F' := (1, [(0, .ref 26), (1, .int (Int32.ofInt (i))), (2, .int (Int32.ofInt (v)))], [.ref 26], M)) rfl ?_
  refine w_gf (v := .ref 30) hR rfl rfl rfl rfl ?_
  refine w_adv (n := 2) (F' := (6, [(0, .ref 26), (1, .int (Int32.ofInt (i))), (2, .int (Int32.ofInt (v)))], [.int (Int32.ofInt (v)), .int (Int32.ofInt (i)), .ref 30], M)) rfl ?_
  refine w_call (cm := 25) (as := [(0, .ref 30), (1, .int (Int32.ofInt (i))), (2, .int (Int32.ofInt (v)))]) (rest := []) (o := none) rfl (trivial) (c_set (i) (v) 30 3016 rfl (by decide) hR ⟨by omega, by omega⟩ ⟨by omega, by omega⟩) (fun r1 M2 q3 => ?_)
  rcases q3 with ⟨e4, hR3a⟩
  rw [e4]
  replace hR3a : w_Rep w_TC fr X u l I (w_upF A 30 (w_upG 3016 (A 30) (i) (v))) B C M2 := hR3a
  show w_W _ _ _ (9, [(0, .ref 26), (1, .int (Int32.ofInt (i))), (2, .int (Int32.ofInt (v)))], [], M2) _
  refine w_fin (r := .inl none) (M' := M2) rfl ?_
  exact ⟨rfl, hR3a⟩
def c_Tree_chain_Q (fr : Nat → Bool) (X : Nat → Option (q_C (Nat → Int32))) (u l : Nat) (I : Nat → Int) (A : Nat → Int → Int) (B C : Nat → Nat) (M : w_M) (i : Int) (v : Int) : w_X → w_M → Prop := fun r M' => ((r = .inl (some v)) ∧ (w_Rep w_TC fr X u l I (w_upF A 31 (w_upG 3016 (A 31) (i) (v))) B C M'))
set_option maxHeartbeats 100000000 in
set_option maxRecDepth 100000 in
theorem c_Tree_chain {L : Nat} {xs : Nat → Int32} {d : Nat} {fr : Nat → Bool} {X : Nat → Option (q_C (Nat → Int32))} {u l : Nat} {I : Nat → Int} {A : Nat → Int → Int} {B C : Nat → Nat} {M : w_M} (i : Int) (v : Int) (hR : w_Rep w_TC fr X u l I A B C M) (hd : 2 ≤ d) (r_i : w_in i) (r_v : w_in v) : w_W (z_P L xs) d 106 (0, [(0, .ref 26), (1, .int (Int32.ofInt (i))), (2, .int (Int32.ofInt (v)))], [], M) (c_Tree_chain_Q fr X u l I A B C M i v) := by
  obtain ⟨ra_i, rb_i⟩ := r_i
  obtain ⟨ra_v, rb_v⟩ := r_v
  obtain ⟨d, rfl⟩ : ∃ d0, d = d0 + 1 := ⟨d - 1, by omega⟩
  refine w_adv (n := 1) (F' := (1, [(0, .ref 26), (1, .int (Int32.ofInt (i))), (2, .int (Int32.ofInt (v)))], [.ref 26], M)) rfl ?_
  refine w_gf (v := .ref 31) hR rfl rfl rfl rfl ?_
  refine w_adv (n := 2) (F' := (6, [(0, .ref 26), (1, .int (Int32.ofInt (i))), (2, .int (Int32.ofInt (v)))], [.int (Int32.ofInt (v)), .int (Int32.ofInt (i)), .ref 31], M)) rfl ?_
  refine w_call (cm := 25) (as := [(0, .ref 31), (1, .int (Int32.ofInt (i))), (2, .int (Int32.ofInt (v)))]) (rest := []) (o := none) rfl (trivial) (c_set (i) (v) 31 3016 rfl (by decide) hR ⟨by omega, by omega⟩ ⟨by omega, by omega⟩) (fun r1 M2 q3 => ?_)
  rcases q3 with ⟨e4, hR3a⟩
  rw [e4]
  replace hR3a : w_Rep w_TC fr X u l I (w_upF A 31 (w_upG 3016 (A 31) (i) (v))) B C M2 := hR3a
  show w_W _ _ _ (9, [(0, .ref 26), (1, .int (Int32.ofInt (i))), (2, .int (Int32.ofInt (v)))], [], M2) _
  refine w_adv (n := 1) (F' := (10, [(0, .ref 26), (1, .int (Int32.ofInt (i))), (2, .int (Int32.ofInt (v)))], [.int (Int32.ofInt (v))], M2)) rfl ?_
  refine w_fin (r := .inl (some (v))) (M' := M2) rfl ?_
  exact ⟨rfl, hR3a⟩
def c_Tree_setVariable_Q (fr : Nat → Bool) (X : Nat → Option (q_C (Nat → Int32))) (u l : Nat) (I : Nat → Int) (A : Nat → Int → Int) (B C : Nat → Nat) (M : w_M) (i : Int) (v : Int) : w_X → w_M → Prop := fun r M' => ((r = .inl none) ∧ (w_Rep w_TC fr X u l I (w_upF A 32 (w_upG 3016 (A 32) (i) (v))) B C M'))
set_option maxHeartbeats 100000000 in
set_option maxRecDepth 100000 in
theorem c_Tree_setVariable {L : Nat} {xs : Nat → Int32} {d : Nat} {fr : Nat → Bool} {X : Nat → Option (q_C (Nat → Int32))} {u l : Nat} {I : Nat → Int} {A : Nat → Int → Int} {B C : Nat → Nat} {M : w_M} (i : Int) (v : Int) (hR : w_Rep w_TC fr X u l I A B C M) (hd : 2 ≤ d) (r_i : w_in i) (r_v : w_in v) : w_W (z_P L xs) d 160 (0, [(0, .ref 26), (1, .int (Int32.ofInt (i))), (2, .int (Int32.ofInt (v)))], [], M) (c_Tree_setVariable_Q fr X u l I A B C M i v) := by
  obtain ⟨ra_i, rb_i⟩ := r_i
  obtain ⟨ra_v, rb_v⟩ := r_v
  obtain ⟨d, rfl⟩ : ∃ d0, d = d0 + 1 := ⟨d - 1, by omega⟩
  refine w_adv (n := 1) (F' := (1, [(0, .ref 26), (1, .int (Int32.ofInt (i))), (2, .int (Int32.ofInt (v)))], [.ref 26], M)) rfl ?_
  refine w_gf (v := .ref 32) hR rfl rfl rfl rfl ?_
  refine w_adv (n := 2) (F' := (6, [(0, .ref 26), (1, .int (Int32.ofInt (i))), (2, .int (Int32.ofInt (v)))], [.int (Int32.ofInt (v)), .int (Int32.ofInt (i)), .ref 32], M)) rfl ?_
  refine w_call (cm := 25) (as := [(0, .ref 32), (1, .int (Int32.ofInt (i))), (2, .int (Int32.ofInt (v)))]) (rest := []) (o := none) rfl (trivial) (c_set (i) (v) 32 3016 rfl (by decide) hR ⟨by omega, by omega⟩ ⟨by omega, by omega⟩) (fun r1 M2 q3 => ?_)
  rcases q3 with ⟨e4, hR3a⟩
  rw [e4]
  replace hR3a : w_Rep w_TC fr X u l I (w_upF A 32 (w_upG 3016 (A 32) (i) (v))) B C M2 := hR3a
  show w_W _ _ _ (9, [(0, .ref 26), (1, .int (Int32.ofInt (i))), (2, .int (Int32.ofInt (v)))], [], M2) _
  refine w_fin (r := .inl none) (M' := M2) rfl ?_
  exact ⟨rfl, hR3a⟩
def c_Scope_setVariable_Q (fr : Nat → Bool) (X : Nat → Option (q_C (Nat → Int32))) (u l : Nat) (I : Nat → Int) (A : Nat → Int → Int) (B C : Nat → Nat) (M : w_M) (i : Int) (v : Int) : w_X → w_M → Prop := fun r M' => ((r = .inl none) ∧ (w_Rep w_TC fr X u l I (w_upF A 36 (w_upG 1508 (A 36) (i) (v))) B C M'))
set_option maxHeartbeats 100000000 in
set_option maxRecDepth 100000 in
theorem c_Scope_setVariable {L : Nat} {xs : Nat → Int32} {d : Nat} {fr : Nat → Bool} {X : Nat → Option (q_C (Nat → Int32))} {u l : Nat} {I : Nat → Int} {A : Nat → Int → Int} {B C : Nat → Nat} {M : w_M} (i : Int) (v : Int) (hR : w_Rep w_TC fr X u l I A B C M) (hd : 2 ≤ d) (r_i : w_in i) (r_v : w_in v) : w_W (z_P L xs) d 79 (0, [(0, .ref 33), (1, .int (Int32.ofInt (i))), (2, .int (Int32.ofInt (v)))], [], M) (c_Scope_setVariable_Q fr X u l I A B C M i v) := by
  obtain ⟨ra_i, rb_i⟩ := r_i
  obtain ⟨ra_v, rb_v⟩ := r_v
  obtain ⟨d, rfl⟩ : ∃ d0, d = d0 + 1 := ⟨d - 1, by omega⟩
  refine w_adv (n := 1) (F' := (1, [(0, .ref 33), (1, .int (Int32.ofInt (i))), (2, .int (Int32.ofInt (v)))], [.ref 33], M)) rfl ?_
  refine w_gf (v := .ref 36) hR rfl rfl rfl rfl ?_
  refine w_adv (n := 2) (F' := (6, [(0, .ref 33), (1, .int (Int32.ofInt (i))), (2, .int (Int32.ofInt (v)))], [.int (Int32.ofInt (v)), .int (Int32.ofInt (i)), .ref 36], M)) rfl ?_
  refine w_call (cm := 25) (as := [(0, .ref 36), (1, .int (Int32.ofInt (i))), (2, .int (Int32.ofInt (v)))]) (rest := []) (o := none) rfl (trivial) (c_set (i) (v) 36 1508 rfl (by decide) hR ⟨by omega, by omega⟩ ⟨by omega, by omega⟩) (fun r1 M2 q3 => ?_)
  rcases q3 with ⟨e4, hR3a⟩
  rw [e4]
  replace hR3a : w_Rep w_TC fr X u l I (w_upF A 36 (w_upG 1508 (A 36) (i) (v))) B C M2 := hR3a
  show w_W _ _ _ (9, [(0, .ref 33), (1, .int (Int32.ofInt (i))), (2, .int (Int32.ofInt (v)))], [], M2) _
  refine w_fin (r := .inl none) (M' := M2) rfl ?_
  exact ⟨rfl, hR3a⟩
def c_Tree_clear_Q (fr : Nat → Bool) (X : Nat → Option (q_C (Nat → Int32))) (u l : Nat) (I : Nat → Int) (A : Nat → Int → Int) (B C : Nat → Nat) (M : w_M) : w_X → w_M → Prop := fun r M' => ((r = .inl none) ∧ (w_Rep w_TC fr X u l (w_up I 1670 (0)) A B C M'))
set_option maxHeartbeats 100000000 in
set_option maxRecDepth 100000 in
theorem c_Tree_clear {L : Nat} {xs : Nat → Int32} {d : Nat} {fr : Nat → Bool} {X : Nat → Option (q_C (Nat → Int32))} {u l : Nat} {I : Nat → Int} {A : Nat → Int → Int} {B C : Nat → Nat} {M : w_M} (hR : w_Rep w_TC fr X u l I A B C M) : w_W (z_P L xs) d 76 (0, [(0, .ref 26)], [], M) (c_Tree_clear_Q fr X u l I A B C M) := by
  refine w_adv (n := 2) (F' := (2, [(0, .ref 26)], [.int (Int32.ofInt (0)), .ref 26], M)) rfl ?_
  refine w_pf hR rfl rfl rfl rfl (show w_in (0) from ⟨by omega, by omega⟩) (fun h => absurd h (by decide)) (fun M1 hR2 => ?_)
  replace hR2 : w_Rep w_TC fr X u l (w_up I 1670 (0)) A B C M1 := hR2
  refine w_fin (r := .inl none) (M' := M1) rfl ?_
  exact ⟨rfl, hR2⟩
def c_Tree_make_Q (fr : Nat → Bool) (X : Nat → Option (q_C (Nat → Int32))) (u l : Nat) (I : Nat → Int) (A : Nat → Int → Int) (B C : Nat → Nat) (M : w_M) (k : Int) (a : Int) (b : Int) (c : Int) : w_X → w_M → Prop := fun r M' => ((r = .inl (some (-1))) ∧ (M' = M) ∧ (3016 ≤ (I 1670))) ∨ ((r = .inl (some (I 1670))) ∧ (w_Rep w_TC fr X u l (w_up I 1670 ((I 1670) + 1)) (w_upF (w_upF (w_upF (w_upF (w_upF (w_upF A 27 (w_upG 3016 (A 27) ((I 1670)) (k))) 28 (w_upG 3016 (A 28) ((I 1670)) (a))) 29 (w_upG 3016 (A 29) ((I 1670)) (b))) 30 (w_upG 3016 (A 30) ((I 1670)) (c))) 31 (w_upG 3016 (A 31) ((I 1670)) ((-1)))) 32 (w_upG 3016 (A 32) ((I 1670)) ((-1)))) B C M') ∧ ((I 1670) < 3016))
set_option maxHeartbeats 100000000 in
set_option maxRecDepth 100000 in
theorem c_Tree_make {L : Nat} {xs : Nat → Int32} {d : Nat} {fr : Nat → Bool} {X : Nat → Option (q_C (Nat → Int32))} {u l : Nat} {I : Nat → Int} {A : Nat → Int → Int} {B C : Nat → Nat} {M : w_M} (k : Int) (a : Int) (b : Int) (c : Int) (hR : w_Rep w_TC fr X u l I A B C M) (hd : 2 ≤ d) (r_k : w_in k) (r_a : w_in a) (r_b : w_in b) (r_c : w_in c) : w_W (z_P L xs) d 94 (0, [(0, .ref 26), (1, .int (Int32.ofInt (k))), (2, .int (Int32.ofInt (a))), (3, .int (Int32.ofInt (b))), (4, .int (Int32.ofInt (c)))], [], M) (c_Tree_make_Q fr X u l I A B C M k a b c) := by
  obtain ⟨ra_k, rb_k⟩ := r_k
  obtain ⟨ra_a, rb_a⟩ := r_a
  obtain ⟨ra_b, rb_b⟩ := r_b
  obtain ⟨ra_c, rb_c⟩ := r_c
  obtain ⟨d, rfl⟩ : ∃ d0, d = d0 + 1 := ⟨d - 1, by omega⟩
  refine w_adv (n := 1) (F' := (1, [(0, .ref 26), (1, .int (Int32.ofInt (k))), (2, .int (Int32.ofInt (a))), (3, .int (Int32.ofInt (b))), (4, .int (Int32.ofInt (c)))], [.ref 26], M)) rfl ?_
  refine w_gf (v := .int (Int32.ofInt ((I 1670)))) hR rfl rfl rfl rfl ?_
  obtain ⟨r1, r2⟩ : -2147483648 ≤ (I 1670) ∧ (I 1670) ≤ 2147483647 := hR.ri 1670
  refine w_adv (n := 1) (F' := (7, [(0, .ref 26), (1, .int (Int32.ofInt (k))), (2, .int (Int32.ofInt (a))), (3, .int (Int32.ofInt (b))), (4, .int (Int32.ofInt (c)))], [.int (Int32.ofInt (3016)), .int (Int32.ofInt ((I 1670)))], M)) rfl ?_
  refine w_br2 (a := (I 1670)) (b := 3016) rfl rfl ⟨by omega, by omega⟩ ⟨by omega, by omega⟩ (fun h3 => ?_) (fun h3 => ?_)
  · have h3 : (I 1670) < 3016 := h3
    show w_W _ _ _ (12, [(0, .ref 26), (1, .int (Int32.ofInt (k))), (2, .int (Int32.ofInt (a))), (3, .int (Int32.ofInt (b))), (4, .int (Int32.ofInt (c)))], [], M) _
    refine w_adv (n := 1) (F' := (13, [(0, .ref 26), (1, .int (Int32.ofInt (k))), (2, .int (Int32.ofInt (a))), (3, .int (Int32.ofInt (b))), (4, .int (Int32.ofInt (c)))], [.ref 26], M)) rfl ?_
    refine w_gf (v := .int (Int32.ofInt ((I 1670)))) hR rfl rfl rfl rfl ?_
    refine w_adv (n := 2) (F' := (19, [(5, .int (Int32.ofInt ((I 1670)))), (0, .ref 26), (1, .int (Int32.ofInt (k))), (2, .int (Int32.ofInt (a))), (3, .int (Int32.ofInt (b))), (4, .int (Int32.ofInt (c)))], [.ref 26], M)) rfl ?_
    refine w_gf (v := .ref 27) hR rfl rfl rfl rfl ?_
    refine w_adv (n := 2) (F' := (25, [(5, .int (Int32.ofInt ((I 1670)))), (0, .ref 26), (1, .int (Int32.ofInt (k))), (2, .int (Int32.ofInt (a))), (3, .int (Int32.ofInt (b))), (4, .int (Int32.ofInt (c)))], [.int (Int32.ofInt (k)), .int (Int32.ofInt ((I 1670))), .ref 27], M)) rfl ?_
    refine w_call (cm := 25) (as := [(0, .ref 27), (1, .int (Int32.ofInt ((I 1670)))), (2, .int (Int32.ofInt (k)))]) (rest := []) (o := none) rfl (trivial) (c_set ((I 1670)) (k) 27 3016 rfl (by decide) hR ⟨by omega, by omega⟩ ⟨by omega, by omega⟩) (fun r4 M5 q6 => ?_)
    rcases q6 with ⟨e7, hR6a⟩
    rw [e7]
    replace hR6a : w_Rep w_TC fr X u l I (w_upF A 27 (w_upG 3016 (A 27) ((I 1670)) (k))) B C M5 := hR6a
    show w_W _ _ _ (28, [(5, .int (Int32.ofInt ((I 1670)))), (0, .ref 26), (1, .int (Int32.ofInt (k))), (2, .int (Int32.ofInt (a))), (3, .int (Int32.ofInt (b))), (4, .int (Int32.ofInt (c)))], [], M5) _
    refine w_adv (n := 1) (F' := (29, [(5, .int (Int32.ofInt ((I 1670)))), (0, .ref 26), (1, .int (Int32.ofInt (k))), (2, .int (Int32.ofInt (a))), (3, .int (Int32.ofInt (b))), (4, .int (Int32.ofInt (c)))], [.ref 26], M5)) rfl ?_
    refine w_gf (v := .ref 28) hR6a rfl rfl rfl rfl ?_
    refine w_adv (n := 2) (F' := (35, [(5, .int (Int32.ofInt ((I 1670)))), (0, .ref 26), (1, .int (Int32.ofInt (k))), (2, .int (Int32.ofInt (a))), (3, .int (Int32.ofInt (b))), (4, .int (Int32.ofInt (c)))], [.int (Int32.ofInt (a)), .int (Int32.ofInt ((I 1670))), .ref 28], M5)) rfl ?_
    refine w_call (cm := 25) (as := [(0, .ref 28), (1, .int (Int32.ofInt ((I 1670)))), (2, .int (Int32.ofInt (a)))]) (rest := []) (o := none) rfl (trivial) (c_set ((I 1670)) (a) 28 3016 rfl (by decide) hR6a ⟨by omega, by omega⟩ ⟨by omega, by omega⟩) (fun r8 M9 q10 => ?_)
    rcases q10 with ⟨e11, hR10a⟩
    rw [e11]
    replace hR10a : w_Rep w_TC fr X u l I (w_upF (w_upF A 27 (w_upG 3016 (A 27) ((I 1670)) (k))) 28 (w_upG 3016 (A 28) ((I 1670)) (a))) B C M9 := hR10a
    show w_W _ _ _ (38, [(5, .int (Int32.ofInt ((I 1670)))), (0, .ref 26), (1, .int (Int32.ofInt (k))), (2, .int (Int32.ofInt (a))), (3, .int (Int32.ofInt (b))), (4, .int (Int32.ofInt (c)))], [], M9) _
    refine w_adv (n := 1) (F' := (39, [(5, .int (Int32.ofInt ((I 1670)))), (0, .ref 26), (1, .int (Int32.ofInt (k))), (2, .int (Int32.ofInt (a))), (3, .int (Int32.ofInt (b))), (4, .int (Int32.ofInt (c)))], [.ref 26], M9)) rfl ?_
    refine w_gf (v := .ref 29) hR10a rfl rfl rfl rfl ?_
    refine w_adv (n := 2) (F' := (45, [(5, .int (Int32.ofInt ((I 1670)))), (0, .ref 26), (1, .int (Int32.ofInt (k))), (2, .int (Int32.ofInt (a))), (3, .int (Int32.ofInt (b))), (4, .int (Int32.ofInt (c)))], [.int (Int32.ofInt (b)), .int (Int32.ofInt ((I 1670))), .ref 29], M9)) rfl ?_
    refine w_call (cm := 25) (as := [(0, .ref 29), (1, .int (Int32.ofInt ((I 1670)))), (2, .int (Int32.ofInt (b)))]) (rest := []) (o := none) rfl (trivial) (c_set ((I 1670)) (b) 29 3016 rfl (by decide) hR10a ⟨by omega, by omega⟩ ⟨by omega, by omega⟩) (fun r12 M13 q14 => ?_)
    rcases q14 with ⟨e15, hR14a⟩
    rw [e15]
    replace hR14a : w_Rep w_TC fr X u l I (w_upF (w_upF (w_upF A 27 (w_upG 3016 (A 27) ((I 1670)) (k))) 28 (w_upG 3016 (A 28) ((I 1670)) (a))) 29 (w_upG 3016 (A 29) ((I 1670)) (b))) B C M13 := hR14a
    show w_W _ _ _ (48, [(5, .int (Int32.ofInt ((I 1670)))), (0, .ref 26), (1, .int (Int32.ofInt (k))), (2, .int (Int32.ofInt (a))), (3, .int (Int32.ofInt (b))), (4, .int (Int32.ofInt (c)))], [], M13) _
    refine w_adv (n := 1) (F' := (49, [(5, .int (Int32.ofInt ((I 1670)))), (0, .ref 26), (1, .int (Int32.ofInt (k))), (2, .int (Int32.ofInt (a))), (3, .int (Int32.ofInt (b))), (4, .int (Int32.ofInt (c)))], [.ref 26], M13)) rfl ?_
    refine w_gf (v := .ref 30) hR14a rfl rfl rfl rfl ?_
    refine w_adv (n := 2) (F' := (56, [(5, .int (Int32.ofInt ((I 1670)))), (0, .ref 26), (1, .int (Int32.ofInt (k))), (2, .int (Int32.ofInt (a))), (3, .int (Int32.ofInt (b))), (4, .int (Int32.ofInt (c)))], [.int (Int32.ofInt (c)), .int (Int32.ofInt ((I 1670))), .ref 30], M13)) rfl ?_
    refine w_call (cm := 25) (as := [(0, .ref 30), (1, .int (Int32.ofInt ((I 1670)))), (2, .int (Int32.ofInt (c)))]) (rest := []) (o := none) rfl (trivial) (c_set ((I 1670)) (c) 30 3016 rfl (by decide) hR14a ⟨by omega, by omega⟩ ⟨by omega, by omega⟩) (fun r16 M17 q18 => ?_)
    rcases q18 with ⟨e19, hR18a⟩
    rw [e19]
    replace hR18a : w_Rep w_TC fr X u l I (w_upF (w_upF (w_upF (w_upF A 27 (w_upG 3016 (A 27) ((I 1670)) (k))) 28 (w_upG 3016 (A 28) ((I 1670)) (a))) 29 (w_upG 3016 (A 29) ((I 1670)) (b))) 30 (w_upG 3016 (A 30) ((I 1670)) (c))) B C M17 := hR18a
    show w_W _ _ _ (59, [(5, .int (Int32.ofInt ((I 1670)))), (0, .ref 26), (1, .int (Int32.ofInt (k))), (2, .int (Int32.ofInt (a))), (3, .int (Int32.ofInt (b))), (4, .int (Int32.ofInt (c)))], [], M17) _
    refine w_adv (n := 1) (F' := (60, [(5, .int (Int32.ofInt ((I 1670)))), (0, .ref 26), (1, .int (Int32.ofInt (k))), (2, .int (Int32.ofInt (a))), (3, .int (Int32.ofInt (b))), (4, .int (Int32.ofInt (c)))], [.ref 26], M17)) rfl ?_
    refine w_gf (v := .ref 31) hR18a rfl rfl rfl rfl ?_
    refine w_adv (n := 2) (F' := (66, [(5, .int (Int32.ofInt ((I 1670)))), (0, .ref 26), (1, .int (Int32.ofInt (k))), (2, .int (Int32.ofInt (a))), (3, .int (Int32.ofInt (b))), (4, .int (Int32.ofInt (c)))], [.int (Int32.ofInt ((-1))), .int (Int32.ofInt ((I 1670))), .ref 31], M17)) rfl ?_
    refine w_call (cm := 25) (as := [(0, .ref 31), (1, .int (Int32.ofInt ((I 1670)))), (2, .int (Int32.ofInt ((-1))))]) (rest := []) (o := none) rfl (trivial) (c_set ((I 1670)) ((-1)) 31 3016 rfl (by decide) hR18a ⟨by omega, by omega⟩ ⟨by omega, by omega⟩) (fun r20 M21 q22 => ?_)
    rcases q22 with ⟨e23, hR22a⟩
    rw [e23]
    replace hR22a : w_Rep w_TC fr X u l I (w_upF (w_upF (w_upF (w_upF (w_upF A 27 (w_upG 3016 (A 27) ((I 1670)) (k))) 28 (w_upG 3016 (A 28) ((I 1670)) (a))) 29 (w_upG 3016 (A 29) ((I 1670)) (b))) 30 (w_upG 3016 (A 30) ((I 1670)) (c))) 31 (w_upG 3016 (A 31) ((I 1670)) ((-1)))) B C M21 := hR22a
    show w_W _ _ _ (69, [(5, .int (Int32.ofInt ((I 1670)))), (0, .ref 26), (1, .int (Int32.ofInt (k))), (2, .int (Int32.ofInt (a))), (3, .int (Int32.ofInt (b))), (4, .int (Int32.ofInt (c)))], [], M21) _
    refine w_adv (n := 1) (F' := (70, [(5, .int (Int32.ofInt ((I 1670)))), (0, .ref 26), (1, .int (Int32.ofInt (k))), (2, .int (Int32.ofInt (a))), (3, .int (Int32.ofInt (b))), (4, .int (Int32.ofInt (c)))], [.ref 26], M21)) rfl ?_
    refine w_gf (v := .ref 32) hR22a rfl rfl rfl rfl ?_
    refine w_adv (n := 2) (F' := (76, [(5, .int (Int32.ofInt ((I 1670)))), (0, .ref 26), (1, .int (Int32.ofInt (k))), (2, .int (Int32.ofInt (a))), (3, .int (Int32.ofInt (b))), (4, .int (Int32.ofInt (c)))], [.int (Int32.ofInt ((-1))), .int (Int32.ofInt ((I 1670))), .ref 32], M21)) rfl ?_
    refine w_call (cm := 25) (as := [(0, .ref 32), (1, .int (Int32.ofInt ((I 1670)))), (2, .int (Int32.ofInt ((-1))))]) (rest := []) (o := none) rfl (trivial) (c_set ((I 1670)) ((-1)) 32 3016 rfl (by decide) hR22a ⟨by omega, by omega⟩ ⟨by omega, by omega⟩) (fun r24 M25 q26 => ?_)
    rcases q26 with ⟨e27, hR26a⟩
    rw [e27]
    replace hR26a : w_Rep w_TC fr X u l I (w_upF (w_upF (w_upF (w_upF (w_upF (w_upF A 27 (w_upG 3016 (A 27) ((I 1670)) (k))) 28 (w_upG 3016 (A 28) ((I 1670)) (a))) 29 (w_upG 3016 (A 29) ((I 1670)) (b))) 30 (w_upG 3016 (A 30) ((I 1670)) (c))) 31 (w_upG 3016 (A 31) ((I 1670)) ((-1)))) 32 (w_upG 3016 (A 32) ((I 1670)) ((-1)))) B C M25 := hR26a
    show w_W _ _ _ (79, [(5, .int (Int32.ofInt ((I 1670)))), (0, .ref 26), (1, .int (Int32.ofInt (k))), (2, .int (Int32.ofInt (a))), (3, .int (Int32.ofInt (b))), (4, .int (Int32.ofInt (c)))], [], M25) _
    refine w_adv (n := 2) (F' := (81, [(5, .int (Int32.ofInt ((I 1670)))), (0, .ref 26), (1, .int (Int32.ofInt (k))), (2, .int (Int32.ofInt (a))), (3, .int (Int32.ofInt (b))), (4, .int (Int32.ofInt (c)))], [.ref 26, .ref 26], M25)) rfl ?_
    refine w_gf (v := .int (Int32.ofInt ((I 1670)))) hR26a rfl rfl rfl rfl ?_
    refine w_adv (n := 1) (F' := (85, [(5, .int (Int32.ofInt ((I 1670)))), (0, .ref 26), (1, .int (Int32.ofInt (k))), (2, .int (Int32.ofInt (a))), (3, .int (Int32.ofInt (b))), (4, .int (Int32.ofInt (c)))], [.int (Int32.ofInt (1)), .int (Int32.ofInt ((I 1670))), .ref 26], M25)) rfl ?_
    refine w_add rfl ?_
    refine w_pf hR26a rfl rfl rfl rfl (show w_in ((I 1670) + 1) from ⟨by omega, by omega⟩) (fun h => absurd h (by decide)) (fun M28 hR29 => ?_)
    replace hR29 : w_Rep w_TC fr X u l (w_up I 1670 ((I 1670) + 1)) (w_upF (w_upF (w_upF (w_upF (w_upF (w_upF A 27 (w_upG 3016 (A 27) ((I 1670)) (k))) 28 (w_upG 3016 (A 28) ((I 1670)) (a))) 29 (w_upG 3016 (A 29) ((I 1670)) (b))) 30 (w_upG 3016 (A 30) ((I 1670)) (c))) 31 (w_upG 3016 (A 31) ((I 1670)) ((-1)))) 32 (w_upG 3016 (A 32) ((I 1670)) ((-1)))) B C M28 := hR29
    refine w_adv (n := 1) (F' := (91, [(5, .int (Int32.ofInt ((I 1670)))), (0, .ref 26), (1, .int (Int32.ofInt (k))), (2, .int (Int32.ofInt (a))), (3, .int (Int32.ofInt (b))), (4, .int (Int32.ofInt (c)))], [.int (Int32.ofInt ((I 1670)))], M28)) rfl ?_
    refine w_fin (r := .inl (some ((I 1670)))) (M' := M28) rfl ?_
    exact Or.inr (⟨rfl, hR29, (show (I 1670) < 3016 by first | assumption | omega)⟩)
  · have h3 : ¬ ((I 1670) < 3016) := h3
    show w_W _ _ _ (10, [(0, .ref 26), (1, .int (Int32.ofInt (k))), (2, .int (Int32.ofInt (a))), (3, .int (Int32.ofInt (b))), (4, .int (Int32.ofInt (c)))], [], M) _
    refine w_adv (n := 1) (F' := (11, [(0, .ref 26), (1, .int (Int32.ofInt (k))), (2, .int (Int32.ofInt (a))), (3, .int (Int32.ofInt (b))), (4, .int (Int32.ofInt (c)))], [.int (Int32.ofInt ((-1)))], M)) rfl ?_
    refine w_fin (r := .inl (some ((-1)))) (M' := M) rfl ?_
    first
      | exact Or.inl ⟨rfl, rfl, (show 3016 ≤ (I 1670) by first | assumption | omega)⟩
      | exact Or.inr (⟨rfl, (w_Rep.up hR (show (w_up I 1670 ((I 1670) + 1)) = I from (funext fun s => if e0 : s = 1670 then (by subst e0; rfl) else (by simp only [w_up_ne e0]))) (show (w_upF (w_upF (w_upF (w_upF (w_upF (w_upF A 27 (w_upG 3016 (A 27) ((I 1670)) (k))) 28 (w_upG 3016 (A 28) ((I 1670)) (a))) 29 (w_upG 3016 (A 29) ((I 1670)) (b))) 30 (w_upG 3016 (A 30) ((I 1670)) (c))) 31 (w_upG 3016 (A 31) ((I 1670)) ((-1)))) 32 (w_upG 3016 (A 32) ((I 1670)) ((-1)))) = A from (funext fun s => if e0 : s = 27 then (by subst e0; rfl) else if e1 : s = 28 then (by subst e1; rfl) else if e2 : s = 29 then (by subst e2; rfl) else if e3 : s = 30 then (by subst e3; rfl) else if e4 : s = 31 then (by subst e4; rfl) else if e5 : s = 32 then (by subst e5; rfl) else (by simp only [w_upF_ne e0, w_upF_ne e1, w_upF_ne e2, w_upF_ne e3, w_upF_ne e4, w_upF_ne e5])))), (show (I 1670) < 3016 by first | assumption | omega)⟩)
