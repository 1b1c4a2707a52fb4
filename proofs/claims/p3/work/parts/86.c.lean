/-! BUILDER of the class: short methods. -/
def c_bapp_Q (fr : Nat → Bool) (X : Nat → Option (q_C (Nat → Int32))) (u l : Nat) (I : Nat → Int) (A : Nat → Int → Int) (B C : Nat → Nat) (M : w_M) (s : Int) : w_X → w_M → Prop := fun r M' => (∃ (I' : Nat → Int) (A' : Nat → Int → Int) (B' C' : Nat → Nat), (r = .inl none) ∧ (w_Rep w_TC fr X u l I' A' B' C' M') ∧ (c_bz I A I' A' 0 0 (I 2503)) ∧ ((I' 2503) = (I 2503) ∧ (0 ≤ (I' 1035) ∧ (I' 1035) ≤ 10000) ∧ (I' 200) = (I 200) ∧ (I' 202) = (I 202)))
set_option maxHeartbeats 100000000 in
set_option maxRecDepth 100000 in
theorem c_bapp {L : Nat} {xs : Nat → Int32} {d : Nat} {fr : Nat → Bool} {X : Nat → Option (q_C (Nat → Int32))} {u l : Nat} {I : Nat → Int} {A : Nat → Int → Int} {B C : Nat → Nat} {M : w_M} (s : Int) (hR : w_Rep w_TC fr X u l I A B C M) (hd : 3 ≤ d) (r_s : w_in s) (hKI : 0 ≤ (I 1035) ∧ (I 1035) ≤ 10000) (hW0 : 0 ≤ (I 2503)) : w_W (z_P L xs) d 150 (0, [(0, .ref 39), (1, .int (Int32.ofInt (s)))], [], M) (c_bapp_Q fr X u l I A B C M s) := by
  obtain ⟨ra_s, rb_s⟩ := r_s
  obtain ⟨d, rfl⟩ : ∃ d0, d = d0 + 1 := ⟨d - 1, by omega⟩
  refine w_adv (n := 1) (F' := (1, [(0, .ref 39), (1, .int (Int32.ofInt (s)))], [.ref 39], M)) rfl ?_
  refine w_gf (v := .int (Int32.ofInt ((I 2505)))) hR rfl rfl rfl rfl ?_
  obtain ⟨r1, r2⟩ : -2147483648 ≤ (I 2505) ∧ (I 2505) ≤ 2147483647 := hR.ri 2505
  refine w_adv (n := 1) (F' := (5, [(0, .ref 39), (1, .int (Int32.ofInt (s)))], [.int (Int32.ofInt ((-1))), .int (Int32.ofInt ((I 2505)))], M)) rfl ?_
  refine w_br2 (a := (I 2505)) (b := (-1)) rfl rfl ⟨by omega, by omega⟩ ⟨by omega, by omega⟩ (fun h3 => ?_) (fun h3 => ?_)
  · have h3 : ¬ (I 2505) = (-1) := h3
    show w_W _ _ _ (16, [(0, .ref 39), (1, .int (Int32.ofInt (s)))], [], M) _
    refine w_adv (n := 1) (F' := (17, [(0, .ref 39), (1, .int (Int32.ofInt (s)))], [.ref 39], M)) rfl ?_
    refine w_gf (v := .ref 16) hR rfl rfl rfl rfl ?_
    refine w_adv (n := 1) (F' := (21, [(0, .ref 39), (1, .int (Int32.ofInt (s)))], [.ref 39, .ref 16], M)) rfl ?_
    refine w_gf (v := .int (Int32.ofInt ((I 2505)))) hR rfl rfl rfl rfl ?_
    refine w_adv (n := 1) (F' := (25, [(0, .ref 39), (1, .int (Int32.ofInt (s)))], [.int (Int32.ofInt (s)), .int (Int32.ofInt ((I 2505))), .ref 16], M)) rfl ?_
    refine w_call (cm := 151) (as := [(0, .ref 16), (1, .int (Int32.ofInt ((I 2505)))), (2, .int (Int32.ofInt (s)))]) (rest := []) (o := some (2, 16)) rfl (w_fitR hR rfl) (c_klk ((I 2505)) (s) hR (show 2 ≤ d by omega) ⟨by omega, by omega⟩ ⟨by omega, by omega⟩ (show 0 ≤ (I 1035) ∧ (I 1035) ≤ 10000 by (repeat' apply And.intro) <;> first | assumption | omega) (show 0 ≤ (I 2503) by omega)) (fun r4 M5 q6 => ?_)
    rcases q6 with ⟨I6a, A6a, B6a, C6a, e7, hR6a, f8, f9, f10⟩
    rw [e7]
    replace hR6a : w_Rep w_TC fr X u l I6a A6a B6a C6a M5 := hR6a
    replace f8 : c_bz I A I6a A6a 0 0 (I 2503) := f8
    replace f9 : (I6a 2503) = (I 2503) ∧ (0 ≤ (I6a 1035) ∧ (I6a 1035) ≤ 10000) ∧ (I6a 200) = (I 200) ∧ (I6a 202) = (I 202) := f9
    obtain ⟨n11, ⟨n12, n13⟩, n14, n15⟩ := id f9
    clear f9
    replace f10 : (I6a 2502) = (I 2502) := f10
    have bx16 : c_bz I A I6a A6a 0 0 (I 2503) := c_bz_trans (show c_bz I A I A 0 0 (I 2503) from c_bz_refl) f8 (Int.le_refl _) (Int.le_refl _) (show 0 ≤ 0 ∨ 0 ≤ 0 by omega) (show 0 ≤ 0 ∨ 0 ≤ 0 by omega) (Int.le_refl _) (show (I 2503) ≤ (I 2503) by omega)
    show w_W _ _ _ (28, [(0, .ref 39), (1, .int (Int32.ofInt (s)))], [], M5) _
    refine w_adv (n := 2) (F' := (30, [(0, .ref 39), (1, .int (Int32.ofInt (s)))], [.int (Int32.ofInt (s)), .ref 39], M5)) rfl ?_
    refine w_pf hR6a rfl rfl rfl rfl (show w_in (s) from ⟨by omega, by omega⟩) (fun h => absurd h (by decide)) (fun M17 hR18 => ?_)
    replace hR18 : w_Rep w_TC fr X u l (w_up I6a 2505 (s)) A6a B6a C6a M17 := hR18
    refine w_fin (r := .inl none) (M' := M17) rfl ?_
    exact ⟨(w_up I6a 2505 (s)), A6a, B6a, C6a, rfl, hR18, (show c_bz I A (w_up I6a 2505 (s)) A6a 0 0 (I 2503) by exact (c_bz_up bx16 rfl)), (show (I6a 2503) = (I 2503) ∧ (0 ≤ (I6a 1035) ∧ (I6a 1035) ≤ 10000) ∧ (I6a 200) = (I 200) ∧ (I6a 202) = (I 202) by (repeat' apply And.intro) <;> first | assumption | omega)⟩
  · have h3 : ¬ (¬ (I 2505) = (-1)) := h3
    show w_W _ _ _ (8, [(0, .ref 39), (1, .int (Int32.ofInt (s)))], [], M) _
    refine w_adv (n := 2) (F' := (10, [(0, .ref 39), (1, .int (Int32.ofInt (s)))], [.int (Int32.ofInt (s)), .ref 39], M)) rfl ?_
    refine w_pf hR rfl rfl rfl rfl (show w_in (s) from ⟨by omega, by omega⟩) (fun h => absurd h (by decide)) (fun M19 hR20 => ?_)
    replace hR20 : w_Rep w_TC fr X u l (w_up I 2504 (s)) A B C M19 := hR20
    refine w_adv (n := 3) (F' := (30, [(0, .ref 39), (1, .int (Int32.ofInt (s)))], [.int (Int32.ofInt (s)), .ref 39], M19)) rfl ?_
    refine w_pf hR20 rfl rfl rfl rfl (show w_in (s) from ⟨by omega, by omega⟩) (fun h => absurd h (by decide)) (fun M21 hR22 => ?_)
    replace hR22 : w_Rep w_TC fr X u l (w_up (w_up I 2504 (s)) 2505 (s)) A B C M21 := hR22
    refine w_fin (r := .inl none) (M' := M21) rfl ?_
    exact ⟨(w_up (w_up I 2504 (s)) 2505 (s)), A, B, C, rfl, hR22, (show c_bz I A (w_up (w_up I 2504 (s)) 2505 (s)) A 0 0 (I 2503) by exact (c_bz_up (c_bz_up c_bz_refl rfl) rfl)), (show (I 2503) = (I 2503) ∧ (0 ≤ (I 1035) ∧ (I 1035) ≤ 10000) ∧ (I 200) = (I 200) ∧ (I 202) = (I 202) by (repeat' apply And.intro) <;> first | assumption | omega)⟩
def c_emit_Q (fr : Nat → Bool) (X : Nat → Option (q_C (Nat → Int32))) (u l : Nat) (I : Nat → Int) (A : Nat → Int → Int) (B C : Nat → Nat) (M : w_M) (k : Int) (x : Int) (a : Int) (b : Int) : w_X → w_M → Prop := fun r M' => (∃ (I' : Nat → Int) (A' : Nat → Int → Int) (B' C' : Nat → Nat), (r = .inl none) ∧ (w_Rep w_TC fr X u l I' A' B' C' M') ∧ (c_bz I A I' A' 0 0 (I 2503)) ∧ ((I' 2503) = (I 2503) ∧ (0 ≤ (I' 1035) ∧ (I' 1035) ≤ 10000) ∧ (I' 200) = (I 200) ∧ (I' 202) = (I 202)))
set_option maxHeartbeats 100000000 in
set_option maxRecDepth 100000 in
theorem c_emit {L : Nat} {xs : Nat → Int32} {d : Nat} {fr : Nat → Bool} {X : Nat → Option (q_C (Nat → Int32))} {u l : Nat} {I : Nat → Int} {A : Nat → Int → Int} {B C : Nat → Nat} {M : w_M} (k : Int) (x : Int) (a : Int) (b : Int) (hR : w_Rep w_TC fr X u l I A B C M) (hd : 4 ≤ d) (r_k : w_in k) (r_x : w_in x) (r_a : w_in a) (r_b : w_in b) (hKI : 0 ≤ (I 1035) ∧ (I 1035) ≤ 10000) (hW0 : 0 ≤ (I 2503)) : w_W (z_P L xs) d 148 (0, [(0, .ref 39), (1, .int (Int32.ofInt (k))), (2, .int (Int32.ofInt (x))), (3, .int (Int32.ofInt (a))), (4, .int (Int32.ofInt (b)))], [], M) (c_emit_Q fr X u l I A B C M k x a b) := by
  obtain ⟨ra_k, rb_k⟩ := r_k
  obtain ⟨ra_x, rb_x⟩ := r_x
  obtain ⟨ra_a, rb_a⟩ := r_a
  obtain ⟨ra_b, rb_b⟩ := r_b
  obtain ⟨d, rfl⟩ : ∃ d0, d = d0 + 1 := ⟨d - 1, by omega⟩
  refine w_adv (n := 2) (F' := (2, [(0, .ref 39), (1, .int (Int32.ofInt (k))), (2, .int (Int32.ofInt (x))), (3, .int (Int32.ofInt (a))), (4, .int (Int32.ofInt (b)))], [.ref 39, .ref 39], M)) rfl ?_
  refine w_gf (v := .ref 16) hR rfl rfl rfl rfl ?_
  refine w_adv (n := 4) (F' := (10, [(0, .ref 39), (1, .int (Int32.ofInt (k))), (2, .int (Int32.ofInt (x))), (3, .int (Int32.ofInt (a))), (4, .int (Int32.ofInt (b)))], [.int (Int32.ofInt (b)), .int (Int32.ofInt (a)), .int (Int32.ofInt (x)), .int (Int32.ofInt (k)), .ref 16, .ref 39], M)) rfl ?_
  refine w_call (cm := 149) (as := [(0, .ref 16), (1, .int (Int32.ofInt (k))), (2, .int (Int32.ofInt (x))), (3, .int (Int32.ofInt (a))), (4, .int (Int32.ofInt (b)))]) (rest := [.ref 39]) (o := some (2, 16)) rfl (w_fitR hR rfl) (c_kmk (k) (x) (a) (b) hR (show 2 ≤ d by omega) ⟨by omega, by omega⟩ ⟨by omega, by omega⟩ ⟨by omega, by omega⟩ ⟨by omega, by omega⟩ (show 0 ≤ (I 1035) ∧ (I 1035) ≤ 10000 by (repeat' apply And.intro) <;> first | assumption | omega) (show 0 ≤ (I 2503) by omega)) (fun r1 M2 q3 => ?_)
  rcases q3 with ⟨v4, I3a, A3a, B3a, C3a, e5, ⟨r6, r7⟩, hR3a, f8, f9, f10⟩
  rw [e5]
  replace hR3a : w_Rep w_TC fr X u l I3a A3a B3a C3a M2 := hR3a
  replace f8 : c_bz I A I3a A3a 0 0 (I 2503) := f8
  replace f9 : (I3a 2503) = (I 2503) ∧ (0 ≤ (I3a 1035) ∧ (I3a 1035) ≤ 10000) ∧ (I3a 200) = (I 200) ∧ (I3a 202) = (I 202) := f9
  obtain ⟨n11, ⟨n12, n13⟩, n14, n15⟩ := id f9
  clear f9
  replace f10 : (I3a 2502) = (I 2502) := f10
  have bx16 : c_bz I A I3a A3a 0 0 (I 2503) := c_bz_trans (show c_bz I A I A 0 0 (I 2503) from c_bz_refl) f8 (Int.le_refl _) (Int.le_refl _) (show 0 ≤ 0 ∨ 0 ≤ 0 by omega) (show 0 ≤ 0 ∨ 0 ≤ 0 by omega) (Int.le_refl _) (show (I 2503) ≤ (I 2503) by omega)
  show w_W _ _ _ (13, [(0, .ref 39), (1, .int (Int32.ofInt (k))), (2, .int (Int32.ofInt (x))), (3, .int (Int32.ofInt (a))), (4, .int (Int32.ofInt (b)))], [.int (Int32.ofInt (v4)), .ref 39], M2) _
  refine w_call (cm := 150) (as := [(0, .ref 39), (1, .int (Int32.ofInt (v4)))]) (rest := []) (o := some (1, 39)) rfl (w_fitR hR3a rfl) (c_bapp (v4) hR3a (show 3 ≤ d by omega) ⟨by omega, by omega⟩ (show 0 ≤ (I3a 1035) ∧ (I3a 1035) ≤ 10000 by (repeat' apply And.intro) <;> first | assumption | omega) (show 0 ≤ (I3a 2503) by omega)) (fun r17 M18 q19 => ?_)
  rcases q19 with ⟨I19a, A19a, B19a, C19a, e20, hR19a, f21, f22⟩
  rw [e20]
  replace hR19a : w_Rep w_TC fr X u l I19a A19a B19a C19a M18 := hR19a
  replace f21 : c_bz I3a A3a I19a A19a 0 0 (I3a 2503) := f21
  replace f22 : (I19a 2503) = (I3a 2503) ∧ (0 ≤ (I19a 1035) ∧ (I19a 1035) ≤ 10000) ∧ (I19a 200) = (I3a 200) ∧ (I19a 202) = (I3a 202) := f22
  obtain ⟨n23, ⟨n24, n25⟩, n26, n27⟩ := id f22
  clear f22
  have bx28 : c_bz I A I19a A19a 0 0 (I 2503) := c_bz_trans (show c_bz I A I3a A3a 0 0 (I 2503) from bx16) f21 (Int.le_refl _) (Int.le_refl _) (show 0 ≤ 0 ∨ 0 ≤ 0 by omega) (show 0 ≤ 0 ∨ 0 ≤ 0 by omega) (Int.le_refl _) (show (I 2503) ≤ (I3a 2503) by omega)
  show w_W _ _ _ (16, [(0, .ref 39), (1, .int (Int32.ofInt (k))), (2, .int (Int32.ofInt (x))), (3, .int (Int32.ofInt (a))), (4, .int (Int32.ofInt (b)))], [], M18) _
  refine w_fin (r := .inl none) (M' := M18) rfl ?_
  exact ⟨I19a, A19a, B19a, C19a, rfl, hR19a, (show c_bz I A I19a A19a 0 0 (I 2503) by exact bx28), (show (I19a 2503) = (I 2503) ∧ (0 ≤ (I19a 1035) ∧ (I19a 1035) ≤ 10000) ∧ (I19a 200) = (I 200) ∧ (I19a 202) = (I 202) by (repeat' apply And.intro) <;> first | assumption | omega)⟩
def c_is8 (A : Nat → Int → Int) (n : Int) : Prop := 0 ≤ n ∧ n < 3016 → (A 27 n = 8 ∨ A 27 n = 9)
def c_no8 (A : Nat → Int → Int) (n : Int) : Prop := 0 ≤ n ∧ n < 3016 → (¬ A 27 n = 8 ∧ ¬ A 27 n = 9)
def c_isVariable_Q (fr : Nat → Bool) (X : Nat → Option (q_C (Nat → Int32))) (u l : Nat) (I : Nat → Int) (A : Nat → Int → Int) (B C : Nat → Nat) (M : w_M) (n : Int) : w_X → w_M → Prop := fun r M' => ((r = .inl (some 1)) ∧ (M' = M)) ∨ ((r = .inl (some 0)) ∧ (M' = M))
set_option maxHeartbeats 100000000 in
set_option maxRecDepth 100000 in
theorem c_isVariable {L : Nat} {xs : Nat → Int32} {d : Nat} {fr : Nat → Bool} {X : Nat → Option (q_C (Nat → Int32))} {u l : Nat} {I : Nat → Int} {A : Nat → Int → Int} {B C : Nat → Nat} {M : w_M} (n : Int) (hR : w_Rep w_TC fr X u l I A B C M) (hd : 2 ≤ d) (r_n : w_in n) : w_W (z_P L xs) d 154 (0, [(0, .ref 39), (1, .int (Int32.ofInt (n)))], [], M) (c_isVariable_Q fr X u l I A B C M n) := by
  obtain ⟨ra_n, rb_n⟩ := r_n
  obtain ⟨d, rfl⟩ : ∃ d0, d = d0 + 1 := ⟨d - 1, by omega⟩
  refine w_adv (n := 1) (F' := (1, [(0, .ref 39), (1, .int (Int32.ofInt (n)))], [.ref 39], M)) rfl ?_
  refine w_gf (v := .ref 26) hR rfl rfl rfl rfl ?_
  refine w_adv (n := 1) (F' := (5, [(0, .ref 39), (1, .int (Int32.ofInt (n)))], [.int (Int32.ofInt (n)), .ref 26], M)) rfl ?_
  refine w_call (cm := 135) (as := [(0, .ref 26), (1, .int (Int32.ofInt (n)))]) (rest := []) (o := some (8, 26)) rfl (w_fitR hR rfl) (c_Tkind (n) hR (show 1 ≤ d by omega) ⟨by omega, by omega⟩) (fun r1 M2 q3 => ?_)
  rcases q3 with ⟨v4, e5, ⟨r6, r7⟩, e8, f9⟩
  rw [e5, e8]
  replace f9 : c_rd (A 27) n v4 := f9
  show w_W _ _ _ (8, [(0, .ref 39), (1, .int (Int32.ofInt (n)))], [.int (Int32.ofInt (v4))], M) _
  refine w_adv (n := 1) (F' := (9, [(0, .ref 39), (1, .int (Int32.ofInt (n)))], [.int (Int32.ofInt (1)), .int (Int32.ofInt (v4))], M)) rfl ?_
  refine w_br2 (a := v4) (b := 1) rfl rfl ⟨by omega, by omega⟩ ⟨by omega, by omega⟩ (fun h10 => ?_) (fun h10 => ?_)
  · have h10 : ¬ v4 = 1 := h10
    show w_W _ _ _ (16, [(0, .ref 39), (1, .int (Int32.ofInt (n)))], [], M) _
    refine w_adv (n := 1) (F' := (17, [(0, .ref 39), (1, .int (Int32.ofInt (n)))], [.int (Int32.ofInt (0))], M)) rfl ?_
    refine w_fin (r := .inl (some (0))) (M' := M) rfl ?_
    exact Or.inr (⟨rfl, rfl⟩)
  · have h10 : ¬ (¬ v4 = 1) := h10
    show w_W _ _ _ (12, [(0, .ref 39), (1, .int (Int32.ofInt (n)))], [], M) _
    refine w_adv (n := 2) (F' := (17, [(0, .ref 39), (1, .int (Int32.ofInt (n)))], [.int (Int32.ofInt (1))], M)) rfl ?_
    refine w_fin (r := .inl (some (1))) (M' := M) rfl ?_
    exact Or.inl ⟨rfl, rfl⟩
def c_isOperation_Q (fr : Nat → Bool) (X : Nat → Option (q_C (Nat → Int32))) (u l : Nat) (I : Nat → Int) (A : Nat → Int → Int) (B C : Nat → Nat) (M : w_M) (n : Int) : w_X → w_M → Prop := fun r M' => ((r = .inl (some 1)) ∧ (M' = M) ∧ (c_is8 A n)) ∨ ((r = .inl (some 0)) ∧ (M' = M) ∧ (c_no8 A n))
set_option maxHeartbeats 100000000 in
set_option maxRecDepth 100000 in
theorem c_isOperation {L : Nat} {xs : Nat → Int32} {d : Nat} {fr : Nat → Bool} {X : Nat → Option (q_C (Nat → Int32))} {u l : Nat} {I : Nat → Int} {A : Nat → Int → Int} {B C : Nat → Nat} {M : w_M} (n : Int) (hR : w_Rep w_TC fr X u l I A B C M) (hd : 2 ≤ d) (r_n : w_in n) : w_W (z_P L xs) d 175 (0, [(0, .ref 39), (1, .int (Int32.ofInt (n)))], [], M) (c_isOperation_Q fr X u l I A B C M n) := by
  obtain ⟨ra_n, rb_n⟩ := r_n
  obtain ⟨d, rfl⟩ : ∃ d0, d = d0 + 1 := ⟨d - 1, by omega⟩
  refine w_adv (n := 1) (F' := (1, [(0, .ref 39), (1, .int (Int32.ofInt (n)))], [.ref 39], M)) rfl ?_
  refine w_gf (v := .ref 26) hR rfl rfl rfl rfl ?_
  refine w_adv (n := 1) (F' := (5, [(0, .ref 39), (1, .int (Int32.ofInt (n)))], [.int (Int32.ofInt (n)), .ref 26], M)) rfl ?_
  refine w_call (cm := 135) (as := [(0, .ref 26), (1, .int (Int32.ofInt (n)))]) (rest := []) (o := some (8, 26)) rfl (w_fitR hR rfl) (c_Tkind (n) hR (show 1 ≤ d by omega) ⟨by omega, by omega⟩) (fun r1 M2 q3 => ?_)
  rcases q3 with ⟨v4, e5, ⟨r6, r7⟩, e8, f9⟩
  rw [e5, e8]
  replace f9 : c_rd (A 27) n v4 := f9
  skip
  show w_W _ _ _ (8, [(0, .ref 39), (1, .int (Int32.ofInt (n)))], [.int (Int32.ofInt (v4))], M) _
  refine w_adv (n := 1) (F' := (10, [(0, .ref 39), (1, .int (Int32.ofInt (n)))], [.int (Int32.ofInt (8)), .int (Int32.ofInt (v4))], M)) rfl ?_
  refine w_br2 (a := v4) (b := 8) rfl rfl ⟨by omega, by omega⟩ ⟨by omega, by omega⟩ (fun h10 => ?_) (fun h10 => ?_)
  · have h10 : v4 = 8 := h10
    show w_W _ _ _ (26, [(0, .ref 39), (1, .int (Int32.ofInt (n)))], [], M) _
    refine w_adv (n := 2) (F' := (31, [(0, .ref 39), (1, .int (Int32.ofInt (n)))], [.int (Int32.ofInt (1))], M)) rfl ?_
    refine w_fin (r := .inl (some (1))) (M' := M) rfl ?_
    exact Or.inl ⟨rfl, rfl, (show c_is8 A n by unfold c_is8; intro h; have := c_rd_eq f9 h.1 h.2; omega)⟩
  · have h10 : ¬ (v4 = 8) := h10
    show w_W _ _ _ (13, [(0, .ref 39), (1, .int (Int32.ofInt (n)))], [], M) _
    refine w_adv (n := 1) (F' := (14, [(0, .ref 39), (1, .int (Int32.ofInt (n)))], [.ref 39], M)) rfl ?_
    refine w_gf (v := .ref 26) hR rfl rfl rfl rfl ?_
    refine w_adv (n := 1) (F' := (18, [(0, .ref 39), (1, .int (Int32.ofInt (n)))], [.int (Int32.ofInt (n)), .ref 26], M)) rfl ?_
    refine w_call (cm := 135) (as := [(0, .ref 26), (1, .int (Int32.ofInt (n)))]) (rest := []) (o := some (8, 26)) rfl (w_fitR hR rfl) (c_Tkind (n) hR (show 1 ≤ d by omega) ⟨by omega, by omega⟩) (fun r11 M12 q13 => ?_)
    rcases q13 with ⟨v14, e15, ⟨r16, r17⟩, e18, f19⟩
    rw [e15, e18]
    replace f19 : c_rd (A 27) n v14 := f19
    skip
    show w_W _ _ _ (21, [(0, .ref 39), (1, .int (Int32.ofInt (n)))], [.int (Int32.ofInt (v14))], M) _
    refine w_adv (n := 1) (F' := (23, [(0, .ref 39), (1, .int (Int32.ofInt (n)))], [.int (Int32.ofInt (9)), .int (Int32.ofInt (v14))], M)) rfl ?_
    refine w_br2 (a := v14) (b := 9) rfl rfl ⟨by omega, by omega⟩ ⟨by omega, by omega⟩ (fun h20 => ?_) (fun h20 => ?_)
    · have h20 : ¬ v14 = 9 := h20
      show w_W _ _ _ (30, [(0, .ref 39), (1, .int (Int32.ofInt (n)))], [], M) _
      refine w_adv (n := 1) (F' := (31, [(0, .ref 39), (1, .int (Int32.ofInt (n)))], [.int (Int32.ofInt (0))], M)) rfl ?_
      refine w_fin (r := .inl (some (0))) (M' := M) rfl ?_
      exact Or.inr (⟨rfl, rfl, (show c_no8 A n by unfold c_no8; intro h; have := c_rd_eq f19 h.1 h.2; have := c_rd_eq f9 h.1 h.2; omega)⟩)
    · have h20 : ¬ (¬ v14 = 9) := h20
      show w_W _ _ _ (26, [(0, .ref 39), (1, .int (Int32.ofInt (n)))], [], M) _
      refine w_adv (n := 2) (F' := (31, [(0, .ref 39), (1, .int (Int32.ofInt (n)))], [.int (Int32.ofInt (1))], M)) rfl ?_
      refine w_fin (r := .inl (some (1))) (M' := M) rfl ?_
      exact Or.inl ⟨rfl, rfl, (show c_is8 A n by unfold c_is8; intro h; have := c_rd_eq f19 h.1 h.2; omega)⟩
def c_makeFresh_Q (fr : Nat → Bool) (X : Nat → Option (q_C (Nat → Int32))) (u l : Nat) (I : Nat → Int) (A : Nat → Int → Int) (B C : Nat → Nat) (M : w_M) : w_X → w_M → Prop := fun r M' => (∃ v : Int, ∃ (I' : Nat → Int) (A' : Nat → Int → Int) (B' C' : Nat → Nat), (r = .inl (some v)) ∧ (w_in v) ∧ (w_Rep w_TC fr X u l I' A' B' C' M') ∧ (c_bz I A I' A' 0 0 (I 2503)) ∧ ((I' 2503) = (I 2503) ∧ (0 ≤ (I' 1035) ∧ (I' 1035) ≤ 10000) ∧ (I' 200) = (I 200) ∧ (I' 202) = (I 202)))
set_option maxHeartbeats 100000000 in
set_option maxRecDepth 100000 in
theorem c_makeFresh {L : Nat} {xs : Nat → Int32} {d : Nat} {fr : Nat → Bool} {X : Nat → Option (q_C (Nat → Int32))} {u l : Nat} {I : Nat → Int} {A : Nat → Int → Int} {B C : Nat → Nat} {M : w_M} (hR : w_Rep w_TC fr X u l I A B C M) (hd : 3 ≤ d) (hKI : 0 ≤ (I 1035) ∧ (I 1035) ≤ 10000) (hW0 : 0 ≤ (I 2503)) : w_W (z_P L xs) d 159 (0, [(0, .ref 39)], [], M) (c_makeFresh_Q fr X u l I A B C M) := by
  obtain ⟨d, rfl⟩ : ∃ d0, d = d0 + 1 := ⟨d - 1, by omega⟩
  refine w_adv (n := 1) (F' := (1, [(0, .ref 39)], [.ref 39], M)) rfl ?_
  refine w_gf (v := .ref 16) hR rfl rfl rfl rfl ?_
  refine w_adv (n := 1) (F' := (5, [(0, .ref 39)], [.int (Int32.ofInt ((-1))), .ref 16], M)) rfl ?_
  refine w_call (cm := 31) (as := [(0, .ref 16), (1, .int (Int32.ofInt ((-1))))]) (rest := []) (o := some (2, 16)) rfl (w_fitR hR rfl) (c_kmv ((-1)) hR (show 2 ≤ d by omega) ⟨by omega, by omega⟩ (show 0 ≤ (I 1035) ∧ (I 1035) ≤ 10000 by (repeat' apply And.intro) <;> first | assumption | omega) (show 0 ≤ (I 2503) by omega)) (fun r1 M2 q3 => ?_)
  rcases q3 with ⟨v4, I3a, A3a, B3a, C3a, e5, ⟨r6, r7⟩, hR3a, f8, f9, f10⟩
  rw [e5]
  replace hR3a : w_Rep w_TC fr X u l I3a A3a B3a C3a M2 := hR3a
  replace f8 : c_bz I A I3a A3a 0 0 (I 2503) := f8
  replace f9 : (I3a 2503) = (I 2503) ∧ (0 ≤ (I3a 1035) ∧ (I3a 1035) ≤ 10000) ∧ (I3a 200) = (I 200) ∧ (I3a 202) = (I 202) := f9
  obtain ⟨n11, ⟨n12, n13⟩, n14, n15⟩ := id f9
  clear f9
  replace f10 : (I3a 2502) = (I 2502) := f10
  have bx16 : c_bz I A I3a A3a 0 0 (I 2503) := c_bz_trans (show c_bz I A I A 0 0 (I 2503) from c_bz_refl) f8 (Int.le_refl _) (Int.le_refl _) (show 0 ≤ 0 ∨ 0 ≤ 0 by omega) (show 0 ≤ 0 ∨ 0 ≤ 0 by omega) (Int.le_refl _) (show (I 2503) ≤ (I 2503) by omega)
  show w_W _ _ _ (8, [(0, .ref 39)], [.int (Int32.ofInt (v4))], M2) _
  refine w_adv (n := 2) (F' := (10, [(1, .int (Int32.ofInt (v4))), (0, .ref 39)], [.ref 39], M2)) rfl ?_
  refine w_gf (v := .ref 40) hR3a rfl rfl rfl rfl ?_
  refine w_adv (n := 1) (F' := (14, [(1, .int (Int32.ofInt (v4))), (0, .ref 39)], [.ref 39, .ref 40], M2)) rfl ?_
  refine w_gf (v := .int (Int32.ofInt ((I3a 2502)))) hR3a rfl rfl rfl rfl ?_
  obtain ⟨r17, r18⟩ : -2147483648 ≤ (I3a 2502) ∧ (I3a 2502) ≤ 2147483647 := hR3a.ri 2502
  refine w_adv (n := 1) (F' := (18, [(1, .int (Int32.ofInt (v4))), (0, .ref 39)], [.int (Int32.ofInt (v4)), .int (Int32.ofInt ((I3a 2502))), .ref 40], M2)) rfl ?_
  refine w_call (cm := 25) (as := [(0, .ref 40), (1, .int (Int32.ofInt ((I3a 2502)))), (2, .int (Int32.ofInt (v4)))]) (rest := []) (o := none) rfl (trivial) (c_set ((I3a 2502)) (v4) 40 3107 rfl (by decide) hR3a ⟨by omega, by omega⟩ ⟨by omega, by omega⟩) (fun r19 M20 q21 => ?_)
  rcases q21 with ⟨e22, hR21a⟩
  rw [e22]
  replace hR21a : w_Rep w_TC fr X u l I3a (w_upF A3a 40 (w_upG 3107 (A3a 40) ((I3a 2502)) (v4))) B3a C3a M20 := hR21a
  show w_W _ _ _ (21, [(1, .int (Int32.ofInt (v4))), (0, .ref 39)], [], M20) _
  refine w_adv (n := 2) (F' := (23, [(1, .int (Int32.ofInt (v4))), (0, .ref 39)], [.ref 39, .ref 39], M20)) rfl ?_
  refine w_gf (v := .int (Int32.ofInt ((I3a 2502)))) hR21a rfl rfl rfl rfl ?_
  refine w_adv (n := 1) (F' := (27, [(1, .int (Int32.ofInt (v4))), (0, .ref 39)], [.int (Int32.ofInt (1)), .int (Int32.ofInt ((I3a 2502))), .ref 39], M20)) rfl ?_
  refine w_add rfl ?_
  refine w_int (fun x23 r24 e25 => ?_)
  obtain ⟨r24a, r24b⟩ := r24
  clear e25
  refine w_pf hR21a rfl rfl rfl rfl (show w_in (x23) from ⟨by omega, by omega⟩) (fun h => absurd h (by decide)) (fun M26 hR27 => ?_)
  replace hR27 : w_Rep w_TC fr X u l (w_up I3a 2502 (x23)) (w_upF A3a 40 (w_upG 3107 (A3a 40) ((I3a 2502)) (v4))) B3a C3a M26 := hR27
  refine w_adv (n := 1) (F' := (32, [(1, .int (Int32.ofInt (v4))), (0, .ref 39)], [.int (Int32.ofInt (v4))], M26)) rfl ?_
  refine w_fin (r := .inl (some (v4))) (M' := M26) rfl ?_
  exact ⟨v4, (w_up I3a 2502 (x23)), (w_upF A3a 40 (w_upG 3107 (A3a 40) ((I3a 2502)) (v4))), B3a, C3a, rfl, ⟨by omega, by omega⟩, hR27, (show c_bz I A (w_up I3a 2502 (x23)) (w_upF A3a 40 (w_upG 3107 (A3a 40) ((I3a 2502)) (v4))) 0 0 (I 2503) by exact (c_bz_upF (c_bz_up bx16 rfl) rfl)), (show (I3a 2503) = (I 2503) ∧ (0 ≤ (I3a 1035) ∧ (I3a 1035) ≤ 10000) ∧ (I3a 200) = (I 200) ∧ (I3a 202) = (I 202) by (repeat' apply And.intro) <;> first | assumption | omega)⟩
def c_target_Q (fr : Nat → Bool) (X : Nat → Option (q_C (Nat → Int32))) (u l : Nat) (I : Nat → Int) (A : Nat → Int → Int) (B C : Nat → Nat) (M : w_M) (n : Int) : w_X → w_M → Prop := fun r M' => (∃ v : Int, ∃ (I' : Nat → Int) (A' : Nat → Int → Int) (B' C' : Nat → Nat), (r = .inl (some v)) ∧ (w_in v) ∧ (w_Rep w_TC fr X u l I' A' B' C' M') ∧ (c_bz I A I' A' 0 0 (I 2503)) ∧ ((I' 2503) = (I 2503) ∧ (0 ≤ (I' 1035) ∧ (I' 1035) ≤ 10000) ∧ (I' 200) = (I 200) ∧ (I' 202) = (I 202)))
set_option maxHeartbeats 100000000 in
set_option maxRecDepth 100000 in
theorem c_target {L : Nat} {xs : Nat → Int32} {d : Nat} {fr : Nat → Bool} {X : Nat → Option (q_C (Nat → Int32))} {u l : Nat} {I : Nat → Int} {A : Nat → Int → Int} {B C : Nat → Nat} {M : w_M} (n : Int) (hR : w_Rep w_TC fr X u l I A B C M) (hd : 4 ≤ d) (r_n : w_in n) (hKI : 0 ≤ (I 1035) ∧ (I 1035) ≤ 10000) (hW0 : 0 ≤ (I 2503)) : w_W (z_P L xs) d 158 (0, [(0, .ref 39), (1, .int (Int32.ofInt (n)))], [], M) (c_target_Q fr X u l I A B C M n) := by
  obtain ⟨ra_n, rb_n⟩ := r_n
  obtain ⟨d, rfl⟩ : ∃ d0, d = d0 + 1 := ⟨d - 1, by omega⟩
  refine w_adv (n := 2) (F' := (2, [(0, .ref 39), (1, .int (Int32.ofInt (n)))], [.int (Int32.ofInt (n)), .ref 39], M)) rfl ?_
  refine w_call (cm := 154) (as := [(0, .ref 39), (1, .int (Int32.ofInt (n)))]) (rest := []) (o := some (1, 39)) rfl (w_fitR hR rfl) (c_isVariable (n) hR (show 2 ≤ d by omega) ⟨by omega, by omega⟩) (fun r1 M2 q3 => ?_)
  rcases q3 with ⟨e4, e5⟩ | ⟨e6, e7⟩
  · rw [e4, e5]
    show w_W _ _ _ (5, [(0, .ref 39), (1, .int (Int32.ofInt (n)))], [.int (Int32.ofInt (1))], M) _
    refine w_adv (n := 2) (F' := (9, [(0, .ref 39), (1, .int (Int32.ofInt (n)))], [.ref 39], M)) rfl ?_
    refine w_gf (v := .ref 33) hR rfl rfl rfl rfl ?_
    refine w_adv (n := 1) (F' := (13, [(0, .ref 39), (1, .int (Int32.ofInt (n)))], [.ref 39, .ref 33], M)) rfl ?_
    refine w_gf (v := .ref 26) hR rfl rfl rfl rfl ?_
    refine w_adv (n := 1) (F' := (17, [(0, .ref 39), (1, .int (Int32.ofInt (n)))], [.int (Int32.ofInt (n)), .ref 26, .ref 33], M)) rfl ?_
    refine w_call (cm := 145) (as := [(0, .ref 26), (1, .int (Int32.ofInt (n)))]) (rest := [.ref 33]) (o := some (8, 26)) rfl (w_fitR hR rfl) (c_Ta (n) hR (show 1 ≤ d by omega) ⟨by omega, by omega⟩) (fun r8 M9 q10 => ?_)
    rcases q10 with ⟨v11, e12, ⟨r13, r14⟩, e15, f16⟩
    rw [e12, e15]
    replace f16 : c_rd (A 28) n v11 := f16
    show w_W _ _ _ (20, [(0, .ref 39), (1, .int (Int32.ofInt (n)))], [.int (Int32.ofInt (v11)), .ref 33], M) _
    refine w_call (cm := 155) (as := [(0, .ref 33), (1, .int (Int32.ofInt (v11)))]) (rest := []) (o := some (5, 33)) rfl (w_fitR hR rfl) (c_Scope_variable (v11) hR (show 2 ≤ d by omega) ⟨by omega, by omega⟩) (fun r17 M18 q19 => ?_)
    rcases q19 with ⟨v20, e21, ⟨r22, r23⟩, e24⟩
    rw [e21, e24]
    show w_W _ _ _ (23, [(0, .ref 39), (1, .int (Int32.ofInt (n)))], [.int (Int32.ofInt (v20))], M) _
    refine w_adv (n := 3) (F' := (32, [(2, .int (Int32.ofInt (v20))), (0, .ref 39), (1, .int (Int32.ofInt (n)))], [.ref 39], M)) rfl ?_
    refine w_gf (v := .ref 26) hR rfl rfl rfl rfl ?_
    refine w_adv (n := 2) (F' := (37, [(2, .int (Int32.ofInt (v20))), (0, .ref 39), (1, .int (Int32.ofInt (n)))], [.int (Int32.ofInt (v20)), .int (Int32.ofInt (n)), .ref 26], M)) rfl ?_
    refine w_call (cm := 160) (as := [(0, .ref 26), (1, .int (Int32.ofInt (n))), (2, .int (Int32.ofInt (v20)))]) (rest := []) (o := some (8, 26)) rfl (w_fitR hR rfl) (c_tsv (n) (v20) hR (show 2 ≤ d by omega) ⟨by omega, by omega⟩ ⟨by omega, by omega⟩ (show 0 ≤ (I 1035) ∧ (I 1035) ≤ 10000 by (repeat' apply And.intro) <;> first | assumption | omega) (show 0 ≤ (I 2503) by omega)) (fun r25 M26 q27 => ?_)
    rcases q27 with ⟨I27a, A27a, B27a, C27a, e28, hR27a, f29, f30, f31⟩
    rw [e28]
    replace hR27a : w_Rep w_TC fr X u l I27a A27a B27a C27a M26 := hR27a
    replace f29 : c_bz I A I27a A27a 0 0 (I 2503) := f29
    replace f30 : (I27a 2503) = (I 2503) ∧ (0 ≤ (I27a 1035) ∧ (I27a 1035) ≤ 10000) ∧ (I27a 200) = (I 200) ∧ (I27a 202) = (I 202) := f30
    obtain ⟨n32, ⟨n33, n34⟩, n35, n36⟩ := id f30
    clear f30
    replace f31 : (I27a 2502) = (I 2502) := f31
    have bx37 : c_bz I A I27a A27a 0 0 (I 2503) := c_bz_trans (show c_bz I A I A 0 0 (I 2503) from c_bz_refl) f29 (Int.le_refl _) (Int.le_refl _) (show 0 ≤ 0 ∨ 0 ≤ 0 by omega) (show 0 ≤ 0 ∨ 0 ≤ 0 by omega) (Int.le_refl _) (show (I 2503) ≤ (I 2503) by omega)
    show w_W _ _ _ (40, [(2, .int (Int32.ofInt (v20))), (0, .ref 39), (1, .int (Int32.ofInt (n)))], [], M26) _
    refine w_adv (n := 1) (F' := (41, [(2, .int (Int32.ofInt (v20))), (0, .ref 39), (1, .int (Int32.ofInt (n)))], [.int (Int32.ofInt (v20))], M26)) rfl ?_
    refine w_fin (r := .inl (some (v20))) (M' := M26) rfl ?_
    exact ⟨v20, I27a, A27a, B27a, C27a, rfl, ⟨by omega, by omega⟩, hR27a, (show c_bz I A I27a A27a 0 0 (I 2503) by exact bx37), (show (I27a 2503) = (I 2503) ∧ (0 ≤ (I27a 1035) ∧ (I27a 1035) ≤ 10000) ∧ (I27a 200) = (I 200) ∧ (I27a 202) = (I 202) by (repeat' apply And.intro) <;> first | assumption | omega)⟩
  · rw [e6, e7]
    show w_W _ _ _ (5, [(0, .ref 39), (1, .int (Int32.ofInt (n)))], [.int (Int32.ofInt (0))], M) _
    refine w_adv (n := 2) (F' := (27, [(0, .ref 39), (1, .int (Int32.ofInt (n)))], [.ref 39], M)) rfl ?_
    refine w_call (cm := 159) (as := [(0, .ref 39)]) (rest := []) (o := some (1, 39)) rfl (w_fitR hR rfl) (c_makeFresh hR (show 3 ≤ d by omega) (show 0 ≤ (I 1035) ∧ (I 1035) ≤ 10000 by (repeat' apply And.intro) <;> first | assumption | omega) (show 0 ≤ (I 2503) by omega)) (fun r38 M39 q40 => ?_)
    rcases q40 with ⟨v41, I40a, A40a, B40a, C40a, e42, ⟨r43, r44⟩, hR40a, f45, f46⟩
    rw [e42]
    replace hR40a : w_Rep w_TC fr X u l I40a A40a B40a C40a M39 := hR40a
    replace f45 : c_bz I A I40a A40a 0 0 (I 2503) := f45
    replace f46 : (I40a 2503) = (I 2503) ∧ (0 ≤ (I40a 1035) ∧ (I40a 1035) ≤ 10000) ∧ (I40a 200) = (I 200) ∧ (I40a 202) = (I 202) := f46
    obtain ⟨n47, ⟨n48, n49⟩, n50, n51⟩ := id f46
    clear f46
    have bx52 : c_bz I A I40a A40a 0 0 (I 2503) := c_bz_trans (show c_bz I A I A 0 0 (I 2503) from c_bz_refl) f45 (Int.le_refl _) (Int.le_refl _) (show 0 ≤ 0 ∨ 0 ≤ 0 by omega) (show 0 ≤ 0 ∨ 0 ≤ 0 by omega) (Int.le_refl _) (show (I 2503) ≤ (I 2503) by omega)
    show w_W _ _ _ (30, [(0, .ref 39), (1, .int (Int32.ofInt (n)))], [.int (Int32.ofInt (v41))], M39) _
    refine w_adv (n := 2) (F' := (32, [(2, .int (Int32.ofInt (v41))), (0, .ref 39), (1, .int (Int32.ofInt (n)))], [.ref 39], M39)) rfl ?_
    refine w_gf (v := .ref 26) hR40a rfl rfl rfl rfl ?_
    refine w_adv (n := 2) (F' := (37, [(2, .int (Int32.ofInt (v41))), (0, .ref 39), (1, .int (Int32.ofInt (n)))], [.int (Int32.ofInt (v41)), .int (Int32.ofInt (n)), .ref 26], M39)) rfl ?_
    refine w_call (cm := 160) (as := [(0, .ref 26), (1, .int (Int32.ofInt (n))), (2, .int (Int32.ofInt (v41)))]) (rest := []) (o := some (8, 26)) rfl (w_fitR hR40a rfl) (c_tsv (n) (v41) hR40a (show 2 ≤ d by omega) ⟨by omega, by omega⟩ ⟨by omega, by omega⟩ (show 0 ≤ (I40a 1035) ∧ (I40a 1035) ≤ 10000 by (repeat' apply And.intro) <;> first | assumption | omega) (show 0 ≤ (I40a 2503) by omega)) (fun r53 M54 q55 => ?_)
    rcases q55 with ⟨I55a, A55a, B55a, C55a, e56, hR55a, f57, f58, f59⟩
    rw [e56]
    replace hR55a : w_Rep w_TC fr X u l I55a A55a B55a C55a M54 := hR55a
    replace f57 : c_bz I40a A40a I55a A55a 0 0 (I40a 2503) := f57
    replace f58 : (I55a 2503) = (I40a 2503) ∧ (0 ≤ (I55a 1035) ∧ (I55a 1035) ≤ 10000) ∧ (I55a 200) = (I40a 200) ∧ (I55a 202) = (I40a 202) := f58
    obtain ⟨n60, ⟨n61, n62⟩, n63, n64⟩ := id f58
    clear f58
    replace f59 : (I55a 2502) = (I40a 2502) := f59
    have bx65 : c_bz I A I55a A55a 0 0 (I 2503) := c_bz_trans (show c_bz I A I40a A40a 0 0 (I 2503) from bx52) f57 (Int.le_refl _) (Int.le_refl _) (show 0 ≤ 0 ∨ 0 ≤ 0 by omega) (show 0 ≤ 0 ∨ 0 ≤ 0 by omega) (Int.le_refl _) (show (I 2503) ≤ (I40a 2503) by omega)
    show w_W _ _ _ (40, [(2, .int (Int32.ofInt (v41))), (0, .ref 39), (1, .int (Int32.ofInt (n)))], [], M54) _
    refine w_adv (n := 1) (F' := (41, [(2, .int (Int32.ofInt (v41))), (0, .ref 39), (1, .int (Int32.ofInt (n)))], [.int (Int32.ofInt (v41))], M54)) rfl ?_
    refine w_fin (r := .inl (some (v41))) (M' := M54) rfl ?_
    exact ⟨v41, I55a, A55a, B55a, C55a, rfl, ⟨by omega, by omega⟩, hR55a, (show c_bz I A I55a A55a 0 0 (I 2503) by exact bx65), (show (I55a 2503) = (I 2503) ∧ (0 ≤ (I55a 1035) ∧ (I55a 1035) ≤ 10000) ∧ (I55a 200) = (I 200) ∧ (I55a 202) = (I 202) by (repeat' apply And.intro) <;> first | assumption | omega)⟩
def c_bear_Q (fr : Nat → Bool) (X : Nat → Option (q_C (Nat → Int32))) (u l : Nat) (I : Nat → Int) (A : Nat → Int → Int) (B C : Nat → Nat) (M : w_M) (b : Int) (n : Int) : w_X → w_M → Prop := fun r M' => (∃ (I' : Nat → Int) (A' : Nat → Int → Int) (B' C' : Nat → Nat), (r = .inl none) ∧ (w_Rep w_TC fr X u l I' A' B' C' M') ∧ (c_bz I A I' A' 0 0 (I 2503)) ∧ ((I' 2503) = (I 2503) ∧ (0 ≤ (I' 1035) ∧ (I' 1035) ≤ 10000) ∧ (I' 200) = (I 200) ∧ (I' 202) = (I 202)))
set_option maxHeartbeats 100000000 in
set_option maxRecDepth 100000 in
theorem c_bear {L : Nat} {xs : Nat → Int32} {d : Nat} {fr : Nat → Bool} {X : Nat → Option (q_C (Nat → Int32))} {u l : Nat} {I : Nat → Int} {A : Nat → Int → Int} {B C : Nat → Nat} {M : w_M} (b : Int) (n : Int) (hR : w_Rep w_TC fr X u l I A B C M) (hd : 4 ≤ d) (r_b : w_in b) (r_n : w_in n) (hKI : 0 ≤ (I 1035) ∧ (I 1035) ≤ 10000) (hW0 : 0 ≤ (I 2503)) : w_W (z_P L xs) d 179 (0, [(0, .ref 39), (1, .int (Int32.ofInt (b))), (2, .int (Int32.ofInt (n)))], [], M) (c_bear_Q fr X u l I A B C M b n) := by
  obtain ⟨ra_b, rb_b⟩ := r_b
  obtain ⟨ra_n, rb_n⟩ := r_n
  obtain ⟨d, rfl⟩ : ∃ d0, d = d0 + 1 := ⟨d - 1, by omega⟩
  refine w_adv (n := 2) (F' := (2, [(3, .int (Int32.ofInt (0))), (0, .ref 39), (1, .int (Int32.ofInt (b))), (2, .int (Int32.ofInt (n)))], [], M)) rfl ?_
  have lp2 : ∀ fu2 : Nat, ∀ (y2_3 : Int) (I_2 : Nat → Int) (A_2 : Nat → Int → Int) (B_2 C_2 : Nat → Nat) (M_2 : w_M) (hR_2 : w_Rep w_TC fr X u l I_2 A_2 B_2 C_2 M_2), w_in y2_3 → c_bz I A I_2 A_2 0 0 (I 2503) → (I_2 2503) = (I 2503) ∧ (0 ≤ (I_2 1035) ∧ (I_2 1035) ≤ 10000) ∧ (I_2 200) = (I 200) ∧ (I_2 202) = (I 202) → 0 ≤ y2_3 → (if y2_3 < n then n - y2_3 else 0) < (fu2 : Int) → w_W (z_P L xs) (d + 1) 179 (2, [(0, .ref 39), (1, .int (Int32.ofInt (b))), (2, .int (Int32.ofInt (n))), (3, .int (Int32.ofInt (y2_3)))], [], M_2) (c_bear_Q fr X u l I A B C M b n) := by
    intro fu2
    induction fu2 with
    | zero =>
      intro y2_3 I_2 A_2 B_2 C_2 M_2 hR_2 ⟨ra_y2_3, rb_y2_3⟩ hi2_0 hi2_1 hi2_2 hn2
      exfalso
      omega
    | succ fu2 ih2 =>
      intro y2_3 I_2 A_2 B_2 C_2 M_2 hR_2 ⟨ra_y2_3, rb_y2_3⟩ hi2_0 hi2_1 hi2_2 hn2
      refine w_adv (n := 2) (F' := (4, [(0, .ref 39), (1, .int (Int32.ofInt (b))), (2, .int (Int32.ofInt (n))), (3, .int (Int32.ofInt (y2_3)))], [.int (Int32.ofInt (n)), .int (Int32.ofInt (y2_3))], M_2)) rfl ?_
      refine w_br2 (a := y2_3) (b := n) rfl rfl ⟨by omega, by omega⟩ ⟨by omega, by omega⟩ (fun h1 => ?_) (fun h1 => ?_)
      · have h1 : y2_3 ≥ n := h1
        show w_W _ _ _ (44, [(0, .ref 39), (1, .int (Int32.ofInt (b))), (2, .int (Int32.ofInt (n))), (3, .int (Int32.ofInt (y2_3)))], [], M_2) _
        refine w_fin (r := .inl none) (M' := M_2) rfl ?_
        exact ⟨I_2, A_2, B_2, C_2, rfl, hR_2, (show c_bz I A I_2 A_2 0 0 (I 2503) by exact hi2_0), (show (I_2 2503) = (I 2503) ∧ (0 ≤ (I_2 1035) ∧ (I_2 1035) ≤ 10000) ∧ (I_2 200) = (I 200) ∧ (I_2 202) = (I 202) by (repeat' apply And.intro) <;> first | assumption | omega)⟩
      · have h1 : ¬ (y2_3 ≥ n) := h1
        show w_W _ _ _ (7, [(0, .ref 39), (1, .int (Int32.ofInt (b))), (2, .int (Int32.ofInt (n))), (3, .int (Int32.ofInt (y2_3)))], [], M_2) _
        refine w_adv (n := 1) (F' := (8, [(0, .ref 39), (1, .int (Int32.ofInt (b))), (2, .int (Int32.ofInt (n))), (3, .int (Int32.ofInt (y2_3)))], [.ref 39], M_2)) rfl ?_
        refine w_gf (v := .ref 16) hR_2 rfl rfl rfl rfl ?_
        refine w_adv (n := 1) (F' := (12, [(0, .ref 39), (1, .int (Int32.ofInt (b))), (2, .int (Int32.ofInt (n))), (3, .int (Int32.ofInt (y2_3)))], [.ref 39, .ref 16], M_2)) rfl ?_
        refine w_gf (v := .ref 33) hR_2 rfl rfl rfl rfl ?_
        refine w_adv (n := 2) (F' := (17, [(0, .ref 39), (1, .int (Int32.ofInt (b))), (2, .int (Int32.ofInt (n))), (3, .int (Int32.ofInt (y2_3)))], [.int (Int32.ofInt (y2_3)), .int (Int32.ofInt (b)), .ref 33, .ref 16], M_2)) rfl ?_
        refine w_add rfl ?_
        refine w_int (fun x2 r3 e4 => ?_)
        obtain ⟨r3a, r3b⟩ := r3
        clear e4
        refine w_call (cm := 180) (as := [(0, .ref 33), (1, .int (Int32.ofInt (x2)))]) (rest := [.ref 16]) (o := some (5, 33)) rfl (w_fitR hR_2 rfl) (c_Scope_entry (x2) hR_2 (show 2 ≤ d by omega) ⟨by omega, by omega⟩) (fun r5 M6 q7 => ?_)
        rcases q7 with ⟨v8, e9, ⟨r10, r11⟩, e12⟩
        rw [e9, e12]
        show w_W _ _ _ (21, [(0, .ref 39), (1, .int (Int32.ofInt (b))), (2, .int (Int32.ofInt (n))), (3, .int (Int32.ofInt (y2_3)))], [.int (Int32.ofInt (v8)), .ref 16], M_2) _
        refine w_call (cm := 31) (as := [(0, .ref 16), (1, .int (Int32.ofInt (v8)))]) (rest := []) (o := some (2, 16)) rfl (w_fitR hR_2 rfl) (c_kmv (v8) hR_2 (show 2 ≤ d by omega) ⟨by omega, by omega⟩ (show 0 ≤ (I_2 1035) ∧ (I_2 1035) ≤ 10000 by (repeat' apply And.intro) <;> first | assumption | omega) (show 0 ≤ (I_2 2503) by omega)) (fun r13 M14 q15 => ?_)
        rcases q15 with ⟨v16, I15a, A15a, B15a, C15a, e17, ⟨r18, r19⟩, hR15a, f20, f21, f22⟩
        rw [e17]
        replace hR15a : w_Rep w_TC fr X u l I15a A15a B15a C15a M14 := hR15a
        replace f20 : c_bz I_2 A_2 I15a A15a 0 0 (I_2 2503) := f20
        replace f21 : (I15a 2503) = (I_2 2503) ∧ (0 ≤ (I15a 1035) ∧ (I15a 1035) ≤ 10000) ∧ (I15a 200) = (I_2 200) ∧ (I15a 202) = (I_2 202) := f21
        obtain ⟨n23, ⟨n24, n25⟩, n26, n27⟩ := id f21
        clear f21
        replace f22 : (I15a 2502) = (I_2 2502) := f22
        have bx28 : c_bz I A I15a A15a 0 0 (I 2503) := c_bz_trans (show c_bz I A I_2 A_2 0 0 (I 2503) from hi2_0) f20 (Int.le_refl _) (Int.le_refl _) (show 0 ≤ 0 ∨ 0 ≤ 0 by omega) (show 0 ≤ 0 ∨ 0 ≤ 0 by omega) (Int.le_refl _) (show (I 2503) ≤ (I_2 2503) by omega)
        show w_W _ _ _ (24, [(0, .ref 39), (1, .int (Int32.ofInt (b))), (2, .int (Int32.ofInt (n))), (3, .int (Int32.ofInt (y2_3)))], [.int (Int32.ofInt (v16))], M14) _
        refine w_adv (n := 2) (F' := (27, [(4, .int (Int32.ofInt (v16))), (0, .ref 39), (1, .int (Int32.ofInt (b))), (2, .int (Int32.ofInt (n))), (3, .int (Int32.ofInt (y2_3)))], [.ref 39], M14)) rfl ?_
        refine w_gf (v := .ref 33) hR15a rfl rfl rfl rfl ?_
        refine w_adv (n := 2) (F' := (32, [(4, .int (Int32.ofInt (v16))), (0, .ref 39), (1, .int (Int32.ofInt (b))), (2, .int (Int32.ofInt (n))), (3, .int (Int32.ofInt (y2_3)))], [.int (Int32.ofInt (y2_3)), .int (Int32.ofInt (b)), .ref 33], M14)) rfl ?_
        refine w_add rfl ?_
        refine w_int (fun x29 r30 e31 => ?_)
        obtain ⟨r30a, r30b⟩ := r30
        clear e31
        refine w_adv (n := 1) (F' := (35, [(4, .int (Int32.ofInt (v16))), (0, .ref 39), (1, .int (Int32.ofInt (b))), (2, .int (Int32.ofInt (n))), (3, .int (Int32.ofInt (y2_3)))], [.int (Int32.ofInt (v16)), .int (Int32.ofInt (x29)), .ref 33], M14)) rfl ?_
        refine w_call (cm := 79) (as := [(0, .ref 33), (1, .int (Int32.ofInt (x29))), (2, .int (Int32.ofInt (v16)))]) (rest := []) (o := some (5, 33)) rfl (w_fitR hR15a rfl) (c_ssv (x29) (v16) hR15a (show 2 ≤ d by omega) ⟨by omega, by omega⟩ ⟨by omega, by omega⟩ (show 0 ≤ (I15a 1035) ∧ (I15a 1035) ≤ 10000 by (repeat' apply And.intro) <;> first | assumption | omega) (show 0 ≤ (I15a 2503) by omega)) (fun r32 M33 q34 => ?_)
        rcases q34 with ⟨I34a, A34a, B34a, C34a, e35, hR34a, f36, f37, f38⟩
        rw [e35]
        replace hR34a : w_Rep w_TC fr X u l I34a A34a B34a C34a M33 := hR34a
        replace f36 : c_bz I15a A15a I34a A34a 0 0 (I15a 2503) := f36
        replace f37 : (I34a 2503) = (I15a 2503) ∧ (0 ≤ (I34a 1035) ∧ (I34a 1035) ≤ 10000) ∧ (I34a 200) = (I15a 200) ∧ (I34a 202) = (I15a 202) := f37
        obtain ⟨n39, ⟨n40, n41⟩, n42, n43⟩ := id f37
        clear f37
        replace f38 : (I34a 2502) = (I15a 2502) := f38
        have bx44 : c_bz I A I34a A34a 0 0 (I 2503) := c_bz_trans (show c_bz I A I15a A15a 0 0 (I 2503) from bx28) f36 (Int.le_refl _) (Int.le_refl _) (show 0 ≤ 0 ∨ 0 ≤ 0 by omega) (show 0 ≤ 0 ∨ 0 ≤ 0 by omega) (Int.le_refl _) (show (I 2503) ≤ (I15a 2503) by omega)
        show w_W _ _ _ (38, [(4, .int (Int32.ofInt (v16))), (0, .ref 39), (1, .int (Int32.ofInt (b))), (2, .int (Int32.ofInt (n))), (3, .int (Int32.ofInt (y2_3)))], [], M33) _
        refine w_inc (nL := 5) (a := y2_3) rfl rfl rfl (by decide) ?_
        refine w_adv (n := 1) (F' := (2, [(3, .int (Int32.ofInt (y2_3 + 1))), (4, .int (Int32.ofInt (v16))), (0, .ref 39), (1, .int (Int32.ofInt (b))), (2, .int (Int32.ofInt (n)))], [], M33)) rfl ?_
        refine w_ls (ls := [(0, .ref 39), (1, .int (Int32.ofInt (b))), (2, .int (Int32.ofInt (n))), (3, .int (Int32.ofInt (y2_3 + 1)))]) (show List.Nodup [0, 1, 2, 3] by decide) (show List.Nodup [3, 4, 0, 1, 2] by decide) (List.forall_mem_cons.mpr ⟨(List.Mem.tail _ (List.Mem.tail _ (List.Mem.head _))), (List.forall_mem_cons.mpr ⟨(List.Mem.tail _ (List.Mem.tail _ (List.Mem.tail _ (List.Mem.head _)))), (List.forall_mem_cons.mpr ⟨(List.Mem.tail _ (List.Mem.tail _ (List.Mem.tail _ (List.Mem.tail _ (List.Mem.head _))))), (List.forall_mem_cons.mpr ⟨(List.Mem.head _), (fun _ h => by cases h)⟩)⟩)⟩)⟩) ?_
        exact ih2  (y2_3 + 1) I34a A34a B34a C34a M33 hR34a ⟨by omega, by omega⟩ (show c_bz I A I34a A34a 0 0 (I 2503) by exact bx44) (show (I34a 2503) = (I 2503) ∧ (0 ≤ (I34a 1035) ∧ (I34a 1035) ≤ 10000) ∧ (I34a 200) = (I 200) ∧ (I34a 202) = (I 202) by (repeat' apply And.intro) <;> first | assumption | omega) (show 0 ≤ (y2_3 + 1) by omega) (show (if (y2_3 + 1) < n then n - (y2_3 + 1) else 0) < (fu2 : Int) by omega)
  refine w_ls (ls := [(0, .ref 39), (1, .int (Int32.ofInt (b))), (2, .int (Int32.ofInt (n))), (3, .int (Int32.ofInt (0)))]) (show List.Nodup [0, 1, 2, 3] by decide) (show List.Nodup [3, 0, 1, 2] by decide) (List.forall_mem_cons.mpr ⟨(List.Mem.tail _ (List.Mem.head _)), (List.forall_mem_cons.mpr ⟨(List.Mem.tail _ (List.Mem.tail _ (List.Mem.head _))), (List.forall_mem_cons.mpr ⟨(List.Mem.tail _ (List.Mem.tail _ (List.Mem.tail _ (List.Mem.head _)))), (List.forall_mem_cons.mpr ⟨(List.Mem.head _), (fun _ h => by cases h)⟩)⟩)⟩)⟩) ?_
  exact lp2 (((if 0 < n then n - 0 else 0) : Int).toNat + 1)  (0) I A B C M hR ⟨by omega, by omega⟩ (show c_bz I A I A 0 0 (I 2503) by exact c_bz_refl) (show (I 2503) = (I 2503) ∧ (0 ≤ (I 1035) ∧ (I 1035) ≤ 10000) ∧ (I 200) = (I 200) ∧ (I 202) = (I 202) by (repeat' apply And.intro) <;> first | assumption | omega) (show 0 ≤ (0 : Int) by omega) (show (if 0 < n then n - 0 else 0) < ((((if 0 < n then n - 0 else 0) : Int).toNat + 1 : Nat) : Int) by omega)
def c_addVariables_Q (fr : Nat → Bool) (X : Nat → Option (q_C (Nat → Int32))) (u l : Nat) (I : Nat → Int) (A : Nat → Int → Int) (B C : Nat → Nat) (M : w_M) (b : Int) (n : Int) : w_X → w_M → Prop := fun r M' => (∃ (I' : Nat → Int) (A' : Nat → Int → Int) (B' C' : Nat → Nat), (r = .inl none) ∧ (w_Rep w_TC fr X u l I' A' B' C' M') ∧ (c_bz I A I' A' 0 0 (I 2503)) ∧ ((I' 2503) = (I 2503) ∧ (0 ≤ (I' 1035) ∧ (I' 1035) ≤ 10000) ∧ (I' 200) = (I 200) ∧ (I' 202) = (I 202)))
set_option maxHeartbeats 100000000 in
set_option maxRecDepth 100000 in
theorem c_addVariables {L : Nat} {xs : Nat → Int32} {d : Nat} {fr : Nat → Bool} {X : Nat → Option (q_C (Nat → Int32))} {u l : Nat} {I : Nat → Int} {A : Nat → Int → Int} {B C : Nat → Nat} {M : w_M} (b : Int) (n : Int) (hR : w_Rep w_TC fr X u l I A B C M) (hd : 4 ≤ d) (r_b : w_in b) (r_n : w_in n) (hKI : 0 ≤ (I 1035) ∧ (I 1035) ≤ 10000) (hW0 : 0 ≤ (I 2503)) : w_W (z_P L xs) d 181 (0, [(0, .ref 39), (1, .int (Int32.ofInt (b))), (2, .int (Int32.ofInt (n)))], [], M) (c_addVariables_Q fr X u l I A B C M b n) := by
  obtain ⟨ra_b, rb_b⟩ := r_b
  obtain ⟨ra_n, rb_n⟩ := r_n
  obtain ⟨d, rfl⟩ : ∃ d0, d = d0 + 1 := ⟨d - 1, by omega⟩
  refine w_adv (n := 2) (F' := (2, [(3, .int (Int32.ofInt (0))), (0, .ref 39), (1, .int (Int32.ofInt (b))), (2, .int (Int32.ofInt (n)))], [], M)) rfl ?_
  have lp2 : ∀ fu2 : Nat, ∀ (y2_3 : Int) (I_2 : Nat → Int) (A_2 : Nat → Int → Int) (B_2 C_2 : Nat → Nat) (M_2 : w_M) (hR_2 : w_Rep w_TC fr X u l I_2 A_2 B_2 C_2 M_2), w_in y2_3 → c_bz I A I_2 A_2 0 0 (I 2503) → (I_2 2503) = (I 2503) ∧ (0 ≤ (I_2 1035) ∧ (I_2 1035) ≤ 10000) ∧ (I_2 200) = (I 200) ∧ (I_2 202) = (I 202) → 0 ≤ y2_3 → (if y2_3 < n then n - y2_3 else 0) < (fu2 : Int) → w_W (z_P L xs) (d + 1) 181 (2, [(0, .ref 39), (1, .int (Int32.ofInt (b))), (2, .int (Int32.ofInt (n))), (3, .int (Int32.ofInt (y2_3)))], [], M_2) (c_addVariables_Q fr X u l I A B C M b n) := by
    intro fu2
    induction fu2 with
    | zero =>
      intro y2_3 I_2 A_2 B_2 C_2 M_2 hR_2 ⟨ra_y2_3, rb_y2_3⟩ hi2_0 hi2_1 hi2_2 hn2
      exfalso
      omega
    | succ fu2 ih2 =>
      intro y2_3 I_2 A_2 B_2 C_2 M_2 hR_2 ⟨ra_y2_3, rb_y2_3⟩ hi2_0 hi2_1 hi2_2 hn2
      refine w_adv (n := 2) (F' := (4, [(0, .ref 39), (1, .int (Int32.ofInt (b))), (2, .int (Int32.ofInt (n))), (3, .int (Int32.ofInt (y2_3)))], [.int (Int32.ofInt (n)), .int (Int32.ofInt (y2_3))], M_2)) rfl ?_
      refine w_br2 (a := y2_3) (b := n) rfl rfl ⟨by omega, by omega⟩ ⟨by omega, by omega⟩ (fun h1 => ?_) (fun h1 => ?_)
      · have h1 : y2_3 ≥ n := h1
        show w_W _ _ _ (30, [(0, .ref 39), (1, .int (Int32.ofInt (b))), (2, .int (Int32.ofInt (n))), (3, .int (Int32.ofInt (y2_3)))], [], M_2) _
        refine w_fin (r := .inl none) (M' := M_2) rfl ?_
        exact ⟨I_2, A_2, B_2, C_2, rfl, hR_2, (show c_bz I A I_2 A_2 0 0 (I 2503) by exact hi2_0), (show (I_2 2503) = (I 2503) ∧ (0 ≤ (I_2 1035) ∧ (I_2 1035) ≤ 10000) ∧ (I_2 200) = (I 200) ∧ (I_2 202) = (I 202) by (repeat' apply And.intro) <;> first | assumption | omega)⟩
      · have h1 : ¬ (y2_3 ≥ n) := h1
        show w_W _ _ _ (7, [(0, .ref 39), (1, .int (Int32.ofInt (b))), (2, .int (Int32.ofInt (n))), (3, .int (Int32.ofInt (y2_3)))], [], M_2) _
        refine w_adv (n := 1) (F' := (8, [(0, .ref 39), (1, .int (Int32.ofInt (b))), (2, .int (Int32.ofInt (n))), (3, .int (Int32.ofInt (y2_3)))], [.ref 39], M_2)) rfl ?_
        refine w_gf (v := .ref 16) hR_2 rfl rfl rfl rfl ?_
        refine w_adv (n := 1) (F' := (12, [(0, .ref 39), (1, .int (Int32.ofInt (b))), (2, .int (Int32.ofInt (n))), (3, .int (Int32.ofInt (y2_3)))], [.ref 39, .ref 16], M_2)) rfl ?_
        refine w_gf (v := .ref 33) hR_2 rfl rfl rfl rfl ?_
        refine w_adv (n := 2) (F' := (17, [(0, .ref 39), (1, .int (Int32.ofInt (b))), (2, .int (Int32.ofInt (n))), (3, .int (Int32.ofInt (y2_3)))], [.int (Int32.ofInt (y2_3)), .int (Int32.ofInt (b)), .ref 33, .ref 16], M_2)) rfl ?_
        refine w_add rfl ?_
        refine w_int (fun x2 r3 e4 => ?_)
        obtain ⟨r3a, r3b⟩ := r3
        clear e4
        refine w_call (cm := 155) (as := [(0, .ref 33), (1, .int (Int32.ofInt (x2)))]) (rest := [.ref 16]) (o := some (5, 33)) rfl (w_fitR hR_2 rfl) (c_Scope_variable (x2) hR_2 (show 2 ≤ d by omega) ⟨by omega, by omega⟩) (fun r5 M6 q7 => ?_)
        rcases q7 with ⟨v8, e9, ⟨r10, r11⟩, e12⟩
        rw [e9, e12]
        show w_W _ _ _ (21, [(0, .ref 39), (1, .int (Int32.ofInt (b))), (2, .int (Int32.ofInt (n))), (3, .int (Int32.ofInt (y2_3)))], [.int (Int32.ofInt (v8)), .ref 16], M_2) _
        refine w_call (cm := 164) (as := [(0, .ref 16), (1, .int (Int32.ofInt (v8)))]) (rest := []) (o := some (2, 16)) rfl (w_fitR hR_2 rfl) (c_kad (v8) hR_2 (show 1 ≤ d by omega) ⟨by omega, by omega⟩ (show 0 ≤ (I_2 1035) ∧ (I_2 1035) ≤ 10000 by (repeat' apply And.intro) <;> first | assumption | omega) (show 0 ≤ (I_2 2503) by omega)) (fun r13 M14 q15 => ?_)
        rcases q15 with ⟨I15a, A15a, B15a, C15a, e16, hR15a, f17, f18, f19⟩
        rw [e16]
        replace hR15a : w_Rep w_TC fr X u l I15a A15a B15a C15a M14 := hR15a
        replace f17 : c_bz I_2 A_2 I15a A15a 0 0 (I_2 2503) := f17
        replace f18 : (I15a 2503) = (I_2 2503) ∧ (0 ≤ (I15a 1035) ∧ (I15a 1035) ≤ 10000) ∧ (I15a 200) = (I_2 200) ∧ (I15a 202) = (I_2 202) := f18
        obtain ⟨n20, ⟨n21, n22⟩, n23, n24⟩ := id f18
        clear f18
        replace f19 : (I15a 2502) = (I_2 2502) := f19
        have bx25 : c_bz I A I15a A15a 0 0 (I 2503) := c_bz_trans (show c_bz I A I_2 A_2 0 0 (I 2503) from hi2_0) f17 (Int.le_refl _) (Int.le_refl _) (show 0 ≤ 0 ∨ 0 ≤ 0 by omega) (show 0 ≤ 0 ∨ 0 ≤ 0 by omega) (Int.le_refl _) (show (I 2503) ≤ (I_2 2503) by omega)
        show w_W _ _ _ (24, [(0, .ref 39), (1, .int (Int32.ofInt (b))), (2, .int (Int32.ofInt (n))), (3, .int (Int32.ofInt (y2_3)))], [], M14) _
        refine w_inc (nL := 4) (a := y2_3) rfl rfl rfl (by decide) ?_
        refine w_adv (n := 1) (F' := (2, [(3, .int (Int32.ofInt (y2_3 + 1))), (0, .ref 39), (1, .int (Int32.ofInt (b))), (2, .int (Int32.ofInt (n)))], [], M14)) rfl ?_
        refine w_ls (ls := [(0, .ref 39), (1, .int (Int32.ofInt (b))), (2, .int (Int32.ofInt (n))), (3, .int (Int32.ofInt (y2_3 + 1)))]) (show List.Nodup [0, 1, 2, 3] by decide) (show List.Nodup [3, 0, 1, 2] by decide) (List.forall_mem_cons.mpr ⟨(List.Mem.tail _ (List.Mem.head _)), (List.forall_mem_cons.mpr ⟨(List.Mem.tail _ (List.Mem.tail _ (List.Mem.head _))), (List.forall_mem_cons.mpr ⟨(List.Mem.tail _ (List.Mem.tail _ (List.Mem.tail _ (List.Mem.head _)))), (List.forall_mem_cons.mpr ⟨(List.Mem.head _), (fun _ h => by cases h)⟩)⟩)⟩)⟩) ?_
        exact ih2  (y2_3 + 1) I15a A15a B15a C15a M14 hR15a ⟨by omega, by omega⟩ (show c_bz I A I15a A15a 0 0 (I 2503) by exact bx25) (show (I15a 2503) = (I 2503) ∧ (0 ≤ (I15a 1035) ∧ (I15a 1035) ≤ 10000) ∧ (I15a 200) = (I 200) ∧ (I15a 202) = (I 202) by (repeat' apply And.intro) <;> first | assumption | omega) (show 0 ≤ (y2_3 + 1) by omega) (show (if (y2_3 + 1) < n then n - (y2_3 + 1) else 0) < (fu2 : Int) by omega)
  refine w_ls (ls := [(0, .ref 39), (1, .int (Int32.ofInt (b))), (2, .int (Int32.ofInt (n))), (3, .int (Int32.ofInt (0)))]) (show List.Nodup [0, 1, 2, 3] by decide) (show List.Nodup [3, 0, 1, 2] by decide) (List.forall_mem_cons.mpr ⟨(List.Mem.tail _ (List.Mem.head _)), (List.forall_mem_cons.mpr ⟨(List.Mem.tail _ (List.Mem.tail _ (List.Mem.head _))), (List.forall_mem_cons.mpr ⟨(List.Mem.tail _ (List.Mem.tail _ (List.Mem.tail _ (List.Mem.head _)))), (List.forall_mem_cons.mpr ⟨(List.Mem.head _), (fun _ h => by cases h)⟩)⟩)⟩)⟩) ?_
  exact lp2 (((if 0 < n then n - 0 else 0) : Int).toNat + 1)  (0) I A B C M hR ⟨by omega, by omega⟩ (show c_bz I A I A 0 0 (I 2503) by exact c_bz_refl) (show (I 2503) = (I 2503) ∧ (0 ≤ (I 1035) ∧ (I 1035) ≤ 10000) ∧ (I 200) = (I 200) ∧ (I 202) = (I 202) by (repeat' apply And.intro) <;> first | assumption | omega) (show 0 ≤ (0 : Int) by omega) (show (if 0 < n then n - 0 else 0) < ((((if 0 < n then n - 0 else 0) : Int).toNat + 1 : Nat) : Int) by omega)
def c_bearSlots_Q (fr : Nat → Bool) (X : Nat → Option (q_C (Nat → Int32))) (u l : Nat) (I : Nat → Int) (A : Nat → Int → Int) (B C : Nat → Nat) (M : w_M) (n : Int) : w_X → w_M → Prop := fun r M' => (∃ (I' : Nat → Int) (A' : Nat → Int → Int) (B' C' : Nat → Nat), (r = .inl none) ∧ (w_Rep w_TC fr X u l I' A' B' C' M') ∧ (c_bz I A I' A' 0 0 (I 2503)) ∧ ((I' 2503) = (I 2503) ∧ (0 ≤ (I' 1035) ∧ (I' 1035) ≤ 10000) ∧ (I' 200) = (I 200) ∧ (I' 202) = (I 202)))
set_option maxHeartbeats 100000000 in
set_option maxRecDepth 100000 in
theorem c_bearSlots {L : Nat} {xs : Nat → Int32} {d : Nat} {fr : Nat → Bool} {X : Nat → Option (q_C (Nat → Int32))} {u l : Nat} {I : Nat → Int} {A : Nat → Int → Int} {B C : Nat → Nat} {M : w_M} (n : Int) (hR : w_Rep w_TC fr X u l I A B C M) (hd : 5 ≤ d) (r_n : w_in n) (hKI : 0 ≤ (I 1035) ∧ (I 1035) ≤ 10000) (hW0 : 0 ≤ (I 2503)) : w_W (z_P L xs) d 185 (0, [(0, .ref 39), (1, .int (Int32.ofInt (n)))], [], M) (c_bearSlots_Q fr X u l I A B C M n) := by
  obtain ⟨ra_n, rb_n⟩ := r_n
  obtain ⟨d, rfl⟩ : ∃ d0, d = d0 + 1 := ⟨d - 1, by omega⟩
  refine w_adv (n := 1) (F' := (1, [(0, .ref 39), (1, .int (Int32.ofInt (n)))], [.ref 39], M)) rfl ?_
  refine w_gf (v := .ref 26) hR rfl rfl rfl rfl ?_
  refine w_adv (n := 1) (F' := (5, [(0, .ref 39), (1, .int (Int32.ofInt (n)))], [.int (Int32.ofInt (n)), .ref 26], M)) rfl ?_
  refine w_call (cm := 174) (as := [(0, .ref 26), (1, .int (Int32.ofInt (n)))]) (rest := []) (o := some (8, 26)) rfl (w_fitR hR rfl) (c_Tc (n) hR (show 1 ≤ d by omega) ⟨by omega, by omega⟩) (fun r1 M2 q3 => ?_)
  rcases q3 with ⟨v4, e5, ⟨r6, r7⟩, e8, f9⟩
  rw [e5, e8]
  replace f9 : c_rd (A 30) n v4 := f9
  show w_W _ _ _ (8, [(0, .ref 39), (1, .int (Int32.ofInt (n)))], [.int (Int32.ofInt (v4))], M) _
  refine w_adv (n := 3) (F' := (11, [(3, .int (Int32.ofInt (0))), (2, .int (Int32.ofInt (v4))), (0, .ref 39), (1, .int (Int32.ofInt (n)))], [], M)) rfl ?_
  have lp11 : ∀ fu11 : Nat, ∀ (y11_2 : Int) (y11_3 : Int) (I_11 : Nat → Int) (A_11 : Nat → Int → Int) (B_11 C_11 : Nat → Nat) (M_11 : w_M) (hR_11 : w_Rep w_TC fr X u l I_11 A_11 B_11 C_11 M_11), w_in y11_2 → w_in y11_3 → c_bz I A I_11 A_11 0 0 (I 2503) → (I_11 2503) = (I 2503) ∧ (0 ≤ (I_11 1035) ∧ (I_11 1035) ≤ 10000) ∧ (I_11 200) = (I 200) ∧ (I_11 202) = (I 202) → 0 ≤ y11_3 ∧ y11_3 ≤ 1500 → 1500 - y11_3 < (fu11 : Int) → w_W (z_P L xs) (d + 1) 185 (11, [(0, .ref 39), (1, .int (Int32.ofInt (n))), (2, .int (Int32.ofInt (y11_2))), (3, .int (Int32.ofInt (y11_3)))], [], M_11) (c_bearSlots_Q fr X u l I A B C M n) := by
    intro fu11
    induction fu11 with
    | zero =>
      intro y11_2 y11_3 I_11 A_11 B_11 C_11 M_11 hR_11 ⟨ra_y11_2, rb_y11_2⟩ ⟨ra_y11_3, rb_y11_3⟩ hi11_0 hi11_1 hi11_2 hn11
      exfalso
      omega
    | succ fu11 ih11 =>
      intro y11_2 y11_3 I_11 A_11 B_11 C_11 M_11 hR_11 ⟨ra_y11_2, rb_y11_2⟩ ⟨ra_y11_3, rb_y11_3⟩ hi11_0 hi11_1 hi11_2 hn11
      refine w_adv (n := 2) (F' := (15, [(0, .ref 39), (1, .int (Int32.ofInt (n))), (2, .int (Int32.ofInt (y11_2))), (3, .int (Int32.ofInt (y11_3)))], [.int (Int32.ofInt (1500)), .int (Int32.ofInt (y11_3))], M_11)) rfl ?_
      refine w_br2 (a := y11_3) (b := 1500) rfl rfl ⟨by omega, by omega⟩ ⟨by omega, by omega⟩ (fun h10 => ?_) (fun h10 => ?_)
      · have h10 : y11_3 ≥ 1500 := h10
        show w_W _ _ _ (63, [(0, .ref 39), (1, .int (Int32.ofInt (n))), (2, .int (Int32.ofInt (y11_2))), (3, .int (Int32.ofInt (y11_3)))], [], M_11) _
        refine w_fin (r := .inl none) (M' := M_11) rfl ?_
        exact ⟨I_11, A_11, B_11, C_11, rfl, hR_11, (show c_bz I A I_11 A_11 0 0 (I 2503) by exact hi11_0), (show (I_11 2503) = (I 2503) ∧ (0 ≤ (I_11 1035) ∧ (I_11 1035) ≤ 10000) ∧ (I_11 200) = (I 200) ∧ (I_11 202) = (I 202) by (repeat' apply And.intro) <;> first | assumption | omega)⟩
      · have h10 : ¬ (y11_3 ≥ 1500) := h10
        show w_W _ _ _ (18, [(0, .ref 39), (1, .int (Int32.ofInt (n))), (2, .int (Int32.ofInt (y11_2))), (3, .int (Int32.ofInt (y11_3)))], [], M_11) _
        refine w_adv (n := 2) (F' := (20, [(0, .ref 39), (1, .int (Int32.ofInt (n))), (2, .int (Int32.ofInt (y11_2))), (3, .int (Int32.ofInt (y11_3)))], [.int (Int32.ofInt ((-1))), .int (Int32.ofInt (y11_2))], M_11)) rfl ?_
        refine w_br2 (a := y11_2) (b := (-1)) rfl rfl ⟨by omega, by omega⟩ ⟨by omega, by omega⟩ (fun h11 => ?_) (fun h11 => ?_)
        · have h11 : y11_2 = (-1) := h11
          show w_W _ _ _ (63, [(0, .ref 39), (1, .int (Int32.ofInt (n))), (2, .int (Int32.ofInt (y11_2))), (3, .int (Int32.ofInt (y11_3)))], [], M_11) _
          refine w_fin (r := .inl none) (M' := M_11) rfl ?_
          exact ⟨I_11, A_11, B_11, C_11, rfl, hR_11, (show c_bz I A I_11 A_11 0 0 (I 2503) by exact hi11_0), (show (I_11 2503) = (I 2503) ∧ (0 ≤ (I_11 1035) ∧ (I_11 1035) ≤ 10000) ∧ (I_11 200) = (I 200) ∧ (I_11 202) = (I 202) by (repeat' apply And.intro) <;> first | assumption | omega)⟩
        · have h11 : ¬ (y11_2 = (-1)) := h11
          show w_W _ _ _ (23, [(0, .ref 39), (1, .int (Int32.ofInt (n))), (2, .int (Int32.ofInt (y11_2))), (3, .int (Int32.ofInt (y11_3)))], [], M_11) _
          refine w_adv (n := 1) (F' := (24, [(0, .ref 39), (1, .int (Int32.ofInt (n))), (2, .int (Int32.ofInt (y11_2))), (3, .int (Int32.ofInt (y11_3)))], [.ref 39], M_11)) rfl ?_
          refine w_gf (v := .ref 26) hR_11 rfl rfl rfl rfl ?_
          refine w_adv (n := 1) (F' := (28, [(0, .ref 39), (1, .int (Int32.ofInt (n))), (2, .int (Int32.ofInt (y11_2))), (3, .int (Int32.ofInt (y11_3)))], [.int (Int32.ofInt (y11_2)), .ref 26], M_11)) rfl ?_
          refine w_call (cm := 152) (as := [(0, .ref 26), (1, .int (Int32.ofInt (y11_2)))]) (rest := []) (o := some (8, 26)) rfl (w_fitR hR_11 rfl) (c_Tb (y11_2) hR_11 (show 1 ≤ d by omega) ⟨by omega, by omega⟩) (fun r12 M13 q14 => ?_)
          rcases q14 with ⟨v15, e16, ⟨r17, r18⟩, e19, f20⟩
          rw [e16, e19]
          replace f20 : c_rd (A_11 29) y11_2 v15 := f20
          show w_W _ _ _ (31, [(0, .ref 39), (1, .int (Int32.ofInt (n))), (2, .int (Int32.ofInt (y11_2))), (3, .int (Int32.ofInt (y11_3)))], [.int (Int32.ofInt (v15))], M_11) _
          refine w_adv (n := 1) (F' := (32, [(0, .ref 39), (1, .int (Int32.ofInt (n))), (2, .int (Int32.ofInt (y11_2))), (3, .int (Int32.ofInt (y11_3)))], [.int (Int32.ofInt ((-1))), .int (Int32.ofInt (v15))], M_11)) rfl ?_
          refine w_br2 (a := v15) (b := (-1)) rfl rfl ⟨by omega, by omega⟩ ⟨by omega, by omega⟩ (fun h21 => ?_) (fun h21 => ?_)
          · have h21 : v15 = (-1) := h21
            show w_W _ _ _ (48, [(0, .ref 39), (1, .int (Int32.ofInt (n))), (2, .int (Int32.ofInt (y11_2))), (3, .int (Int32.ofInt (y11_3)))], [], M_11) _
            refine w_adv (n := 1) (F' := (49, [(0, .ref 39), (1, .int (Int32.ofInt (n))), (2, .int (Int32.ofInt (y11_2))), (3, .int (Int32.ofInt (y11_3)))], [.ref 39], M_11)) rfl ?_
            refine w_gf (v := .ref 26) hR_11 rfl rfl rfl rfl ?_
            refine w_adv (n := 1) (F' := (53, [(0, .ref 39), (1, .int (Int32.ofInt (n))), (2, .int (Int32.ofInt (y11_2))), (3, .int (Int32.ofInt (y11_3)))], [.int (Int32.ofInt (y11_2)), .ref 26], M_11)) rfl ?_
            refine w_call (cm := 161) (as := [(0, .ref 26), (1, .int (Int32.ofInt (y11_2)))]) (rest := []) (o := some (8, 26)) rfl (w_fitR hR_11 rfl) (c_Tnext (y11_2) hR_11 (show 1 ≤ d by omega) ⟨by omega, by omega⟩) (fun r22 M23 q24 => ?_)
            rcases q24 with ⟨v25, e26, ⟨r27, r28⟩, e29, f30⟩
            rw [e26, e29]
            replace f30 : c_rd (A_11 31) y11_2 v25 := f30
            show w_W _ _ _ (56, [(0, .ref 39), (1, .int (Int32.ofInt (n))), (2, .int (Int32.ofInt (y11_2))), (3, .int (Int32.ofInt (y11_3)))], [.int (Int32.ofInt (v25))], M_11) _
            refine w_adv (n := 1) (F' := (57, [(2, .int (Int32.ofInt (v25))), (0, .ref 39), (1, .int (Int32.ofInt (n))), (3, .int (Int32.ofInt (y11_3)))], [], M_11)) rfl ?_
            refine w_inc (nL := 4) (a := y11_3) rfl rfl rfl (by decide) ?_
            refine w_adv (n := 1) (F' := (11, [(3, .int (Int32.ofInt (y11_3 + 1))), (2, .int (Int32.ofInt (v25))), (0, .ref 39), (1, .int (Int32.ofInt (n)))], [], M_11)) rfl ?_
            refine w_ls (ls := [(0, .ref 39), (1, .int (Int32.ofInt (n))), (2, .int (Int32.ofInt (v25))), (3, .int (Int32.ofInt (y11_3 + 1)))]) (show List.Nodup [0, 1, 2, 3] by decide) (show List.Nodup [3, 2, 0, 1] by decide) (List.forall_mem_cons.mpr ⟨(List.Mem.tail _ (List.Mem.tail _ (List.Mem.head _))), (List.forall_mem_cons.mpr ⟨(List.Mem.tail _ (List.Mem.tail _ (List.Mem.tail _ (List.Mem.head _)))), (List.forall_mem_cons.mpr ⟨(List.Mem.tail _ (List.Mem.head _)), (List.forall_mem_cons.mpr ⟨(List.Mem.head _), (fun _ h => by cases h)⟩)⟩)⟩)⟩) ?_
            exact ih11  (v25) (y11_3 + 1) I_11 A_11 B_11 C_11 M_11 hR_11 ⟨by omega, by omega⟩ ⟨by omega, by omega⟩ (show c_bz I A I_11 A_11 0 0 (I 2503) by exact hi11_0) (show (I_11 2503) = (I 2503) ∧ (0 ≤ (I_11 1035) ∧ (I_11 1035) ≤ 10000) ∧ (I_11 200) = (I 200) ∧ (I_11 202) = (I 202) by (repeat' apply And.intro) <;> first | assumption | omega) (show 0 ≤ (y11_3 + 1) ∧ (y11_3 + 1) ≤ 1500 by omega) (show 1500 - (y11_3 + 1) < (fu11 : Int) by omega)
          · have h21 : ¬ (v15 = (-1)) := h21
            show w_W _ _ _ (35, [(0, .ref 39), (1, .int (Int32.ofInt (n))), (2, .int (Int32.ofInt (y11_2))), (3, .int (Int32.ofInt (y11_3)))], [], M_11) _
            refine w_adv (n := 2) (F' := (37, [(0, .ref 39), (1, .int (Int32.ofInt (n))), (2, .int (Int32.ofInt (y11_2))), (3, .int (Int32.ofInt (y11_3)))], [.ref 39, .ref 39], M_11)) rfl ?_
            refine w_gf (v := .ref 26) hR_11 rfl rfl rfl rfl ?_
            refine w_adv (n := 1) (F' := (41, [(0, .ref 39), (1, .int (Int32.ofInt (n))), (2, .int (Int32.ofInt (y11_2))), (3, .int (Int32.ofInt (y11_3)))], [.int (Int32.ofInt (y11_2)), .ref 26, .ref 39], M_11)) rfl ?_
            refine w_call (cm := 152) (as := [(0, .ref 26), (1, .int (Int32.ofInt (y11_2)))]) (rest := [.ref 39]) (o := some (8, 26)) rfl (w_fitR hR_11 rfl) (c_Tb (y11_2) hR_11 (show 1 ≤ d by omega) ⟨by omega, by omega⟩) (fun r31 M32 q33 => ?_)
            rcases q33 with ⟨v34, e35, ⟨r36, r37⟩, e38, f39⟩
            rw [e35, e38]
            replace f39 : c_rd (A_11 29) y11_2 v34 := f39
            show w_W _ _ _ (44, [(0, .ref 39), (1, .int (Int32.ofInt (n))), (2, .int (Int32.ofInt (y11_2))), (3, .int (Int32.ofInt (y11_3)))], [.int (Int32.ofInt (v34)), .ref 39], M_11) _
            refine w_adv (n := 1) (F' := (45, [(0, .ref 39), (1, .int (Int32.ofInt (n))), (2, .int (Int32.ofInt (y11_2))), (3, .int (Int32.ofInt (y11_3)))], [.int (Int32.ofInt (1)), .int (Int32.ofInt (v34)), .ref 39], M_11)) rfl ?_
            refine w_call (cm := 179) (as := [(0, .ref 39), (1, .int (Int32.ofInt (v34))), (2, .int (Int32.ofInt (1)))]) (rest := []) (o := some (1, 39)) rfl (w_fitR hR_11 rfl) (c_bear (v34) (1) hR_11 (show 4 ≤ d by omega) ⟨by omega, by omega⟩ ⟨by omega, by omega⟩ (show 0 ≤ (I_11 1035) ∧ (I_11 1035) ≤ 10000 by (repeat' apply And.intro) <;> first | assumption | omega) (show 0 ≤ (I_11 2503) by omega)) (fun r40 M41 q42 => ?_)
            rcases q42 with ⟨I42a, A42a, B42a, C42a, e43, hR42a, f44, f45⟩
            rw [e43]
            replace hR42a : w_Rep w_TC fr X u l I42a A42a B42a C42a M41 := hR42a
            replace f44 : c_bz I_11 A_11 I42a A42a 0 0 (I_11 2503) := f44
            replace f45 : (I42a 2503) = (I_11 2503) ∧ (0 ≤ (I42a 1035) ∧ (I42a 1035) ≤ 10000) ∧ (I42a 200) = (I_11 200) ∧ (I42a 202) = (I_11 202) := f45
            obtain ⟨n46, ⟨n47, n48⟩, n49, n50⟩ := id f45
            clear f45
            have bx51 : c_bz I A I42a A42a 0 0 (I 2503) := c_bz_trans (show c_bz I A I_11 A_11 0 0 (I 2503) from hi11_0) f44 (Int.le_refl _) (Int.le_refl _) (show 0 ≤ 0 ∨ 0 ≤ 0 by omega) (show 0 ≤ 0 ∨ 0 ≤ 0 by omega) (Int.le_refl _) (show (I 2503) ≤ (I_11 2503) by omega)
            show w_W _ _ _ (48, [(0, .ref 39), (1, .int (Int32.ofInt (n))), (2, .int (Int32.ofInt (y11_2))), (3, .int (Int32.ofInt (y11_3)))], [], M41) _
            refine w_adv (n := 1) (F' := (49, [(0, .ref 39), (1, .int (Int32.ofInt (n))), (2, .int (Int32.ofInt (y11_2))), (3, .int (Int32.ofInt (y11_3)))], [.ref 39], M41)) rfl ?_
            refine w_gf (v := .ref 26) hR42a rfl rfl rfl rfl ?_
            refine w_adv (n := 1) (F' := (53, [(0, .ref 39), (1, .int (Int32.ofInt (n))), (2, .int (Int32.ofInt (y11_2))), (3, .int (Int32.ofInt (y11_3)))], [.int (Int32.ofInt (y11_2)), .ref 26], M41)) rfl ?_
            refine w_call (cm := 161) (as := [(0, .ref 26), (1, .int (Int32.ofInt (y11_2)))]) (rest := []) (o := some (8, 26)) rfl (w_fitR hR42a rfl) (c_Tnext (y11_2) hR42a (show 1 ≤ d by omega) ⟨by omega, by omega⟩) (fun r52 M53 q54 => ?_)
            rcases q54 with ⟨v55, e56, ⟨r57, r58⟩, e59, f60⟩
            rw [e56, e59]
            replace f60 : c_rd (A42a 31) y11_2 v55 := f60
            show w_W _ _ _ (56, [(0, .ref 39), (1, .int (Int32.ofInt (n))), (2, .int (Int32.ofInt (y11_2))), (3, .int (Int32.ofInt (y11_3)))], [.int (Int32.ofInt (v55))], M41) _
            refine w_adv (n := 1) (F' := (57, [(2, .int (Int32.ofInt (v55))), (0, .ref 39), (1, .int (Int32.ofInt (n))), (3, .int (Int32.ofInt (y11_3)))], [], M41)) rfl ?_
            refine w_inc (nL := 4) (a := y11_3) rfl rfl rfl (by decide) ?_
            refine w_adv (n := 1) (F' := (11, [(3, .int (Int32.ofInt (y11_3 + 1))), (2, .int (Int32.ofInt (v55))), (0, .ref 39), (1, .int (Int32.ofInt (n)))], [], M41)) rfl ?_
            refine w_ls (ls := [(0, .ref 39), (1, .int (Int32.ofInt (n))), (2, .int (Int32.ofInt (v55))), (3, .int (Int32.ofInt (y11_3 + 1)))]) (show List.Nodup [0, 1, 2, 3] by decide) (show List.Nodup [3, 2, 0, 1] by decide) (List.forall_mem_cons.mpr ⟨(List.Mem.tail _ (List.Mem.tail _ (List.Mem.head _))), (List.forall_mem_cons.mpr ⟨(List.Mem.tail _ (List.Mem.tail _ (List.Mem.tail _ (List.Mem.head _)))), (List.forall_mem_cons.mpr ⟨(List.Mem.tail _ (List.Mem.head _)), (List.forall_mem_cons.mpr ⟨(List.Mem.head _), (fun _ h => by cases h)⟩)⟩)⟩)⟩) ?_
            exact ih11  (v55) (y11_3 + 1) I42a A42a B42a C42a M41 hR42a ⟨by omega, by omega⟩ ⟨by omega, by omega⟩ (show c_bz I A I42a A42a 0 0 (I 2503) by exact bx51) (show (I42a 2503) = (I 2503) ∧ (0 ≤ (I42a 1035) ∧ (I42a 1035) ≤ 10000) ∧ (I42a 200) = (I 200) ∧ (I42a 202) = (I 202) by (repeat' apply And.intro) <;> first | assumption | omega) (show 0 ≤ (y11_3 + 1) ∧ (y11_3 + 1) ≤ 1500 by omega) (show 1500 - (y11_3 + 1) < (fu11 : Int) by omega)
  refine w_ls (ls := [(0, .ref 39), (1, .int (Int32.ofInt (n))), (2, .int (Int32.ofInt (v4))), (3, .int (Int32.ofInt (0)))]) (show List.Nodup [0, 1, 2, 3] by decide) (show List.Nodup [3, 2, 0, 1] by decide) (List.forall_mem_cons.mpr ⟨(List.Mem.tail _ (List.Mem.tail _ (List.Mem.head _))), (List.forall_mem_cons.mpr ⟨(List.Mem.tail _ (List.Mem.tail _ (List.Mem.tail _ (List.Mem.head _)))), (List.forall_mem_cons.mpr ⟨(List.Mem.tail _ (List.Mem.head _)), (List.forall_mem_cons.mpr ⟨(List.Mem.head _), (fun _ h => by cases h)⟩)⟩)⟩)⟩) ?_
  exact lp11 ((1500 - 0 : Int).toNat + 1)  (v4) (0) I A B C M hR ⟨by omega, by omega⟩ ⟨by omega, by omega⟩ (show c_bz I A I A 0 0 (I 2503) by exact c_bz_refl) (show (I 2503) = (I 2503) ∧ (0 ≤ (I 1035) ∧ (I 1035) ≤ 10000) ∧ (I 200) = (I 200) ∧ (I 202) = (I 202) by (repeat' apply And.intro) <;> first | assumption | omega) (show 0 ≤ (0 : Int) ∧ (0 : Int) ≤ 1500 by omega) (show 1500 - 0 < (((1500 - 0 : Int).toNat + 1 : Nat) : Int) by omega)
