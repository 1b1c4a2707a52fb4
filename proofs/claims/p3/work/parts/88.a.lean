/-! CALLS of the class: programs. -/
def c_bprog_Q (fr : Nat → Bool) (X : Nat → Option (q_C (Nat → Int32))) (u l : Nat) (I : Nat → Int) (A : Nat → Int → Int) (B C : Nat → Nat) (M : w_M) (n : Int) (i : Nat) (p q : Int) : w_X → w_M → Prop := fun r M' => (∃ v : Int, ∃ (I' : Nat → Int) (A' : Nat → Int → Int) (B' C' : Nat → Nat), (r = .inl (some v)) ∧ (w_in v) ∧ (w_Rep w_TC fr X u l I' A' B' C' M') ∧ (c_bz I A I' A' p q 0) ∧ ((0 ≤ (I' 1035) ∧ (I' 1035) ≤ 10000) ∧ (I' 200) = (I 200) ∧ (I' 202) = (I 202)))
set_option maxHeartbeats 100000000 in
set_option maxRecDepth 100000 in
theorem c_bprog {L : Nat} {xs : Nat → Int32} {d : Nat} {fr : Nat → Bool} {X : Nat → Option (q_C (Nat → Int32))} {u l : Nat} {I : Nat → Int} {A : Nat → Int → Int} {B C : Nat → Nat} {M : w_M} (n : Int) (i : Nat) (p q : Int) (hR : w_Rep w_TC fr X u l I A B C M) (hd : 8 * i + 8 ≤ d) (r_n : w_in n) (hKI : 0 ≤ (I 1035) ∧ (I 1035) ≤ 10000) (hKS : c_ks A) (hNM : 36 ≤ (I 200) ∧ (I 200) ≤ 419 ∧ 0 ≤ (I 202) ∧ (I 202) ≤ 24) (hLN : ∀ i, (A 5) i ≤ 24) (hB : c_Bd A (c_W A i) n p q) (hpq : 0 ≤ p ∧ q ≤ 3002) (hi9 : (i : Int) ≤ 120) : w_W (z_P L xs) d 143 (0, [(0, .ref 39), (1, .int (Int32.ofInt (n)))], [], M) (c_bprog_Q fr X u l I A B C M n i p q) := by
  obtain ⟨ra_n, rb_n⟩ := r_n
  obtain ⟨d, rfl⟩ : ∃ d0, d = d0 + 1 := ⟨d - 1, by omega⟩
  refine w_adv (n := 2) (F' := (2, [(0, .ref 39), (1, .int (Int32.ofInt (n)))], [.int (Int32.ofInt (0)), .ref 39], M)) rfl ?_
  refine w_pf hR rfl rfl rfl rfl (show w_in (0) from ⟨by omega, by omega⟩) (fun h => absurd h (by decide)) (fun M1 hR2 => ?_)
  replace hR2 : w_Rep w_TC fr X u l (w_up I 2502 (0)) A B C M1 := hR2
  refine w_adv (n := 2) (F' := (7, [(0, .ref 39), (1, .int (Int32.ofInt (n)))], [.int (Int32.ofInt (0)), .ref 39], M1)) rfl ?_
  refine w_pf hR2 rfl rfl rfl rfl (show w_in (0) from ⟨by omega, by omega⟩) (fun h => absurd h (by decide)) (fun M3 hR4 => ?_)
  replace hR4 : w_Rep w_TC fr X u l (w_up (w_up I 2502 (0)) 2503 (0)) A B C M3 := hR4
  refine w_adv (n := 2) (F' := (12, [(0, .ref 39), (1, .int (Int32.ofInt (n)))], [.int (Int32.ofInt ((-1))), .ref 39], M3)) rfl ?_
  refine w_pf hR4 rfl rfl rfl rfl (show w_in ((-1)) from ⟨by omega, by omega⟩) (fun h => absurd h (by decide)) (fun M5 hR6 => ?_)
  replace hR6 : w_Rep w_TC fr X u l (w_up (w_up (w_up I 2502 (0)) 2503 (0)) 2504 ((-1))) A B C M5 := hR6
  refine w_adv (n := 2) (F' := (17, [(0, .ref 39), (1, .int (Int32.ofInt (n)))], [.int (Int32.ofInt ((-1))), .ref 39], M5)) rfl ?_
  refine w_pf hR6 rfl rfl rfl rfl (show w_in ((-1)) from ⟨by omega, by omega⟩) (fun h => absurd h (by decide)) (fun M7 hR8 => ?_)
  replace hR8 : w_Rep w_TC fr X u l (w_up (w_up (w_up (w_up I 2502 (0)) 2503 (0)) 2504 ((-1))) 2505 ((-1))) A B C M7 := hR8
  refine w_adv (n := 3) (F' := (23, [(0, .ref 39), (1, .int (Int32.ofInt (n)))], [.int (Int32.ofInt ((-1))), .int (Int32.ofInt (n)), .ref 39], M7)) rfl ?_
  refine w_call (cm := 144) (as := [(0, .ref 39), (1, .int (Int32.ofInt (n))), (2, .int (Int32.ofInt ((-1))))]) (rest := []) (o := some (1, 39)) rfl (w_fitR hR8 rfl) (c_body (c_ball L xs _) (n) ((-1)) (i) (p) (q) hR8 (show 8 * i + 7 ≤ d by omega) ⟨by omega, by omega⟩ ⟨by omega, by omega⟩ (show 0 ≤ (I 1035) ∧ (I 1035) ≤ 10000 by (repeat' apply And.intro) <;> first | assumption | omega) (show c_ks A by exact (show c_bz I A (w_up (w_up (w_up (w_up I 2502 (0)) 2503 (0)) 2504 ((-1))) 2505 ((-1))) A p q 0 from (c_bz_up (c_bz_up (c_bz_up (c_bz_up c_bz_refl rfl) rfl) rfl) rfl)).2.2.2.2 hKS) (show 36 ≤ (I 200) ∧ (I 200) ≤ 419 ∧ 0 ≤ (I 202) ∧ (I 202) ≤ 24 by (repeat' apply And.intro) <;> first | assumption | omega) (show ∀ i, (A 5) i ≤ 24 by rw [show (A 5) = (A 5) from (show c_bz I A (w_up (w_up (w_up (w_up I 2502 (0)) 2503 (0)) 2504 ((-1))) 2505 ((-1))) A p q 0 from (c_bz_up (c_bz_up (c_bz_up (c_bz_up c_bz_refl rfl) rfl) rfl) rfl)).2.1 5 rfl]; exact hLN) (show 0 ≤ 0 by omega) (show 0 + 7000 * (i : Int) ≤ 1000000 by omega) (show c_Bd A (c_W A i) n p q by exact hB) (show 0 ≤ p ∧ q ≤ 3002 by first | assumption | omega)) (fun r9 M10 q11 => ?_)
  rcases q11 with ⟨v12, I11a, A11a, B11a, C11a, e13, ⟨r14, r15⟩, hR11a, f16, f17⟩
  rw [e13]
  replace hR11a : w_Rep w_TC fr X u l I11a A11a B11a C11a M10 := hR11a
  replace f16 : c_bz (w_up (w_up (w_up (w_up I 2502 (0)) 2503 (0)) 2504 ((-1))) 2505 ((-1))) A I11a A11a p q 0 := f16
  replace f17 : (I11a 2503) = 0 ∧ (0 ≤ (I11a 1035) ∧ (I11a 1035) ≤ 10000) ∧ (I11a 200) = (I 200) ∧ (I11a 202) = (I 202) := f17
  obtain ⟨n18, ⟨n19, n20⟩, n21, n22⟩ := id f17
  clear f17
  have bx23 : c_bz I A I11a A11a p q 0 := c_bz_trans (show c_bz I A (w_up (w_up (w_up (w_up I 2502 (0)) 2503 (0)) 2504 ((-1))) 2505 ((-1))) A p q 0 from (c_bz_up (c_bz_up (c_bz_up (c_bz_up c_bz_refl rfl) rfl) rfl) rfl)) f16 (Int.le_refl _) (Int.le_refl _) (show p ≤ p ∨ q ≤ p by omega) (show q ≤ q ∨ q ≤ p by omega) (Int.le_refl _) (show 0 ≤ 0 by omega)
  show w_W _ _ _ (26, [(0, .ref 39), (1, .int (Int32.ofInt (n)))], [.int (Int32.ofInt (v12))], M10) _
  refine w_fin (r := .inl (some (v12))) (M' := M10) rfl ?_
  exact ⟨v12, I11a, A11a, B11a, C11a, rfl, ⟨by omega, by omega⟩, hR11a, (show c_bz I A I11a A11a p q 0 by exact bx23), (show (0 ≤ (I11a 1035) ∧ (I11a 1035) ≤ 10000) ∧ (I11a 200) = (I 200) ∧ (I11a 202) = (I 202) by (repeat' apply And.intro) <;> first | assumption | omega)⟩
