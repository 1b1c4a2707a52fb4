def cb_local_Q (fr : Nat → Bool) (X : Nat → Option (q_C (Nat → Int32))) (u l : Nat) (I : Nat → Int) (A : Nat → Int → Int) (B C : Nat → Nat) (M : w_M) (n : Int) (x : Int) (i : Nat) (p q : Int) : w_X → w_M → Prop := fun r M' => (∃ (I' : Nat → Int) (A' : Nat → Int → Int) (B' C' : Nat → Nat), (r = .inl none) ∧ (w_Rep w_TC fr X u l I' A' B' C' M') ∧ (c_bz I A I' A' p q (I 2503)) ∧ ((I' 2503) = (I 2503) ∧ (0 ≤ (I' 1035) ∧ (I' 1035) ≤ 10000) ∧ (I' 200) = (I 200) ∧ (I' 202) = (I 202)))
set_option maxHeartbeats 100000000 in
set_option maxRecDepth 100000 in
theorem cb_local {L : Nat} {xs : Nat → Int32} {d : Nat} {fr : Nat → Bool} {X : Nat → Option (q_C (Nat → Int32))} {u l : Nat} {I : Nat → Int} {A : Nat → Int → Int} {B C : Nat → Nat} {M : w_M} (hB0 : c_BALL L xs d) (n : Int) (x : Int) (i : Nat) (p q : Int) (hR : w_Rep w_TC fr X u l I A B C M) (hd : 8 * i + 3 ≤ d) (r_n : w_in n) (r_x : w_in x) (hKI : 0 ≤ (I 1035) ∧ (I 1035) ≤ 10000) (hKS : c_ks A) (hNM : 36 ≤ (I 200) ∧ (I 200) ≤ 419 ∧ 0 ≤ (I 202) ∧ (I 202) ≤ 24) (hLN : ∀ i, (A 5) i ≤ 24) (hW0 : 0 ≤ (I 2503)) (hWB : (I 2503) + 7000 * (i : Int) ≤ 1000000) (hW : c_W A i n p q) (hk : (A 27) n = 13) (hpq : 0 ≤ p ∧ q ≤ 3001) : w_W (z_P L xs) d 182 (0, [(0, .ref 39), (1, .int (Int32.ofInt (n))), (2, .int (Int32.ofInt (x)))], [], M) (cb_local_Q fr X u l I A B C M n x i p q) := by
  obtain ⟨ra_n, rb_n⟩ := r_n
  obtain ⟨ra_x, rb_x⟩ := r_x
  obtain ⟨d, rfl⟩ : ∃ d0, d = d0 + 1 := ⟨d - 1, by omega⟩
  obtain ⟨nb1, nb2⟩ := c_W_in hW
  obtain ⟨j, hj⟩ := c_W_succ hW
  have hW1 : c_W A (j + 1) n p q := by rw [← hj]; exact hW
  have hBd : c_Bd A (c_W A j) (A 29 n) p n := hW1.2.2.k11 (by omega)
  refine w_adv (n := 2) (F' := (2, [(0, .ref 39), (1, .int (Int32.ofInt (n))), (2, .int (Int32.ofInt (x)))], [.ref 39, .ref 39], M)) rfl ?_
  refine w_gf (v := .ref 26) hR rfl rfl rfl rfl ?_
  refine w_adv (n := 1) (F' := (6, [(0, .ref 39), (1, .int (Int32.ofInt (n))), (2, .int (Int32.ofInt (x)))], [.int (Int32.ofInt (n)), .ref 26, .ref 39], M)) rfl ?_
  refine w_call (cm := 145) (as := [(0, .ref 26), (1, .int (Int32.ofInt (n)))]) (rest := [.ref 39]) (o := some (8, 26)) rfl (w_fitR hR rfl) (c_Ta (n) hR (show 1 ≤ d by omega) ⟨by omega, by omega⟩) (fun r1 M2 q3 => ?_)
  rcases q3 with ⟨v4, e5, ⟨r6, r7⟩, e8, f9⟩
  rw [e5, e8]
  replace f9 : c_rd (A 28) n v4 := f9
  show w_W _ _ _ (9, [(0, .ref 39), (1, .int (Int32.ofInt (n))), (2, .int (Int32.ofInt (x)))], [.int (Int32.ofInt (v4)), .ref 39], M) _
  refine w_adv (n := 1) (F' := (10, [(0, .ref 39), (1, .int (Int32.ofInt (n))), (2, .int (Int32.ofInt (x)))], [.ref 39, .int (Int32.ofInt (v4)), .ref 39], M)) rfl ?_
  refine w_gf (v := .ref 26) hR rfl rfl rfl rfl ?_
  refine w_adv (n := 1) (F' := (14, [(0, .ref 39), (1, .int (Int32.ofInt (n))), (2, .int (Int32.ofInt (x)))], [.int (Int32.ofInt (n)), .ref 26, .int (Int32.ofInt (v4)), .ref 39], M)) rfl ?_
  refine w_call (cm := 174) (as := [(0, .ref 26), (1, .int (Int32.ofInt (n)))]) (rest := [.int (Int32.ofInt (v4)), .ref 39]) (o := some (8, 26)) rfl (w_fitR hR rfl) (c_Tc (n) hR (show 1 ≤ d by omega) ⟨by omega, by omega⟩) (fun r10 M11 q12 => ?_)
  rcases q12 with ⟨v13, e14, ⟨r15, r16⟩, e17, f18⟩
  rw [e14, e17]
  replace f18 : c_rd (A 30) n v13 := f18
  show w_W _ _ _ (17, [(0, .ref 39), (1, .int (Int32.ofInt (n))), (2, .int (Int32.ofInt (x)))], [.int (Int32.ofInt (v13)), .int (Int32.ofInt (v4)), .ref 39], M) _
  refine w_call (cm := 179) (as := [(0, .ref 39), (1, .int (Int32.ofInt (v4))), (2, .int (Int32.ofInt (v13)))]) (rest := []) (o := some (1, 39)) rfl (w_fitR hR rfl) (c_bear (v4) (v13) hR (show 4 ≤ d by omega) ⟨by omega, by omega⟩ ⟨by omega, by omega⟩ (show 0 ≤ (I 1035) ∧ (I 1035) ≤ 10000 by (repeat' apply And.intro) <;> first | assumption | omega) (show 0 ≤ (I 2503) by omega)) (fun r19 M20 q21 => ?_)
  rcases q21 with ⟨I21a, A21a, B21a, C21a, e22, hR21a, f23, f24⟩
  rw [e22]
  replace hR21a : w_Rep w_TC fr X u l I21a A21a B21a C21a M20 := hR21a
  replace f23 : c_bz I A I21a A21a 0 0 (I 2503) := f23
  replace f24 : (I21a 2503) = (I 2503) ∧ (0 ≤ (I21a 1035) ∧ (I21a 1035) ≤ 10000) ∧ (I21a 200) = (I 200) ∧ (I21a 202) = (I 202) := f24
  obtain ⟨n25, ⟨n26, n27⟩, n28, n29⟩ := id f24
  clear f24
  have bx30 : c_bz I A I21a A21a p q (I 2503) := c_bz_trans (show c_bz I A I A p q (I 2503) from c_bz_refl) f23 (Int.le_refl _) (Int.le_refl _) (show p ≤ 0 ∨ 0 ≤ 0 by omega) (show 0 ≤ q ∨ 0 ≤ 0 by omega) (Int.le_refl _) (show (I 2503) ≤ (I 2503) by omega)
  have k31 : c_Bd A21a (c_W A21a j) (A 29 n) p n := c_Bd_agr hBd (c_bz_r f23 (show n ≤ 0 ∨ 0 ≤ p ∨ 0 ≤ 0 by omega))
  show w_W _ _ _ (20, [(0, .ref 39), (1, .int (Int32.ofInt (n))), (2, .int (Int32.ofInt (x)))], [], M20) _
  refine w_adv (n := 5) (F' := (25, [(0, .ref 39), (1, .int (Int32.ofInt (n))), (2, .int (Int32.ofInt (x)))], [.ref 39, .ref 39, .int (Int32.ofInt ((-1))), .int (Int32.ofInt (2)), .ref 39], M20)) rfl ?_
  refine w_gf (v := .ref 26) hR21a rfl rfl rfl rfl ?_
  refine w_adv (n := 1) (F' := (29, [(0, .ref 39), (1, .int (Int32.ofInt (n))), (2, .int (Int32.ofInt (x)))], [.int (Int32.ofInt (n)), .ref 26, .ref 39, .int (Int32.ofInt ((-1))), .int (Int32.ofInt (2)), .ref 39], M20)) rfl ?_
  refine w_call (cm := 152) (as := [(0, .ref 26), (1, .int (Int32.ofInt (n)))]) (rest := [.ref 39, .int (Int32.ofInt ((-1))), .int (Int32.ofInt (2)), .ref 39]) (o := some (8, 26)) rfl (w_fitR hR21a rfl) (c_Tb (n) hR21a (show 1 ≤ d by omega) ⟨by omega, by omega⟩) (fun r32 M33 q34 => ?_)
  rcases q34 with ⟨v35, e36, ⟨r37, r38⟩, e39, f40⟩
  rw [e36, e39]
  replace f40 : c_rd (A21a 29) n v35 := f40
  have ev35 : v35 = (A 29 n) := (c_rd_eq f40 (by omega) (by omega)).trans (c_bz_n (show c_bz I A I21a A21a p q (I 2503) from bx30) (show A 27 n ≠ 16 from (by omega))).1
  show w_W _ _ _ (32, [(0, .ref 39), (1, .int (Int32.ofInt (n))), (2, .int (Int32.ofInt (x)))], [.int (Int32.ofInt (v35)), .ref 39, .int (Int32.ofInt ((-1))), .int (Int32.ofInt (2)), .ref 39], M20) _
  refine w_adv (n := 1) (F' := (33, [(0, .ref 39), (1, .int (Int32.ofInt (n))), (2, .int (Int32.ofInt (x)))], [.int (Int32.ofInt (x)), .int (Int32.ofInt (v35)), .ref 39, .int (Int32.ofInt ((-1))), .int (Int32.ofInt (2)), .ref 39], M20)) rfl ?_
  refine w_call (cm := 144) (as := [(0, .ref 39), (1, .int (Int32.ofInt (v35))), (2, .int (Int32.ofInt (x)))]) (rest := [.int (Int32.ofInt ((-1))), .int (Int32.ofInt (2)), .ref 39]) (o := some (1, 39)) rfl (w_fitR hR21a rfl) ((hB0 d (Nat.lt_succ_self d)).2 (v35) (x) (j) (p) (n) hR21a (show 8 * j + 7 ≤ d by omega) ⟨by omega, by omega⟩ ⟨by omega, by omega⟩ (show 0 ≤ (I21a 1035) ∧ (I21a 1035) ≤ 10000 by (repeat' apply And.intro) <;> first | assumption | omega) (show c_ks A21a by exact (show c_bz I A I21a A21a p q (I 2503) from bx30).2.2.2.2 hKS) (show 36 ≤ (I21a 200) ∧ (I21a 200) ≤ 419 ∧ 0 ≤ (I21a 202) ∧ (I21a 202) ≤ 24 by (repeat' apply And.intro) <;> first | assumption | omega) (show ∀ i, (A21a 5) i ≤ 24 by rw [show (A21a 5) = (A 5) from (show c_bz I A I21a A21a p q (I 2503) from bx30).2.1 5 rfl]; exact hLN) (show 0 ≤ (I21a 2503) by omega) (show (I21a 2503) + 7000 * (j : Int) ≤ 1000000 by first | assumption | omega) (show c_Bd A21a (c_W A21a j) v35 p n by rw [ev35]; exact k31) (show 0 ≤ p ∧ n ≤ 3002 by first | assumption | omega)) (fun r41 M42 q43 => ?_)
  rcases q43 with ⟨v44, I43a, A43a, B43a, C43a, e45, ⟨r46, r47⟩, hR43a, f48, f49⟩
  rw [e45]
  replace hR43a : w_Rep w_TC fr X u l I43a A43a B43a C43a M42 := hR43a
  replace f48 : c_bz I21a A21a I43a A43a p n (I21a 2503) := f48
  replace f49 : (I43a 2503) = (I21a 2503) ∧ (0 ≤ (I43a 1035) ∧ (I43a 1035) ≤ 10000) ∧ (I43a 200) = (I21a 200) ∧ (I43a 202) = (I21a 202) := f49
  obtain ⟨n50, ⟨n51, n52⟩, n53, n54⟩ := id f49
  clear f49
  have bx55 : c_bz I A I43a A43a p q (I 2503) := c_bz_trans (show c_bz I A I21a A21a p q (I 2503) from bx30) f48 (Int.le_refl _) (Int.le_refl _) (show p ≤ p ∨ n ≤ p by omega) (show n ≤ q ∨ n ≤ p by omega) (Int.le_refl _) (show (I 2503) ≤ (I21a 2503) by omega)
  show w_W _ _ _ (36, [(0, .ref 39), (1, .int (Int32.ofInt (n))), (2, .int (Int32.ofInt (x)))], [.int (Int32.ofInt (v44)), .int (Int32.ofInt ((-1))), .int (Int32.ofInt (2)), .ref 39], M42) _
  refine w_adv (n := 1) (F' := (37, [(0, .ref 39), (1, .int (Int32.ofInt (n))), (2, .int (Int32.ofInt (x)))], [.int (Int32.ofInt ((-1))), .int (Int32.ofInt (v44)), .int (Int32.ofInt ((-1))), .int (Int32.ofInt (2)), .ref 39], M42)) rfl ?_
  refine w_call (cm := 148) (as := [(0, .ref 39), (1, .int (Int32.ofInt (2))), (2, .int (Int32.ofInt ((-1)))), (3, .int (Int32.ofInt (v44))), (4, .int (Int32.ofInt ((-1))))]) (rest := []) (o := some (1, 39)) rfl (w_fitR hR43a rfl) (c_emit (2) ((-1)) (v44) ((-1)) hR43a (show 4 ≤ d by omega) ⟨by omega, by omega⟩ ⟨by omega, by omega⟩ ⟨by omega, by omega⟩ ⟨by omega, by omega⟩ (show 0 ≤ (I43a 1035) ∧ (I43a 1035) ≤ 10000 by (repeat' apply And.intro) <;> first | assumption | omega) (show 0 ≤ (I43a 2503) by omega)) (fun r56 M57 q58 => ?_)
  rcases q58 with ⟨I58a, A58a, B58a, C58a, e59, hR58a, f60, f61⟩
  rw [e59]
  replace hR58a : w_Rep w_TC fr X u l I58a A58a B58a C58a M57 := hR58a
  replace f60 : c_bz I43a A43a I58a A58a 0 0 (I43a 2503) := f60
  replace f61 : (I58a 2503) = (I43a 2503) ∧ (0 ≤ (I58a 1035) ∧ (I58a 1035) ≤ 10000) ∧ (I58a 200) = (I43a 200) ∧ (I58a 202) = (I43a 202) := f61
  obtain ⟨n62, ⟨n63, n64⟩, n65, n66⟩ := id f61
  clear f61
  have bx67 : c_bz I A I58a A58a p q (I 2503) := c_bz_trans (show c_bz I A I43a A43a p q (I 2503) from bx55) f60 (Int.le_refl _) (Int.le_refl _) (show p ≤ 0 ∨ 0 ≤ 0 by omega) (show 0 ≤ q ∨ 0 ≤ 0 by omega) (Int.le_refl _) (show (I 2503) ≤ (I43a 2503) by omega)
  show w_W _ _ _ (40, [(0, .ref 39), (1, .int (Int32.ofInt (n))), (2, .int (Int32.ofInt (x)))], [], M57) _
  refine w_adv (n := 2) (F' := (42, [(0, .ref 39), (1, .int (Int32.ofInt (n))), (2, .int (Int32.ofInt (x)))], [.ref 39, .ref 39], M57)) rfl ?_
  refine w_gf (v := .ref 26) hR58a rfl rfl rfl rfl ?_
  refine w_adv (n := 1) (F' := (46, [(0, .ref 39), (1, .int (Int32.ofInt (n))), (2, .int (Int32.ofInt (x)))], [.int (Int32.ofInt (n)), .ref 26, .ref 39], M57)) rfl ?_
  refine w_call (cm := 145) (as := [(0, .ref 26), (1, .int (Int32.ofInt (n)))]) (rest := [.ref 39]) (o := some (8, 26)) rfl (w_fitR hR58a rfl) (c_Ta (n) hR58a (show 1 ≤ d by omega) ⟨by omega, by omega⟩) (fun r68 M69 q70 => ?_)
  rcases q70 with ⟨v71, e72, ⟨r73, r74⟩, e75, f76⟩
  rw [e72, e75]
  replace f76 : c_rd (A58a 28) n v71 := f76
  show w_W _ _ _ (49, [(0, .ref 39), (1, .int (Int32.ofInt (n))), (2, .int (Int32.ofInt (x)))], [.int (Int32.ofInt (v71)), .ref 39], M57) _
  refine w_adv (n := 1) (F' := (50, [(0, .ref 39), (1, .int (Int32.ofInt (n))), (2, .int (Int32.ofInt (x)))], [.ref 39, .int (Int32.ofInt (v71)), .ref 39], M57)) rfl ?_
  refine w_gf (v := .ref 26) hR58a rfl rfl rfl rfl ?_
  refine w_adv (n := 1) (F' := (54, [(0, .ref 39), (1, .int (Int32.ofInt (n))), (2, .int (Int32.ofInt (x)))], [.int (Int32.ofInt (n)), .ref 26, .int (Int32.ofInt (v71)), .ref 39], M57)) rfl ?_
  refine w_call (cm := 174) (as := [(0, .ref 26), (1, .int (Int32.ofInt (n)))]) (rest := [.int (Int32.ofInt (v71)), .ref 39]) (o := some (8, 26)) rfl (w_fitR hR58a rfl) (c_Tc (n) hR58a (show 1 ≤ d by omega) ⟨by omega, by omega⟩) (fun r77 M78 q79 => ?_)
  rcases q79 with ⟨v80, e81, ⟨r82, r83⟩, e84, f85⟩
  rw [e81, e84]
  replace f85 : c_rd (A58a 30) n v80 := f85
  show w_W _ _ _ (57, [(0, .ref 39), (1, .int (Int32.ofInt (n))), (2, .int (Int32.ofInt (x)))], [.int (Int32.ofInt (v80)), .int (Int32.ofInt (v71)), .ref 39], M57) _
  refine w_call (cm := 181) (as := [(0, .ref 39), (1, .int (Int32.ofInt (v71))), (2, .int (Int32.ofInt (v80)))]) (rest := []) (o := some (1, 39)) rfl (w_fitR hR58a rfl) (c_addVariables (v71) (v80) hR58a (show 4 ≤ d by omega) ⟨by omega, by omega⟩ ⟨by omega, by omega⟩ (show 0 ≤ (I58a 1035) ∧ (I58a 1035) ≤ 10000 by (repeat' apply And.intro) <;> first | assumption | omega) (show 0 ≤ (I58a 2503) by omega)) (fun r86 M87 q88 => ?_)
  rcases q88 with ⟨I88a, A88a, B88a, C88a, e89, hR88a, f90, f91⟩
  rw [e89]
  replace hR88a : w_Rep w_TC fr X u l I88a A88a B88a C88a M87 := hR88a
  replace f90 : c_bz I58a A58a I88a A88a 0 0 (I58a 2503) := f90
  replace f91 : (I88a 2503) = (I58a 2503) ∧ (0 ≤ (I88a 1035) ∧ (I88a 1035) ≤ 10000) ∧ (I88a 200) = (I58a 200) ∧ (I88a 202) = (I58a 202) := f91
  obtain ⟨n92, ⟨n93, n94⟩, n95, n96⟩ := id f91
  clear f91
  have bx97 : c_bz I A I88a A88a p q (I 2503) := c_bz_trans (show c_bz I A I58a A58a p q (I 2503) from bx67) f90 (Int.le_refl _) (Int.le_refl _) (show p ≤ 0 ∨ 0 ≤ 0 by omega) (show 0 ≤ q ∨ 0 ≤ 0 by omega) (Int.le_refl _) (show (I 2503) ≤ (I58a 2503) by omega)
  show w_W _ _ _ (60, [(0, .ref 39), (1, .int (Int32.ofInt (n))), (2, .int (Int32.ofInt (x)))], [], M87) _
  refine w_fin (r := .inl none) (M' := M87) rfl ?_
  exact ⟨I88a, A88a, B88a, C88a, rfl, hR88a, (show c_bz I A I88a A88a p q (I 2503) by exact bx97), (show (I88a 2503) = (I 2503) ∧ (0 ≤ (I88a 1035) ∧ (I88a 1035) ≤ 10000) ∧ (I88a 200) = (I 200) ∧ (I88a 202) = (I 202) by (repeat' apply And.intro) <;> first | assumption | omega)⟩
def cb_procedure_Q (fr : Nat → Bool) (X : Nat → Option (q_C (Nat → Int32))) (u l : Nat) (I : Nat → Int) (A : Nat → Int → Int) (B C : Nat → Nat) (M : w_M) (n : Int) (x : Int) (i : Nat) (p q : Int) : w_X → w_M → Prop := fun r M' => (∃ (I' : Nat → Int) (A' : Nat → Int → Int) (B' C' : Nat → Nat), (r = .inl none) ∧ (w_Rep w_TC fr X u l I' A' B' C' M') ∧ (c_bz I A I' A' p q (I 2503)) ∧ ((I' 2503) = (I 2503) ∧ (0 ≤ (I' 1035) ∧ (I' 1035) ≤ 10000) ∧ (I' 200) = (I 200) ∧ (I' 202) = (I 202)))
set_option maxHeartbeats 100000000 in
set_option maxRecDepth 100000 in
theorem cb_procedure {L : Nat} {xs : Nat → Int32} {d : Nat} {fr : Nat → Bool} {X : Nat → Option (q_C (Nat → Int32))} {u l : Nat} {I : Nat → Int} {A : Nat → Int → Int} {B C : Nat → Nat} {M : w_M} (hB0 : c_BALL L xs d) (n : Int) (x : Int) (i : Nat) (p q : Int) (hR : w_Rep w_TC fr X u l I A B C M) (hd : 8 * i + 3 ≤ d) (r_n : w_in n) (r_x : w_in x) (hKI : 0 ≤ (I 1035) ∧ (I 1035) ≤ 10000) (hKS : c_ks A) (hNM : 36 ≤ (I 200) ∧ (I 200) ≤ 419 ∧ 0 ≤ (I 202) ∧ (I 202) ≤ 24) (hLN : ∀ i, (A 5) i ≤ 24) (hW0 : 0 ≤ (I 2503)) (hWB : (I 2503) + 7000 * (i : Int) ≤ 1000000) (hW : c_W A i n p q) (hk : (A 27) n = 11 ∨ (A 27) n = 12) (hpq : 0 ≤ p ∧ q ≤ 3001) : w_W (z_P L xs) d 178 (0, [(0, .ref 39), (1, .int (Int32.ofInt (n))), (2, .int (Int32.ofInt (x)))], [], M) (cb_procedure_Q fr X u l I A B C M n x i p q) := by
  obtain ⟨ra_n, rb_n⟩ := r_n
  obtain ⟨ra_x, rb_x⟩ := r_x
  obtain ⟨d, rfl⟩ : ∃ d0, d = d0 + 1 := ⟨d - 1, by omega⟩
  obtain ⟨nb1, nb2⟩ := c_W_in hW
  obtain ⟨j, hj⟩ := c_W_succ hW
  have hW1 : c_W A (j + 1) n p q := by rw [← hj]; exact hW
  have hBd : c_Bd A (c_W A j) (A 29 n) p n := hW1.2.2.k11 (by omega)
  refine w_adv (n := 2) (F' := (2, [(0, .ref 39), (1, .int (Int32.ofInt (n))), (2, .int (Int32.ofInt (x)))], [.ref 39, .ref 39], M)) rfl ?_
  refine w_gf (v := .ref 26) hR rfl rfl rfl rfl ?_
  refine w_adv (n := 1) (F' := (6, [(0, .ref 39), (1, .int (Int32.ofInt (n))), (2, .int (Int32.ofInt (x)))], [.int (Int32.ofInt (n)), .ref 26, .ref 39], M)) rfl ?_
  refine w_call (cm := 145) (as := [(0, .ref 26), (1, .int (Int32.ofInt (n)))]) (rest := [.ref 39]) (o := some (8, 26)) rfl (w_fitR hR rfl) (c_Ta (n) hR (show 1 ≤ d by omega) ⟨by omega, by omega⟩) (fun r1 M2 q3 => ?_)
  rcases q3 with ⟨v4, e5, ⟨r6, r7⟩, e8, f9⟩
  rw [e5, e8]
  replace f9 : c_rd (A 28) n v4 := f9
  show w_W _ _ _ (9, [(0, .ref 39), (1, .int (Int32.ofInt (n))), (2, .int (Int32.ofInt (x)))], [.int (Int32.ofInt (v4)), .ref 39], M) _
  refine w_adv (n := 1) (F' := (10, [(0, .ref 39), (1, .int (Int32.ofInt (n))), (2, .int (Int32.ofInt (x)))], [.ref 39, .int (Int32.ofInt (v4)), .ref 39], M)) rfl ?_
  refine w_gf (v := .ref 26) hR rfl rfl rfl rfl ?_
  refine w_adv (n := 1) (F' := (14, [(0, .ref 39), (1, .int (Int32.ofInt (n))), (2, .int (Int32.ofInt (x)))], [.int (Int32.ofInt (n)), .ref 26, .int (Int32.ofInt (v4)), .ref 39], M)) rfl ?_
  refine w_call (cm := 174) (as := [(0, .ref 26), (1, .int (Int32.ofInt (n)))]) (rest := [.int (Int32.ofInt (v4)), .ref 39]) (o := some (8, 26)) rfl (w_fitR hR rfl) (c_Tc (n) hR (show 1 ≤ d by omega) ⟨by omega, by omega⟩) (fun r10 M11 q12 => ?_)
  rcases q12 with ⟨v13, e14, ⟨r15, r16⟩, e17, f18⟩
  rw [e14, e17]
  replace f18 : c_rd (A 30) n v13 := f18
  show w_W _ _ _ (17, [(0, .ref 39), (1, .int (Int32.ofInt (n))), (2, .int (Int32.ofInt (x)))], [.int (Int32.ofInt (v13)), .int (Int32.ofInt (v4)), .ref 39], M) _
  refine w_call (cm := 179) (as := [(0, .ref 39), (1, .int (Int32.ofInt (v4))), (2, .int (Int32.ofInt (v13)))]) (rest := []) (o := some (1, 39)) rfl (w_fitR hR rfl) (c_bear (v4) (v13) hR (show 4 ≤ d by omega) ⟨by omega, by omega⟩ ⟨by omega, by omega⟩ (show 0 ≤ (I 1035) ∧ (I 1035) ≤ 10000 by (repeat' apply And.intro) <;> first | assumption | omega) (show 0 ≤ (I 2503) by omega)) (fun r19 M20 q21 => ?_)
  rcases q21 with ⟨I21a, A21a, B21a, C21a, e22, hR21a, f23, f24⟩
  rw [e22]
  replace hR21a : w_Rep w_TC fr X u l I21a A21a B21a C21a M20 := hR21a
  replace f23 : c_bz I A I21a A21a 0 0 (I 2503) := f23
  replace f24 : (I21a 2503) = (I 2503) ∧ (0 ≤ (I21a 1035) ∧ (I21a 1035) ≤ 10000) ∧ (I21a 200) = (I 200) ∧ (I21a 202) = (I 202) := f24
  obtain ⟨n25, ⟨n26, n27⟩, n28, n29⟩ := id f24
  clear f24
  have bx30 : c_bz I A I21a A21a p q (I 2503) := c_bz_trans (show c_bz I A I A p q (I 2503) from c_bz_refl) f23 (Int.le_refl _) (Int.le_refl _) (show p ≤ 0 ∨ 0 ≤ 0 by omega) (show 0 ≤ q ∨ 0 ≤ 0 by omega) (Int.le_refl _) (show (I 2503) ≤ (I 2503) by omega)
  have k31 : c_Bd A21a (c_W A21a j) (A 29 n) p n := c_Bd_agr hBd (c_bz_r f23 (show n ≤ 0 ∨ 0 ≤ p ∨ 0 ≤ 0 by omega))
  show w_W _ _ _ (20, [(0, .ref 39), (1, .int (Int32.ofInt (n))), (2, .int (Int32.ofInt (x)))], [], M20) _
  refine w_adv (n := 1) (F' := (21, [(0, .ref 39), (1, .int (Int32.ofInt (n))), (2, .int (Int32.ofInt (x)))], [.ref 39], M20)) rfl ?_
  refine w_gf (v := .ref 26) hR21a rfl rfl rfl rfl ?_
  refine w_adv (n := 1) (F' := (25, [(0, .ref 39), (1, .int (Int32.ofInt (n))), (2, .int (Int32.ofInt (x)))], [.int (Int32.ofInt (n)), .ref 26], M20)) rfl ?_
  refine w_call (cm := 135) (as := [(0, .ref 26), (1, .int (Int32.ofInt (n)))]) (rest := []) (o := some (8, 26)) rfl (w_fitR hR21a rfl) (c_Tkind (n) hR21a (show 1 ≤ d by omega) ⟨by omega, by omega⟩) (fun r32 M33 q34 => ?_)
  rcases q34 with ⟨v35, e36, ⟨r37, r38⟩, e39, f40⟩
  rw [e36, e39]
  replace f40 : c_rd (A21a 27) n v35 := f40
  show w_W _ _ _ (28, [(0, .ref 39), (1, .int (Int32.ofInt (n))), (2, .int (Int32.ofInt (x)))], [.int (Int32.ofInt (v35))], M20) _
  refine w_adv (n := 1) (F' := (30, [(0, .ref 39), (1, .int (Int32.ofInt (n))), (2, .int (Int32.ofInt (x)))], [.int (Int32.ofInt (12)), .int (Int32.ofInt (v35))], M20)) rfl ?_
  refine w_br2 (a := v35) (b := 12) rfl rfl ⟨by omega, by omega⟩ ⟨by omega, by omega⟩ (fun h41 => ?_) (fun h41 => ?_)
  · have h41 : ¬ v35 = 12 := h41
    show w_W _ _ _ (44, [(0, .ref 39), (1, .int (Int32.ofInt (n))), (2, .int (Int32.ofInt (x)))], [], M20) _
    refine w_adv (n := 7) (F' := (52, [(3, .int (Int32.ofInt ((-1)))), (0, .ref 39), (1, .int (Int32.ofInt (n))), (2, .int (Int32.ofInt (x)))], [.ref 39, .ref 39, .int (Int32.ofInt (x)), .int (Int32.ofInt (7)), .ref 39], M20)) rfl ?_
    refine w_gf (v := .ref 26) hR21a rfl rfl rfl rfl ?_
    refine w_adv (n := 1) (F' := (56, [(3, .int (Int32.ofInt ((-1)))), (0, .ref 39), (1, .int (Int32.ofInt (n))), (2, .int (Int32.ofInt (x)))], [.int (Int32.ofInt (n)), .ref 26, .ref 39, .int (Int32.ofInt (x)), .int (Int32.ofInt (7)), .ref 39], M20)) rfl ?_
    refine w_call (cm := 152) (as := [(0, .ref 26), (1, .int (Int32.ofInt (n)))]) (rest := [.ref 39, .int (Int32.ofInt (x)), .int (Int32.ofInt (7)), .ref 39]) (o := some (8, 26)) rfl (w_fitR hR21a rfl) (c_Tb (n) hR21a (show 1 ≤ d by omega) ⟨by omega, by omega⟩) (fun r42 M43 q44 => ?_)
    rcases q44 with ⟨v45, e46, ⟨r47, r48⟩, e49, f50⟩
    rw [e46, e49]
    replace f50 : c_rd (A21a 29) n v45 := f50
    have ev45 : v45 = (A 29 n) := (c_rd_eq f50 (by omega) (by omega)).trans (c_bz_n (show c_bz I A I21a A21a p q (I 2503) from bx30) (show A 27 n ≠ 16 from (by omega))).1
    show w_W _ _ _ (59, [(3, .int (Int32.ofInt ((-1)))), (0, .ref 39), (1, .int (Int32.ofInt (n))), (2, .int (Int32.ofInt (x)))], [.int (Int32.ofInt (v45)), .ref 39, .int (Int32.ofInt (x)), .int (Int32.ofInt (7)), .ref 39], M20) _
    refine w_adv (n := 1) (F' := (60, [(3, .int (Int32.ofInt ((-1)))), (0, .ref 39), (1, .int (Int32.ofInt (n))), (2, .int (Int32.ofInt (x)))], [.int (Int32.ofInt ((-1))), .int (Int32.ofInt (v45)), .ref 39, .int (Int32.ofInt (x)), .int (Int32.ofInt (7)), .ref 39], M20)) rfl ?_
    refine w_call (cm := 144) (as := [(0, .ref 39), (1, .int (Int32.ofInt (v45))), (2, .int (Int32.ofInt ((-1))))]) (rest := [.int (Int32.ofInt (x)), .int (Int32.ofInt (7)), .ref 39]) (o := some (1, 39)) rfl (w_fitR hR21a rfl) ((hB0 d (Nat.lt_succ_self d)).2 (v45) ((-1)) (j) (p) (n) hR21a (show 8 * j + 7 ≤ d by omega) ⟨by omega, by omega⟩ ⟨by omega, by omega⟩ (show 0 ≤ (I21a 1035) ∧ (I21a 1035) ≤ 10000 by (repeat' apply And.intro) <;> first | assumption | omega) (show c_ks A21a by exact (show c_bz I A I21a A21a p q (I 2503) from bx30).2.2.2.2 hKS) (show 36 ≤ (I21a 200) ∧ (I21a 200) ≤ 419 ∧ 0 ≤ (I21a 202) ∧ (I21a 202) ≤ 24 by (repeat' apply And.intro) <;> first | assumption | omega) (show ∀ i, (A21a 5) i ≤ 24 by rw [show (A21a 5) = (A 5) from (show c_bz I A I21a A21a p q (I 2503) from bx30).2.1 5 rfl]; exact hLN) (show 0 ≤ (I21a 2503) by omega) (show (I21a 2503) + 7000 * (j : Int) ≤ 1000000 by first | assumption | omega) (show c_Bd A21a (c_W A21a j) v45 p n by rw [ev45]; exact k31) (show 0 ≤ p ∧ n ≤ 3002 by first | assumption | omega)) (fun r51 M52 q53 => ?_)
    rcases q53 with ⟨v54, I53a, A53a, B53a, C53a, e55, ⟨r56, r57⟩, hR53a, f58, f59⟩
    rw [e55]
    replace hR53a : w_Rep w_TC fr X u l I53a A53a B53a C53a M52 := hR53a
    replace f58 : c_bz I21a A21a I53a A53a p n (I21a 2503) := f58
    replace f59 : (I53a 2503) = (I21a 2503) ∧ (0 ≤ (I53a 1035) ∧ (I53a 1035) ≤ 10000) ∧ (I53a 200) = (I21a 200) ∧ (I53a 202) = (I21a 202) := f59
    obtain ⟨n60, ⟨n61, n62⟩, n63, n64⟩ := id f59
    clear f59
    have bx65 : c_bz I A I53a A53a p q (I 2503) := c_bz_trans (show c_bz I A I21a A21a p q (I 2503) from bx30) f58 (Int.le_refl _) (Int.le_refl _) (show p ≤ p ∨ n ≤ p by omega) (show n ≤ q ∨ n ≤ p by omega) (Int.le_refl _) (show (I 2503) ≤ (I21a 2503) by omega)
    show w_W _ _ _ (63, [(3, .int (Int32.ofInt ((-1)))), (0, .ref 39), (1, .int (Int32.ofInt (n))), (2, .int (Int32.ofInt (x)))], [.int (Int32.ofInt (v54)), .int (Int32.ofInt (x)), .int (Int32.ofInt (7)), .ref 39], M52) _
    refine w_adv (n := 1) (F' := (64, [(3, .int (Int32.ofInt ((-1)))), (0, .ref 39), (1, .int (Int32.ofInt (n))), (2, .int (Int32.ofInt (x)))], [.int (Int32.ofInt ((-1))), .int (Int32.ofInt (v54)), .int (Int32.ofInt (x)), .int (Int32.ofInt (7)), .ref 39], M52)) rfl ?_
    refine w_call (cm := 148) (as := [(0, .ref 39), (1, .int (Int32.ofInt (7))), (2, .int (Int32.ofInt (x))), (3, .int (Int32.ofInt (v54))), (4, .int (Int32.ofInt ((-1))))]) (rest := []) (o := some (1, 39)) rfl (w_fitR hR53a rfl) (c_emit (7) (x) (v54) ((-1)) hR53a (show 4 ≤ d by omega) ⟨by omega, by omega⟩ ⟨by omega, by omega⟩ ⟨by omega, by omega⟩ ⟨by omega, by omega⟩ (show 0 ≤ (I53a 1035) ∧ (I53a 1035) ≤ 10000 by (repeat' apply And.intro) <;> first | assumption | omega) (show 0 ≤ (I53a 2503) by omega)) (fun r66 M67 q68 => ?_)
    rcases q68 with ⟨I68a, A68a, B68a, C68a, e69, hR68a, f70, f71⟩
    rw [e69]
    replace hR68a : w_Rep w_TC fr X u l I68a A68a B68a C68a M67 := hR68a
    replace f70 : c_bz I53a A53a I68a A68a 0 0 (I53a 2503) := f70
    replace f71 : (I68a 2503) = (I53a 2503) ∧ (0 ≤ (I68a 1035) ∧ (I68a 1035) ≤ 10000) ∧ (I68a 200) = (I53a 200) ∧ (I68a 202) = (I53a 202) := f71
    obtain ⟨n72, ⟨n73, n74⟩, n75, n76⟩ := id f71
    clear f71
    have bx77 : c_bz I A I68a A68a p q (I 2503) := c_bz_trans (show c_bz I A I53a A53a p q (I 2503) from bx65) f70 (Int.le_refl _) (Int.le_refl _) (show p ≤ 0 ∨ 0 ≤ 0 by omega) (show 0 ≤ q ∨ 0 ≤ 0 by omega) (Int.le_refl _) (show (I 2503) ≤ (I53a 2503) by omega)
    show w_W _ _ _ (67, [(3, .int (Int32.ofInt ((-1)))), (0, .ref 39), (1, .int (Int32.ofInt (n))), (2, .int (Int32.ofInt (x)))], [], M67) _
    refine w_adv (n := 2) (F' := (69, [(3, .int (Int32.ofInt ((-1)))), (0, .ref 39), (1, .int (Int32.ofInt (n))), (2, .int (Int32.ofInt (x)))], [.ref 39, .ref 39], M67)) rfl ?_
    refine w_gf (v := .ref 26) hR68a rfl rfl rfl rfl ?_
    refine w_adv (n := 1) (F' := (73, [(3, .int (Int32.ofInt ((-1)))), (0, .ref 39), (1, .int (Int32.ofInt (n))), (2, .int (Int32.ofInt (x)))], [.int (Int32.ofInt (n)), .ref 26, .ref 39], M67)) rfl ?_
    refine w_call (cm := 145) (as := [(0, .ref 26), (1, .int (Int32.ofInt (n)))]) (rest := [.ref 39]) (o := some (8, 26)) rfl (w_fitR hR68a rfl) (c_Ta (n) hR68a (show 1 ≤ d by omega) ⟨by omega, by omega⟩) (fun r78 M79 q80 => ?_)
    rcases q80 with ⟨v81, e82, ⟨r83, r84⟩, e85, f86⟩
    rw [e82, e85]
    replace f86 : c_rd (A68a 28) n v81 := f86
    show w_W _ _ _ (76, [(3, .int (Int32.ofInt ((-1)))), (0, .ref 39), (1, .int (Int32.ofInt (n))), (2, .int (Int32.ofInt (x)))], [.int (Int32.ofInt (v81)), .ref 39], M67) _
    refine w_adv (n := 1) (F' := (77, [(3, .int (Int32.ofInt ((-1)))), (0, .ref 39), (1, .int (Int32.ofInt (n))), (2, .int (Int32.ofInt (x)))], [.ref 39, .int (Int32.ofInt (v81)), .ref 39], M67)) rfl ?_
    refine w_gf (v := .ref 26) hR68a rfl rfl rfl rfl ?_
    refine w_adv (n := 1) (F' := (81, [(3, .int (Int32.ofInt ((-1)))), (0, .ref 39), (1, .int (Int32.ofInt (n))), (2, .int (Int32.ofInt (x)))], [.int (Int32.ofInt (n)), .ref 26, .int (Int32.ofInt (v81)), .ref 39], M67)) rfl ?_
    refine w_call (cm := 174) (as := [(0, .ref 26), (1, .int (Int32.ofInt (n)))]) (rest := [.int (Int32.ofInt (v81)), .ref 39]) (o := some (8, 26)) rfl (w_fitR hR68a rfl) (c_Tc (n) hR68a (show 1 ≤ d by omega) ⟨by omega, by omega⟩) (fun r87 M88 q89 => ?_)
    rcases q89 with ⟨v90, e91, ⟨r92, r93⟩, e94, f95⟩
    rw [e91, e94]
    replace f95 : c_rd (A68a 30) n v90 := f95
    show w_W _ _ _ (84, [(3, .int (Int32.ofInt ((-1)))), (0, .ref 39), (1, .int (Int32.ofInt (n))), (2, .int (Int32.ofInt (x)))], [.int (Int32.ofInt (v90)), .int (Int32.ofInt (v81)), .ref 39], M67) _
    refine w_call (cm := 181) (as := [(0, .ref 39), (1, .int (Int32.ofInt (v81))), (2, .int (Int32.ofInt (v90)))]) (rest := []) (o := some (1, 39)) rfl (w_fitR hR68a rfl) (c_addVariables (v81) (v90) hR68a (show 4 ≤ d by omega) ⟨by omega, by omega⟩ ⟨by omega, by omega⟩ (show 0 ≤ (I68a 1035) ∧ (I68a 1035) ≤ 10000 by (repeat' apply And.intro) <;> first | assumption | omega) (show 0 ≤ (I68a 2503) by omega)) (fun r96 M97 q98 => ?_)
    rcases q98 with ⟨I98a, A98a, B98a, C98a, e99, hR98a, f100, f101⟩
    rw [e99]
    replace hR98a : w_Rep w_TC fr X u l I98a A98a B98a C98a M97 := hR98a
    replace f100 : c_bz I68a A68a I98a A98a 0 0 (I68a 2503) := f100
    replace f101 : (I98a 2503) = (I68a 2503) ∧ (0 ≤ (I98a 1035) ∧ (I98a 1035) ≤ 10000) ∧ (I98a 200) = (I68a 200) ∧ (I98a 202) = (I68a 202) := f101
    obtain ⟨n102, ⟨n103, n104⟩, n105, n106⟩ := id f101
    clear f101
    have bx107 : c_bz I A I98a A98a p q (I 2503) := c_bz_trans (show c_bz I A I68a A68a p q (I 2503) from bx77) f100 (Int.le_refl _) (Int.le_refl _) (show p ≤ 0 ∨ 0 ≤ 0 by omega) (show 0 ≤ q ∨ 0 ≤ 0 by omega) (Int.le_refl _) (show (I 2503) ≤ (I68a 2503) by omega)
    show w_W _ _ _ (87, [(3, .int (Int32.ofInt ((-1)))), (0, .ref 39), (1, .int (Int32.ofInt (n))), (2, .int (Int32.ofInt (x)))], [], M97) _
    refine w_adv (n := 3) (F' := (100, [(3, .int (Int32.ofInt ((-1)))), (0, .ref 39), (1, .int (Int32.ofInt (n))), (2, .int (Int32.ofInt (x)))], [], M97)) rfl ?_
    refine w_fin (r := .inl none) (M' := M97) rfl ?_
    exact ⟨I98a, A98a, B98a, C98a, rfl, hR98a, (show c_bz I A I98a A98a p q (I 2503) by exact bx107), (show (I98a 2503) = (I 2503) ∧ (0 ≤ (I98a 1035) ∧ (I98a 1035) ≤ 10000) ∧ (I98a 200) = (I 200) ∧ (I98a 202) = (I 202) by (repeat' apply And.intro) <;> first | assumption | omega)⟩
  · have h41 : ¬ (¬ v35 = 12) := h41
    show w_W _ _ _ (33, [(0, .ref 39), (1, .int (Int32.ofInt (n))), (2, .int (Int32.ofInt (x)))], [], M20) _
    refine w_adv (n := 1) (F' := (34, [(0, .ref 39), (1, .int (Int32.ofInt (n))), (2, .int (Int32.ofInt (x)))], [.ref 39], M20)) rfl ?_
    refine w_gf (v := .ref 16) hR21a rfl rfl rfl rfl ?_
    refine w_adv (n := 1) (F' := (38, [(0, .ref 39), (1, .int (Int32.ofInt (n))), (2, .int (Int32.ofInt (x)))], [.int (Int32.ofInt ((-1))), .ref 16], M20)) rfl ?_
    refine w_call (cm := 31) (as := [(0, .ref 16), (1, .int (Int32.ofInt ((-1))))]) (rest := []) (o := some (2, 16)) rfl (w_fitR hR21a rfl) (c_kmv ((-1)) hR21a (show 2 ≤ d by omega) ⟨by omega, by omega⟩ (show 0 ≤ (I21a 1035) ∧ (I21a 1035) ≤ 10000 by (repeat' apply And.intro) <;> first | assumption | omega) (show 0 ≤ (I21a 2503) by omega)) (fun r108 M109 q110 => ?_)
    rcases q110 with ⟨v111, I110a, A110a, B110a, C110a, e112, ⟨r113, r114⟩, hR110a, f115, f116, f117⟩
    rw [e112]
    replace hR110a : w_Rep w_TC fr X u l I110a A110a B110a C110a M109 := hR110a
    replace f115 : c_bz I21a A21a I110a A110a 0 0 (I21a 2503) := f115
    replace f116 : (I110a 2503) = (I21a 2503) ∧ (0 ≤ (I110a 1035) ∧ (I110a 1035) ≤ 10000) ∧ (I110a 200) = (I21a 200) ∧ (I110a 202) = (I21a 202) := f116
    obtain ⟨n118, ⟨n119, n120⟩, n121, n122⟩ := id f116
    clear f116
    replace f117 : (I110a 2502) = (I21a 2502) := f117
    have bx123 : c_bz I A I110a A110a p q (I 2503) := c_bz_trans (show c_bz I A I21a A21a p q (I 2503) from bx30) f115 (Int.le_refl _) (Int.le_refl _) (show p ≤ 0 ∨ 0 ≤ 0 by omega) (show 0 ≤ q ∨ 0 ≤ 0 by omega) (Int.le_refl _) (show (I 2503) ≤ (I21a 2503) by omega)
    have k124 : c_Bd A110a (c_W A110a j) (A 29 n) p n := c_Bd_agr k31 (c_bz_r f115 (show n ≤ 0 ∨ 0 ≤ p ∨ 0 ≤ 0 by omega))
    show w_W _ _ _ (41, [(0, .ref 39), (1, .int (Int32.ofInt (n))), (2, .int (Int32.ofInt (x)))], [.int (Int32.ofInt (v111))], M109) _
    refine w_adv (n := 7) (F' := (52, [(3, .int (Int32.ofInt (v111))), (0, .ref 39), (1, .int (Int32.ofInt (n))), (2, .int (Int32.ofInt (x)))], [.ref 39, .ref 39, .int (Int32.ofInt (x)), .int (Int32.ofInt (7)), .ref 39], M109)) rfl ?_
    refine w_gf (v := .ref 26) hR110a rfl rfl rfl rfl ?_
    refine w_adv (n := 1) (F' := (56, [(3, .int (Int32.ofInt (v111))), (0, .ref 39), (1, .int (Int32.ofInt (n))), (2, .int (Int32.ofInt (x)))], [.int (Int32.ofInt (n)), .ref 26, .ref 39, .int (Int32.ofInt (x)), .int (Int32.ofInt (7)), .ref 39], M109)) rfl ?_
    refine w_call (cm := 152) (as := [(0, .ref 26), (1, .int (Int32.ofInt (n)))]) (rest := [.ref 39, .int (Int32.ofInt (x)), .int (Int32.ofInt (7)), .ref 39]) (o := some (8, 26)) rfl (w_fitR hR110a rfl) (c_Tb (n) hR110a (show 1 ≤ d by omega) ⟨by omega, by omega⟩) (fun r125 M126 q127 => ?_)
    rcases q127 with ⟨v128, e129, ⟨r130, r131⟩, e132, f133⟩
    rw [e129, e132]
    replace f133 : c_rd (A110a 29) n v128 := f133
    have ev128 : v128 = (A 29 n) := (c_rd_eq f133 (by omega) (by omega)).trans (c_bz_n (show c_bz I A I110a A110a p q (I 2503) from bx123) (show A 27 n ≠ 16 from (by omega))).1
    show w_W _ _ _ (59, [(3, .int (Int32.ofInt (v111))), (0, .ref 39), (1, .int (Int32.ofInt (n))), (2, .int (Int32.ofInt (x)))], [.int (Int32.ofInt (v128)), .ref 39, .int (Int32.ofInt (x)), .int (Int32.ofInt (7)), .ref 39], M109) _
    refine w_adv (n := 1) (F' := (60, [(3, .int (Int32.ofInt (v111))), (0, .ref 39), (1, .int (Int32.ofInt (n))), (2, .int (Int32.ofInt (x)))], [.int (Int32.ofInt (v111)), .int (Int32.ofInt (v128)), .ref 39, .int (Int32.ofInt (x)), .int (Int32.ofInt (7)), .ref 39], M109)) rfl ?_
    refine w_call (cm := 144) (as := [(0, .ref 39), (1, .int (Int32.ofInt (v128))), (2, .int (Int32.ofInt (v111)))]) (rest := [.int (Int32.ofInt (x)), .int (Int32.ofInt (7)), .ref 39]) (o := some (1, 39)) rfl (w_fitR hR110a rfl) ((hB0 d (Nat.lt_succ_self d)).2 (v128) (v111) (j) (p) (n) hR110a (show 8 * j + 7 ≤ d by omega) ⟨by omega, by omega⟩ ⟨by omega, by omega⟩ (show 0 ≤ (I110a 1035) ∧ (I110a 1035) ≤ 10000 by (repeat' apply And.intro) <;> first | assumption | omega) (show c_ks A110a by exact (show c_bz I A I110a A110a p q (I 2503) from bx123).2.2.2.2 hKS) (show 36 ≤ (I110a 200) ∧ (I110a 200) ≤ 419 ∧ 0 ≤ (I110a 202) ∧ (I110a 202) ≤ 24 by (repeat' apply And.intro) <;> first | assumption | omega) (show ∀ i, (A110a 5) i ≤ 24 by rw [show (A110a 5) = (A 5) from (show c_bz I A I110a A110a p q (I 2503) from bx123).2.1 5 rfl]; exact hLN) (show 0 ≤ (I110a 2503) by omega) (show (I110a 2503) + 7000 * (j : Int) ≤ 1000000 by first | assumption | omega) (show c_Bd A110a (c_W A110a j) v128 p n by rw [ev128]; exact k124) (show 0 ≤ p ∧ n ≤ 3002 by first | assumption | omega)) (fun r134 M135 q136 => ?_)
    rcases q136 with ⟨v137, I136a, A136a, B136a, C136a, e138, ⟨r139, r140⟩, hR136a, f141, f142⟩
    rw [e138]
    replace hR136a : w_Rep w_TC fr X u l I136a A136a B136a C136a M135 := hR136a
    replace f141 : c_bz I110a A110a I136a A136a p n (I110a 2503) := f141
    replace f142 : (I136a 2503) = (I110a 2503) ∧ (0 ≤ (I136a 1035) ∧ (I136a 1035) ≤ 10000) ∧ (I136a 200) = (I110a 200) ∧ (I136a 202) = (I110a 202) := f142
    obtain ⟨n143, ⟨n144, n145⟩, n146, n147⟩ := id f142
    clear f142
    have bx148 : c_bz I A I136a A136a p q (I 2503) := c_bz_trans (show c_bz I A I110a A110a p q (I 2503) from bx123) f141 (Int.le_refl _) (Int.le_refl _) (show p ≤ p ∨ n ≤ p by omega) (show n ≤ q ∨ n ≤ p by omega) (Int.le_refl _) (show (I 2503) ≤ (I110a 2503) by omega)
    show w_W _ _ _ (63, [(3, .int (Int32.ofInt (v111))), (0, .ref 39), (1, .int (Int32.ofInt (n))), (2, .int (Int32.ofInt (x)))], [.int (Int32.ofInt (v137)), .int (Int32.ofInt (x)), .int (Int32.ofInt (7)), .ref 39], M135) _
    refine w_adv (n := 1) (F' := (64, [(3, .int (Int32.ofInt (v111))), (0, .ref 39), (1, .int (Int32.ofInt (n))), (2, .int (Int32.ofInt (x)))], [.int (Int32.ofInt ((-1))), .int (Int32.ofInt (v137)), .int (Int32.ofInt (x)), .int (Int32.ofInt (7)), .ref 39], M135)) rfl ?_
    refine w_call (cm := 148) (as := [(0, .ref 39), (1, .int (Int32.ofInt (7))), (2, .int (Int32.ofInt (x))), (3, .int (Int32.ofInt (v137))), (4, .int (Int32.ofInt ((-1))))]) (rest := []) (o := some (1, 39)) rfl (w_fitR hR136a rfl) (c_emit (7) (x) (v137) ((-1)) hR136a (show 4 ≤ d by omega) ⟨by omega, by omega⟩ ⟨by omega, by omega⟩ ⟨by omega, by omega⟩ ⟨by omega, by omega⟩ (show 0 ≤ (I136a 1035) ∧ (I136a 1035) ≤ 10000 by (repeat' apply And.intro) <;> first | assumption | omega) (show 0 ≤ (I136a 2503) by omega)) (fun r149 M150 q151 => ?_)
    rcases q151 with ⟨I151a, A151a, B151a, C151a, e152, hR151a, f153, f154⟩
    rw [e152]
    replace hR151a : w_Rep w_TC fr X u l I151a A151a B151a C151a M150 := hR151a
    replace f153 : c_bz I136a A136a I151a A151a 0 0 (I136a 2503) := f153
    replace f154 : (I151a 2503) = (I136a 2503) ∧ (0 ≤ (I151a 1035) ∧ (I151a 1035) ≤ 10000) ∧ (I151a 200) = (I136a 200) ∧ (I151a 202) = (I136a 202) := f154
    obtain ⟨n155, ⟨n156, n157⟩, n158, n159⟩ := id f154
    clear f154
    have bx160 : c_bz I A I151a A151a p q (I 2503) := c_bz_trans (show c_bz I A I136a A136a p q (I 2503) from bx148) f153 (Int.le_refl _) (Int.le_refl _) (show p ≤ 0 ∨ 0 ≤ 0 by omega) (show 0 ≤ q ∨ 0 ≤ 0 by omega) (Int.le_refl _) (show (I 2503) ≤ (I136a 2503) by omega)
    show w_W _ _ _ (67, [(3, .int (Int32.ofInt (v111))), (0, .ref 39), (1, .int (Int32.ofInt (n))), (2, .int (Int32.ofInt (x)))], [], M150) _
    refine w_adv (n := 2) (F' := (69, [(3, .int (Int32.ofInt (v111))), (0, .ref 39), (1, .int (Int32.ofInt (n))), (2, .int (Int32.ofInt (x)))], [.ref 39, .ref 39], M150)) rfl ?_
    refine w_gf (v := .ref 26) hR151a rfl rfl rfl rfl ?_
    refine w_adv (n := 1) (F' := (73, [(3, .int (Int32.ofInt (v111))), (0, .ref 39), (1, .int (Int32.ofInt (n))), (2, .int (Int32.ofInt (x)))], [.int (Int32.ofInt (n)), .ref 26, .ref 39], M150)) rfl ?_
    refine w_call (cm := 145) (as := [(0, .ref 26), (1, .int (Int32.ofInt (n)))]) (rest := [.ref 39]) (o := some (8, 26)) rfl (w_fitR hR151a rfl) (c_Ta (n) hR151a (show 1 ≤ d by omega) ⟨by omega, by omega⟩) (fun r161 M162 q163 => ?_)
    rcases q163 with ⟨v164, e165, ⟨r166, r167⟩, e168, f169⟩
    rw [e165, e168]
    replace f169 : c_rd (A151a 28) n v164 := f169
    show w_W _ _ _ (76, [(3, .int (Int32.ofInt (v111))), (0, .ref 39), (1, .int (Int32.ofInt (n))), (2, .int (Int32.ofInt (x)))], [.int (Int32.ofInt (v164)), .ref 39], M150) _
    refine w_adv (n := 1) (F' := (77, [(3, .int (Int32.ofInt (v111))), (0, .ref 39), (1, .int (Int32.ofInt (n))), (2, .int (Int32.ofInt (x)))], [.ref 39, .int (Int32.ofInt (v164)), .ref 39], M150)) rfl ?_
    refine w_gf (v := .ref 26) hR151a rfl rfl rfl rfl ?_
    refine w_adv (n := 1) (F' := (81, [(3, .int (Int32.ofInt (v111))), (0, .ref 39), (1, .int (Int32.ofInt (n))), (2, .int (Int32.ofInt (x)))], [.int (Int32.ofInt (n)), .ref 26, .int (Int32.ofInt (v164)), .ref 39], M150)) rfl ?_
    refine w_call (cm := 174) (as := [(0, .ref 26), (1, .int (Int32.ofInt (n)))]) (rest := [.int (Int32.ofInt (v164)), .ref 39]) (o := some (8, 26)) rfl (w_fitR hR151a rfl) (c_Tc (n) hR151a (show 1 ≤ d by omega) ⟨by omega, by omega⟩) (fun r170 M171 q172 => ?_)
    rcases q172 with ⟨v173, e174, ⟨r175, r176⟩, e177, f178⟩
    rw [e174, e177]
    replace f178 : c_rd (A151a 30) n v173 := f178
    show w_W _ _ _ (84, [(3, .int (Int32.ofInt (v111))), (0, .ref 39), (1, .int (Int32.ofInt (n))), (2, .int (Int32.ofInt (x)))], [.int (Int32.ofInt (v173)), .int (Int32.ofInt (v164)), .ref 39], M150) _
    refine w_call (cm := 181) (as := [(0, .ref 39), (1, .int (Int32.ofInt (v164))), (2, .int (Int32.ofInt (v173)))]) (rest := []) (o := some (1, 39)) rfl (w_fitR hR151a rfl) (c_addVariables (v164) (v173) hR151a (show 4 ≤ d by omega) ⟨by omega, by omega⟩ ⟨by omega, by omega⟩ (show 0 ≤ (I151a 1035) ∧ (I151a 1035) ≤ 10000 by (repeat' apply And.intro) <;> first | assumption | omega) (show 0 ≤ (I151a 2503) by omega)) (fun r179 M180 q181 => ?_)
    rcases q181 with ⟨I181a, A181a, B181a, C181a, e182, hR181a, f183, f184⟩
    rw [e182]
    replace hR181a : w_Rep w_TC fr X u l I181a A181a B181a C181a M180 := hR181a
    replace f183 : c_bz I151a A151a I181a A181a 0 0 (I151a 2503) := f183
    replace f184 : (I181a 2503) = (I151a 2503) ∧ (0 ≤ (I181a 1035) ∧ (I181a 1035) ≤ 10000) ∧ (I181a 200) = (I151a 200) ∧ (I181a 202) = (I151a 202) := f184
    obtain ⟨n185, ⟨n186, n187⟩, n188, n189⟩ := id f184
    clear f184
    have bx190 : c_bz I A I181a A181a p q (I 2503) := c_bz_trans (show c_bz I A I151a A151a p q (I 2503) from bx160) f183 (Int.le_refl _) (Int.le_refl _) (show p ≤ 0 ∨ 0 ≤ 0 by omega) (show 0 ≤ q ∨ 0 ≤ 0 by omega) (Int.le_refl _) (show (I 2503) ≤ (I151a 2503) by omega)
    show w_W _ _ _ (87, [(3, .int (Int32.ofInt (v111))), (0, .ref 39), (1, .int (Int32.ofInt (n))), (2, .int (Int32.ofInt (x)))], [], M180) _
    refine w_adv (n := 2) (F' := (89, [(3, .int (Int32.ofInt (v111))), (0, .ref 39), (1, .int (Int32.ofInt (n))), (2, .int (Int32.ofInt (x)))], [.int (Int32.ofInt ((-1))), .int (Int32.ofInt (v111))], M180)) rfl ?_
    refine w_br2 (a := v111) (b := (-1)) rfl rfl ⟨by omega, by omega⟩ ⟨by omega, by omega⟩ (fun h191 => ?_) (fun h191 => ?_)
    · have h191 : v111 = (-1) := h191
      show w_W _ _ _ (100, [(3, .int (Int32.ofInt (v111))), (0, .ref 39), (1, .int (Int32.ofInt (n))), (2, .int (Int32.ofInt (x)))], [], M180) _
      refine w_fin (r := .inl none) (M' := M180) rfl ?_
      exact ⟨I181a, A181a, B181a, C181a, rfl, hR181a, (show c_bz I A I181a A181a p q (I 2503) by exact bx190), (show (I181a 2503) = (I 2503) ∧ (0 ≤ (I181a 1035) ∧ (I181a 1035) ≤ 10000) ∧ (I181a 200) = (I 200) ∧ (I181a 202) = (I 202) by (repeat' apply And.intro) <;> first | assumption | omega)⟩
    · have h191 : ¬ (v111 = (-1)) := h191
      show w_W _ _ _ (92, [(3, .int (Int32.ofInt (v111))), (0, .ref 39), (1, .int (Int32.ofInt (n))), (2, .int (Int32.ofInt (x)))], [], M180) _
      refine w_adv (n := 1) (F' := (93, [(3, .int (Int32.ofInt (v111))), (0, .ref 39), (1, .int (Int32.ofInt (n))), (2, .int (Int32.ofInt (x)))], [.ref 39], M180)) rfl ?_
      refine w_gf (v := .ref 16) hR181a rfl rfl rfl rfl ?_
      refine w_adv (n := 1) (F' := (97, [(3, .int (Int32.ofInt (v111))), (0, .ref 39), (1, .int (Int32.ofInt (n))), (2, .int (Int32.ofInt (x)))], [.int (Int32.ofInt (v111)), .ref 16], M180)) rfl ?_
      refine w_call (cm := 164) (as := [(0, .ref 16), (1, .int (Int32.ofInt (v111)))]) (rest := []) (o := some (2, 16)) rfl (w_fitR hR181a rfl) (c_kad (v111) hR181a (show 1 ≤ d by omega) ⟨by omega, by omega⟩ (show 0 ≤ (I181a 1035) ∧ (I181a 1035) ≤ 10000 by (repeat' apply And.intro) <;> first | assumption | omega) (show 0 ≤ (I181a 2503) by omega)) (fun r192 M193 q194 => ?_)
      rcases q194 with ⟨I194a, A194a, B194a, C194a, e195, hR194a, f196, f197, f198⟩
      rw [e195]
      replace hR194a : w_Rep w_TC fr X u l I194a A194a B194a C194a M193 := hR194a
      replace f196 : c_bz I181a A181a I194a A194a 0 0 (I181a 2503) := f196
      replace f197 : (I194a 2503) = (I181a 2503) ∧ (0 ≤ (I194a 1035) ∧ (I194a 1035) ≤ 10000) ∧ (I194a 200) = (I181a 200) ∧ (I194a 202) = (I181a 202) := f197
      obtain ⟨n199, ⟨n200, n201⟩, n202, n203⟩ := id f197
      clear f197
      replace f198 : (I194a 2502) = (I181a 2502) := f198
      have bx204 : c_bz I A I194a A194a p q (I 2503) := c_bz_trans (show c_bz I A I181a A181a p q (I 2503) from bx190) f196 (Int.le_refl _) (Int.le_refl _) (show p ≤ 0 ∨ 0 ≤ 0 by omega) (show 0 ≤ q ∨ 0 ≤ 0 by omega) (Int.le_refl _) (show (I 2503) ≤ (I181a 2503) by omega)
      show w_W _ _ _ (100, [(3, .int (Int32.ofInt (v111))), (0, .ref 39), (1, .int (Int32.ofInt (n))), (2, .int (Int32.ofInt (x)))], [], M193) _
      refine w_fin (r := .inl none) (M' := M193) rfl ?_
      exact ⟨I194a, A194a, B194a, C194a, rfl, hR194a, (show c_bz I A I194a A194a p q (I 2503) by exact bx204), (show (I194a 2503) = (I 2503) ∧ (0 ≤ (I194a 1035) ∧ (I194a 1035) ≤ 10000) ∧ (I194a 200) = (I 200) ∧ (I194a 202) = (I 202) by (repeat' apply And.intro) <;> first | assumption | omega)⟩
