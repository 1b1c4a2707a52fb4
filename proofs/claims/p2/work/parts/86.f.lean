def cb_record_Q (fr : Nat → Bool) (X : Nat → Option (q_C (Nat → Int32))) (u l : Nat) (I : Nat → Int) (A : Nat → Int → Int) (B C : Nat → Nat) (M : w_M) (n : Int) (x : Int) (i : Nat) (p q : Int) : w_X → w_M → Prop := fun r M' => (∃ (I' : Nat → Int) (A' : Nat → Int → Int) (B' C' : Nat → Nat), (r = .inl none) ∧ (w_Rep w_TC fr X u l I' A' B' C' M') ∧ (c_bz I A I' A' p q (I 2503)) ∧ ((I' 2503) = (I 2503) ∧ (0 ≤ (I' 1035) ∧ (I' 1035) ≤ 10000) ∧ (I' 200) = (I 200) ∧ (I' 202) = (I 202)))
set_option maxHeartbeats 100000000 in
set_option maxRecDepth 100000 in
theorem cb_record {L : Nat} {xs : Nat → Int32} {d : Nat} {fr : Nat → Bool} {X : Nat → Option (q_C (Nat → Int32))} {u l : Nat} {I : Nat → Int} {A : Nat → Int → Int} {B C : Nat → Nat} {M : w_M} (hB0 : c_BALL L xs d) (n : Int) (x : Int) (i : Nat) (p q : Int) (hR : w_Rep w_TC fr X u l I A B C M) (hd : 8 * i + 3 ≤ d) (r_n : w_in n) (r_x : w_in x) (hKI : 0 ≤ (I 1035) ∧ (I 1035) ≤ 10000) (hKS : c_ks A) (hNM : 36 ≤ (I 200) ∧ (I 200) ≤ 419 ∧ 0 ≤ (I 202) ∧ (I 202) ≤ 24) (hLN : ∀ i, (A 5) i ≤ 24) (hW0 : 0 ≤ (I 2503)) (hWB : (I 2503) + 7000 * (i : Int) ≤ 1000000) (hW : c_W A i n p q) (hk : (A 27) n = 5) (hpq : 0 ≤ p ∧ q ≤ 3001) : w_W (z_P L xs) d 157 (0, [(0, .ref 39), (1, .int (Int32.ofInt (n))), (2, .int (Int32.ofInt (x)))], [], M) (cb_record_Q fr X u l I A B C M n x i p q) := by
  obtain ⟨ra_n, rb_n⟩ := r_n
  obtain ⟨ra_x, rb_x⟩ := r_x
  obtain ⟨d, rfl⟩ : ∃ d0, d = d0 + 1 := ⟨d - 1, by omega⟩
  obtain ⟨nb1, nb2⟩ := c_W_in hW
  obtain ⟨j, hj⟩ := c_W_succ hW
  have hW1 : c_W A (j + 1) n p q := by rw [← hj]; exact hW
  have hC : c_Ch (A 31) (c_P1 A j) (A 29 n) p n := hW1.2.2.k5 hk
  refine w_adv (n := 1) (F' := (1, [(0, .ref 39), (1, .int (Int32.ofInt (n))), (2, .int (Int32.ofInt (x)))], [.ref 39], M)) rfl ?_
  refine w_gf (v := .ref 26) hR rfl rfl rfl rfl ?_
  refine w_adv (n := 1) (F' := (5, [(0, .ref 39), (1, .int (Int32.ofInt (n))), (2, .int (Int32.ofInt (x)))], [.int (Int32.ofInt (n)), .ref 26], M)) rfl ?_
  refine w_call (cm := 152) (as := [(0, .ref 26), (1, .int (Int32.ofInt (n)))]) (rest := []) (o := some (8, 26)) rfl (w_fitR hR rfl) (c_Tb (n) hR (show 1 ≤ d by omega) ⟨by omega, by omega⟩) (fun r1 M2 q3 => ?_)
  rcases q3 with ⟨v4, e5, ⟨r6, r7⟩, e8, f9⟩
  rw [e5, e8]
  replace f9 : c_rd (A 29) n v4 := f9
  show w_W _ _ _ (8, [(0, .ref 39), (1, .int (Int32.ofInt (n))), (2, .int (Int32.ofInt (x)))], [.int (Int32.ofInt (v4))], M) _
  refine w_adv (n := 3) (F' := (12, [(4, .int (Int32.ofInt (0))), (3, .int (Int32.ofInt (v4))), (0, .ref 39), (1, .int (Int32.ofInt (n))), (2, .int (Int32.ofInt (x)))], [], M)) rfl ?_
  have lp12 : ∀ fu12 : Nat, ∀ (y12_3 : Int) (y12_4 : Int) (I_12 : Nat → Int) (A_12 : Nat → Int → Int) (B_12 C_12 : Nat → Nat) (M_12 : w_M) (hR_12 : w_Rep w_TC fr X u l I_12 A_12 B_12 C_12 M_12), w_in y12_3 → w_in y12_4 → c_bz I A I_12 A_12 p q (I 2503) → (I_12 2503) = (I 2503) ∧ (0 ≤ (I_12 1035) ∧ (I_12 1035) ≤ 10000) ∧ (I_12 200) = (I 200) ∧ (I_12 202) = (I 202) → c_Ch (A_12 31) (c_P1 A_12 j) (A 29 n) p n → 0 ≤ y12_4 ∧ y12_4 ≤ 1500 → 1500 - y12_4 < (fu12 : Int) → w_W (z_P L xs) (d + 1) 157 (12, [(0, .ref 39), (1, .int (Int32.ofInt (n))), (2, .int (Int32.ofInt (x))), (3, .int (Int32.ofInt (y12_3))), (4, .int (Int32.ofInt (y12_4)))], [], M_12) (cb_record_Q fr X u l I A B C M n x i p q) := by
    intro fu12
    induction fu12 with
    | zero =>
      intro y12_3 y12_4 I_12 A_12 B_12 C_12 M_12 hR_12 ⟨ra_y12_3, rb_y12_3⟩ ⟨ra_y12_4, rb_y12_4⟩ hi12_0 hi12_1 hi12_2 hi12_3 hn12
      exfalso
      omega
    | succ fu12 ih12 =>
      intro y12_3 y12_4 I_12 A_12 B_12 C_12 M_12 hR_12 ⟨ra_y12_3, rb_y12_3⟩ ⟨ra_y12_4, rb_y12_4⟩ hi12_0 hi12_1 hi12_2 hi12_3 hn12
      have jn53 : w_W (z_P L xs) (d + 1) 157 (53, [(0, .ref 39), (1, .int (Int32.ofInt (n))), (2, .int (Int32.ofInt (x))), (3, .int (Int32.ofInt (y12_3))), (4, .int (Int32.ofInt (y12_4)))], [], M_12) (cb_record_Q fr X u l I A B C M n x i p q) := by
        skip
        refine w_adv (n := 4) (F' := (58, [(0, .ref 39), (1, .int (Int32.ofInt (n))), (2, .int (Int32.ofInt (x))), (3, .int (Int32.ofInt (y12_3))), (4, .int (Int32.ofInt (y12_4)))], [.ref 39, .int (Int32.ofInt (x)), .int (Int32.ofInt (6)), .ref 39], M_12)) rfl ?_
        refine w_gf (v := .ref 26) hR_12 rfl rfl rfl rfl ?_
        refine w_adv (n := 1) (F' := (62, [(0, .ref 39), (1, .int (Int32.ofInt (n))), (2, .int (Int32.ofInt (x))), (3, .int (Int32.ofInt (y12_3))), (4, .int (Int32.ofInt (y12_4)))], [.int (Int32.ofInt (n)), .ref 26, .int (Int32.ofInt (x)), .int (Int32.ofInt (6)), .ref 39], M_12)) rfl ?_
        refine w_call (cm := 145) (as := [(0, .ref 26), (1, .int (Int32.ofInt (n)))]) (rest := [.int (Int32.ofInt (x)), .int (Int32.ofInt (6)), .ref 39]) (o := some (8, 26)) rfl (w_fitR hR_12 rfl) (c_Ta (n) hR_12 (show 1 ≤ d by omega) ⟨by omega, by omega⟩) (fun r10 M11 q12 => ?_)
        rcases q12 with ⟨v13, e14, ⟨r15, r16⟩, e17, f18⟩
        rw [e14, e17]
        replace f18 : c_rd (A_12 28) n v13 := f18
        show w_W _ _ _ (65, [(0, .ref 39), (1, .int (Int32.ofInt (n))), (2, .int (Int32.ofInt (x))), (3, .int (Int32.ofInt (y12_3))), (4, .int (Int32.ofInt (y12_4)))], [.int (Int32.ofInt (v13)), .int (Int32.ofInt (x)), .int (Int32.ofInt (6)), .ref 39], M_12) _
        refine w_adv (n := 1) (F' := (66, [(0, .ref 39), (1, .int (Int32.ofInt (n))), (2, .int (Int32.ofInt (x))), (3, .int (Int32.ofInt (y12_3))), (4, .int (Int32.ofInt (y12_4)))], [.int (Int32.ofInt ((-1))), .int (Int32.ofInt (v13)), .int (Int32.ofInt (x)), .int (Int32.ofInt (6)), .ref 39], M_12)) rfl ?_
        refine w_call (cm := 148) (as := [(0, .ref 39), (1, .int (Int32.ofInt (6))), (2, .int (Int32.ofInt (x))), (3, .int (Int32.ofInt (v13))), (4, .int (Int32.ofInt ((-1))))]) (rest := []) (o := some (1, 39)) rfl (w_fitR hR_12 rfl) (c_emit (6) (x) (v13) ((-1)) hR_12 (show 4 ≤ d by omega) ⟨by omega, by omega⟩ ⟨by omega, by omega⟩ ⟨by omega, by omega⟩ ⟨by omega, by omega⟩ (show 0 ≤ (I_12 1035) ∧ (I_12 1035) ≤ 10000 by (repeat' apply And.intro) <;> first | assumption | omega) (show 0 ≤ (I_12 2503) by omega)) (fun r19 M20 q21 => ?_)
        rcases q21 with ⟨I21a, A21a, B21a, C21a, e22, hR21a, f23, f24⟩
        rw [e22]
        replace hR21a : w_Rep w_TC fr X u l I21a A21a B21a C21a M20 := hR21a
        replace f23 : c_bz I_12 A_12 I21a A21a 0 0 (I_12 2503) := f23
        replace f24 : (I21a 2503) = (I_12 2503) ∧ (0 ≤ (I21a 1035) ∧ (I21a 1035) ≤ 10000) ∧ (I21a 200) = (I_12 200) ∧ (I21a 202) = (I_12 202) := f24
        obtain ⟨n25, ⟨n26, n27⟩, n28, n29⟩ := id f24
        clear f24
        have bx30 : c_bz I A I21a A21a p q (I 2503) := c_bz_trans (show c_bz I A I_12 A_12 p q (I 2503) from hi12_0) f23 (Int.le_refl _) (Int.le_refl _) (show p ≤ 0 ∨ 0 ≤ 0 by omega) (show 0 ≤ q ∨ 0 ≤ 0 by omega) (Int.le_refl _) (show (I 2503) ≤ (I_12 2503) by omega)
        have k31 : c_Ch (A21a 31) (c_P1 A21a j) (A 29 n) p n := c_Ch_agr c_P1_fam hi12_2 (c_bz_r f23 (show n ≤ 0 ∨ 0 ≤ p ∨ 0 ≤ 0 by omega))
        clear hi12_2
        show w_W _ _ _ (69, [(0, .ref 39), (1, .int (Int32.ofInt (n))), (2, .int (Int32.ofInt (x))), (3, .int (Int32.ofInt (y12_3))), (4, .int (Int32.ofInt (y12_4)))], [], M20) _
        refine w_adv (n := 1) (F' := (70, [(0, .ref 39), (1, .int (Int32.ofInt (n))), (2, .int (Int32.ofInt (x))), (3, .int (Int32.ofInt (y12_3))), (4, .int (Int32.ofInt (y12_4)))], [.ref 39], M20)) rfl ?_
        refine w_gf (v := .ref 26) hR21a rfl rfl rfl rfl ?_
        refine w_adv (n := 1) (F' := (74, [(0, .ref 39), (1, .int (Int32.ofInt (n))), (2, .int (Int32.ofInt (x))), (3, .int (Int32.ofInt (y12_3))), (4, .int (Int32.ofInt (y12_4)))], [.int (Int32.ofInt (n)), .ref 26], M20)) rfl ?_
        refine w_call (cm := 152) (as := [(0, .ref 26), (1, .int (Int32.ofInt (n)))]) (rest := []) (o := some (8, 26)) rfl (w_fitR hR21a rfl) (c_Tb (n) hR21a (show 1 ≤ d by omega) ⟨by omega, by omega⟩) (fun r32 M33 q34 => ?_)
        rcases q34 with ⟨v35, e36, ⟨r37, r38⟩, e39, f40⟩
        rw [e36, e39]
        replace f40 : c_rd (A21a 29) n v35 := f40
        show w_W _ _ _ (77, [(0, .ref 39), (1, .int (Int32.ofInt (n))), (2, .int (Int32.ofInt (x))), (3, .int (Int32.ofInt (y12_3))), (4, .int (Int32.ofInt (y12_4)))], [.int (Int32.ofInt (v35))], M20) _
        refine w_adv (n := 3) (F' := (81, [(4, .int (Int32.ofInt (0))), (3, .int (Int32.ofInt (v35))), (0, .ref 39), (1, .int (Int32.ofInt (n))), (2, .int (Int32.ofInt (x)))], [], M20)) rfl ?_
        have lp81 : ∀ fu81 : Nat, ∀ (y81_3 : Int) (y81_4 : Int) (I_81 : Nat → Int) (A_81 : Nat → Int → Int) (B_81 C_81 : Nat → Nat) (M_81 : w_M) (hR_81 : w_Rep w_TC fr X u l I_81 A_81 B_81 C_81 M_81), w_in y81_3 → w_in y81_4 → c_bz I A I_81 A_81 p q (I 2503) → (I_81 2503) = (I 2503) ∧ (0 ≤ (I_81 1035) ∧ (I_81 1035) ≤ 10000) ∧ (I_81 200) = (I 200) ∧ (I_81 202) = (I 202) → c_Ch (A_81 31) (c_P1 A_81 j) (A 29 n) p n → 0 ≤ y81_4 ∧ y81_4 ≤ 1500 → 1500 - y81_4 < (fu81 : Int) → w_W (z_P L xs) (d + 1) 157 (81, [(0, .ref 39), (1, .int (Int32.ofInt (n))), (2, .int (Int32.ofInt (x))), (3, .int (Int32.ofInt (y81_3))), (4, .int (Int32.ofInt (y81_4)))], [], M_81) (cb_record_Q fr X u l I A B C M n x i p q) := by
          intro fu81
          induction fu81 with
          | zero =>
            intro y81_3 y81_4 I_81 A_81 B_81 C_81 M_81 hR_81 ⟨ra_y81_3, rb_y81_3⟩ ⟨ra_y81_4, rb_y81_4⟩ hi81_0 hi81_1 hi81_2 hi81_3 hn81
            exfalso
            omega
          | succ fu81 ih81 =>
            intro y81_3 y81_4 I_81 A_81 B_81 C_81 M_81 hR_81 ⟨ra_y81_3, rb_y81_3⟩ ⟨ra_y81_4, rb_y81_4⟩ hi81_0 hi81_1 hi81_2 hi81_3 hn81
            have jn139 : w_W (z_P L xs) (d + 1) 157 (139, [(0, .ref 39), (1, .int (Int32.ofInt (n))), (2, .int (Int32.ofInt (x))), (3, .int (Int32.ofInt (y81_3))), (4, .int (Int32.ofInt (y81_4)))], [], M_81) (cb_record_Q fr X u l I A B C M n x i p q) := by
              skip
              refine w_adv (n := 1) (F' := (140, [(0, .ref 39), (1, .int (Int32.ofInt (n))), (2, .int (Int32.ofInt (x))), (3, .int (Int32.ofInt (y81_3))), (4, .int (Int32.ofInt (y81_4)))], [.ref 39], M_81)) rfl ?_
              refine w_gf (v := .ref 16) hR_81 rfl rfl rfl rfl ?_
              refine w_adv (n := 1) (F' := (144, [(0, .ref 39), (1, .int (Int32.ofInt (n))), (2, .int (Int32.ofInt (x))), (3, .int (Int32.ofInt (y81_3))), (4, .int (Int32.ofInt (y81_4)))], [.int (Int32.ofInt (0)), .ref 16], M_81)) rfl ?_
              refine w_call (cm := 165) (as := [(0, .ref 16), (1, .int (Int32.ofInt (0)))]) (rest := []) (o := some (2, 16)) rfl (w_fitR hR_81 rfl) (c_ksp (0) hR_81 (show 4 ≤ d by omega) ⟨by omega, by omega⟩ (show 0 ≤ (I_81 1035) ∧ (I_81 1035) ≤ 10000 by (repeat' apply And.intro) <;> first | assumption | omega) (show c_ks A_81 by exact (show c_bz I A I_81 A_81 p q (I 2503) from hi81_0).2.2.2.2 hKS) (show 36 ≤ (I_81 200) ∧ (I_81 200) ≤ 419 ∧ 0 ≤ (I_81 202) ∧ (I_81 202) ≤ 24 by (repeat' apply And.intro) <;> first | assumption | omega) (show ∀ i, (A_81 5) i ≤ 24 by rw [show (A_81 5) = (A 5) from (show c_bz I A I_81 A_81 p q (I 2503) from hi81_0).2.1 5 rfl]; exact hLN) (show 0 ≤ (I_81 2503) by omega) (show 0 ≤ 0 ∧ 0 ≤ 2 by first | assumption | omega)) (fun r41 M42 q43 => ?_)
              rcases q43 with ⟨I43a, A43a, B43a, C43a, e44, hR43a, f45, f46⟩
              rw [e44]
              replace hR43a : w_Rep w_TC fr X u l I43a A43a B43a C43a M42 := hR43a
              replace f45 : c_bz I_81 A_81 I43a A43a 0 0 (I_81 2503) := f45
              replace f46 : (I43a 2503) = (I_81 2503) ∧ (0 ≤ (I43a 1035) ∧ (I43a 1035) ≤ 10000) ∧ (I43a 200) = (I_81 200) ∧ (I43a 202) = (I_81 202) := f46
              obtain ⟨n47, ⟨n48, n49⟩, n50, n51⟩ := id f46
              clear f46
              have bx52 : c_bz I A I43a A43a p q (I 2503) := c_bz_trans (show c_bz I A I_81 A_81 p q (I 2503) from hi81_0) f45 (Int.le_refl _) (Int.le_refl _) (show p ≤ 0 ∨ 0 ≤ 0 by omega) (show 0 ≤ q ∨ 0 ≤ 0 by omega) (Int.le_refl _) (show (I 2503) ≤ (I_81 2503) by omega)
              have k53 : c_Ch (A43a 31) (c_P1 A43a j) (A 29 n) p n := c_Ch_agr c_P1_fam hi81_2 (c_bz_r f45 (show n ≤ 0 ∨ 0 ≤ p ∨ 0 ≤ 0 by omega))
              clear hi81_2
              show w_W _ _ _ (147, [(0, .ref 39), (1, .int (Int32.ofInt (n))), (2, .int (Int32.ofInt (x))), (3, .int (Int32.ofInt (y81_3))), (4, .int (Int32.ofInt (y81_4)))], [], M42) _
              refine w_adv (n := 1) (F' := (148, [(0, .ref 39), (1, .int (Int32.ofInt (n))), (2, .int (Int32.ofInt (x))), (3, .int (Int32.ofInt (y81_3))), (4, .int (Int32.ofInt (y81_4)))], [.ref 39], M42)) rfl ?_
              refine w_gf (v := .ref 26) hR43a rfl rfl rfl rfl ?_
              refine w_adv (n := 1) (F' := (152, [(0, .ref 39), (1, .int (Int32.ofInt (n))), (2, .int (Int32.ofInt (x))), (3, .int (Int32.ofInt (y81_3))), (4, .int (Int32.ofInt (y81_4)))], [.int (Int32.ofInt (n)), .ref 26], M42)) rfl ?_
              refine w_call (cm := 152) (as := [(0, .ref 26), (1, .int (Int32.ofInt (n)))]) (rest := []) (o := some (8, 26)) rfl (w_fitR hR43a rfl) (c_Tb (n) hR43a (show 1 ≤ d by omega) ⟨by omega, by omega⟩) (fun r54 M55 q56 => ?_)
              rcases q56 with ⟨v57, e58, ⟨r59, r60⟩, e61, f62⟩
              rw [e58, e61]
              replace f62 : c_rd (A43a 29) n v57 := f62
              have ev57 : v57 = (A 29 n) := by rw [c_rd_eq f62 (by omega) (by omega)]; exact (c_bz_n (show c_bz I A I43a A43a p q (I 2503) from bx52) (by omega)).1
              show w_W _ _ _ (155, [(0, .ref 39), (1, .int (Int32.ofInt (n))), (2, .int (Int32.ofInt (x))), (3, .int (Int32.ofInt (y81_3))), (4, .int (Int32.ofInt (y81_4)))], [.int (Int32.ofInt (v57))], M42) _
              refine w_adv (n := 3) (F' := (159, [(4, .int (Int32.ofInt (0))), (3, .int (Int32.ofInt (v57))), (0, .ref 39), (1, .int (Int32.ofInt (n))), (2, .int (Int32.ofInt (x)))], [], M42)) rfl ?_
              have lp159 : ∀ fu159 : Nat, ∀ (w_159 : Int) (y159_3 : Int) (y159_4 : Int) (I_159 : Nat → Int) (A_159 : Nat → Int → Int) (B_159 C_159 : Nat → Nat) (M_159 : w_M) (hR_159 : w_Rep w_TC fr X u l I_159 A_159 B_159 C_159 M_159), w_in y159_3 → w_in y159_4 → c_bz I A I_159 A_159 p q (I 2503) → (I_159 2503) = (I 2503) ∧ (0 ≤ (I_159 1035) ∧ (I_159 1035) ≤ 10000) ∧ (I_159 200) = (I 200) ∧ (I_159 202) = (I 202) → c_Ch (A_159 31) (c_P1 A_159 j) y159_3 w_159 n → p ≤ w_159 → 0 ≤ y159_4 ∧ y159_4 ≤ 1500 → 1500 - y159_4 < (fu159 : Int) → w_W (z_P L xs) (d + 1) 157 (159, [(0, .ref 39), (1, .int (Int32.ofInt (n))), (2, .int (Int32.ofInt (x))), (3, .int (Int32.ofInt (y159_3))), (4, .int (Int32.ofInt (y159_4)))], [], M_159) (cb_record_Q fr X u l I A B C M n x i p q) := by
                intro fu159
                induction fu159 with
                | zero =>
                  intro w_159 y159_3 y159_4 I_159 A_159 B_159 C_159 M_159 hR_159 ⟨ra_y159_3, rb_y159_3⟩ ⟨ra_y159_4, rb_y159_4⟩ hi159_0 hi159_1 hi159_2 hi159_3 hi159_4 hn159
                  exfalso
                  omega
                | succ fu159 ih159 =>
                  intro w_159 y159_3 y159_4 I_159 A_159 B_159 C_159 M_159 hR_159 ⟨ra_y159_3, rb_y159_3⟩ ⟨ra_y159_4, rb_y159_4⟩ hi159_0 hi159_1 hi159_2 hi159_3 hi159_4 hn159
                  refine w_adv (n := 2) (F' := (164, [(0, .ref 39), (1, .int (Int32.ofInt (n))), (2, .int (Int32.ofInt (x))), (3, .int (Int32.ofInt (y159_3))), (4, .int (Int32.ofInt (y159_4)))], [.int (Int32.ofInt (1500)), .int (Int32.ofInt (y159_4))], M_159)) rfl ?_
                  refine w_br2 (a := y159_4) (b := 1500) rfl rfl ⟨by omega, by omega⟩ ⟨by omega, by omega⟩ (fun h63 => ?_) (fun h63 => ?_)
                  · have h63 : y159_4 ≥ 1500 := h63
                    show w_W _ _ _ (221, [(0, .ref 39), (1, .int (Int32.ofInt (n))), (2, .int (Int32.ofInt (x))), (3, .int (Int32.ofInt (y159_3))), (4, .int (Int32.ofInt (y159_4)))], [], M_159) _
                    refine w_fin (r := .inl none) (M' := M_159) rfl ?_
                    exact ⟨I_159, A_159, B_159, C_159, rfl, hR_159, (show c_bz I A I_159 A_159 p q (I 2503) by exact hi159_0), (show (I_159 2503) = (I 2503) ∧ (0 ≤ (I_159 1035) ∧ (I_159 1035) ≤ 10000) ∧ (I_159 200) = (I 200) ∧ (I_159 202) = (I 202) by (repeat' apply And.intro) <;> first | assumption | omega)⟩
                  · have h63 : ¬ (y159_4 ≥ 1500) := h63
                    show w_W _ _ _ (167, [(0, .ref 39), (1, .int (Int32.ofInt (n))), (2, .int (Int32.ofInt (x))), (3, .int (Int32.ofInt (y159_3))), (4, .int (Int32.ofInt (y159_4)))], [], M_159) _
                    refine w_adv (n := 2) (F' := (169, [(0, .ref 39), (1, .int (Int32.ofInt (n))), (2, .int (Int32.ofInt (x))), (3, .int (Int32.ofInt (y159_3))), (4, .int (Int32.ofInt (y159_4)))], [.int (Int32.ofInt ((-1))), .int (Int32.ofInt (y159_3))], M_159)) rfl ?_
                    refine w_br2 (a := y159_3) (b := (-1)) rfl rfl ⟨by omega, by omega⟩ ⟨by omega, by omega⟩ (fun h64 => ?_) (fun h64 => ?_)
                    · have h64 : y159_3 = (-1) := h64
                      show w_W _ _ _ (221, [(0, .ref 39), (1, .int (Int32.ofInt (n))), (2, .int (Int32.ofInt (x))), (3, .int (Int32.ofInt (y159_3))), (4, .int (Int32.ofInt (y159_4)))], [], M_159) _
                      refine w_fin (r := .inl none) (M' := M_159) rfl ?_
                      exact ⟨I_159, A_159, B_159, C_159, rfl, hR_159, (show c_bz I A I_159 A_159 p q (I 2503) by exact hi159_0), (show (I_159 2503) = (I 2503) ∧ (0 ≤ (I_159 1035) ∧ (I_159 1035) ≤ 10000) ∧ (I_159 200) = (I 200) ∧ (I_159 202) = (I 202) by (repeat' apply And.intro) <;> first | assumption | omega)⟩
                    · have h64 : ¬ (y159_3 = (-1)) := h64
                      show w_W _ _ _ (172, [(0, .ref 39), (1, .int (Int32.ofInt (n))), (2, .int (Int32.ofInt (x))), (3, .int (Int32.ofInt (y159_3))), (4, .int (Int32.ofInt (y159_4)))], [], M_159) _
                      obtain ⟨cr, cg1, cg2, cg3, cg4, cg5⟩ := c_Ch_ne hi159_2 (by omega)
                      skip
                      skip
                      refine w_adv (n := 1) (F' := (173, [(0, .ref 39), (1, .int (Int32.ofInt (n))), (2, .int (Int32.ofInt (x))), (3, .int (Int32.ofInt (y159_3))), (4, .int (Int32.ofInt (y159_4)))], [.ref 39], M_159)) rfl ?_
                      refine w_gf (v := .ref 26) hR_159 rfl rfl rfl rfl ?_
                      refine w_adv (n := 1) (F' := (177, [(0, .ref 39), (1, .int (Int32.ofInt (n))), (2, .int (Int32.ofInt (x))), (3, .int (Int32.ofInt (y159_3))), (4, .int (Int32.ofInt (y159_4)))], [.int (Int32.ofInt (y159_3)), .ref 26], M_159)) rfl ?_
                      refine w_call (cm := 152) (as := [(0, .ref 26), (1, .int (Int32.ofInt (y159_3)))]) (rest := []) (o := some (8, 26)) rfl (w_fitR hR_159 rfl) (c_Tb (y159_3) hR_159 (show 1 ≤ d by omega) ⟨by omega, by omega⟩) (fun r65 M66 q67 => ?_)
                      rcases q67 with ⟨v68, e69, ⟨r70, r71⟩, e72, f73⟩
                      rw [e69, e72]
                      replace f73 : c_rd (A_159 29) y159_3 v68 := f73
                      have ev68 : v68 = (A_159 29 y159_3) := c_rd_eq f73 (by omega) (by omega)
                      show w_W _ _ _ (180, [(0, .ref 39), (1, .int (Int32.ofInt (n))), (2, .int (Int32.ofInt (x))), (3, .int (Int32.ofInt (y159_3))), (4, .int (Int32.ofInt (y159_4)))], [.int (Int32.ofInt (v68))], M_159) _
                      refine w_adv (n := 3) (F' := (185, [(5, .int (Int32.ofInt (v68))), (0, .ref 39), (1, .int (Int32.ofInt (n))), (2, .int (Int32.ofInt (x))), (3, .int (Int32.ofInt (y159_3))), (4, .int (Int32.ofInt (y159_4)))], [.int (Int32.ofInt (v68)), .ref 39], M_159)) rfl ?_
                      refine w_call (cm := 154) (as := [(0, .ref 39), (1, .int (Int32.ofInt (v68)))]) (rest := []) (o := some (1, 39)) rfl (w_fitR hR_159 rfl) (c_isVariable (v68) hR_159 (show 2 ≤ d by omega) ⟨by omega, by omega⟩) (fun r74 M75 q76 => ?_)
                      rcases q76 with ⟨e77, e78⟩ | ⟨e79, e80⟩
                      · rw [e77, e78]
                        show w_W _ _ _ (188, [(5, .int (Int32.ofInt (v68))), (0, .ref 39), (1, .int (Int32.ofInt (n))), (2, .int (Int32.ofInt (x))), (3, .int (Int32.ofInt (y159_3))), (4, .int (Int32.ofInt (y159_4)))], [.int (Int32.ofInt (1))], M_159) _
                        refine w_adv (n := 2) (F' := (207, [(5, .int (Int32.ofInt (v68))), (0, .ref 39), (1, .int (Int32.ofInt (n))), (2, .int (Int32.ofInt (x))), (3, .int (Int32.ofInt (y159_3))), (4, .int (Int32.ofInt (y159_4)))], [.ref 39], M_159)) rfl ?_
                        refine w_gf (v := .ref 26) hR_159 rfl rfl rfl rfl ?_
                        refine w_adv (n := 1) (F' := (211, [(5, .int (Int32.ofInt (v68))), (0, .ref 39), (1, .int (Int32.ofInt (n))), (2, .int (Int32.ofInt (x))), (3, .int (Int32.ofInt (y159_3))), (4, .int (Int32.ofInt (y159_4)))], [.int (Int32.ofInt (y159_3)), .ref 26], M_159)) rfl ?_
                        refine w_call (cm := 161) (as := [(0, .ref 26), (1, .int (Int32.ofInt (y159_3)))]) (rest := []) (o := some (8, 26)) rfl (w_fitR hR_159 rfl) (c_Tnext (y159_3) hR_159 (show 1 ≤ d by omega) ⟨by omega, by omega⟩) (fun r81 M82 q83 => ?_)
                        rcases q83 with ⟨v84, e85, ⟨r86, r87⟩, e88, f89⟩
                        rw [e85, e88]
                        replace f89 : c_rd (A_159 31) y159_3 v84 := f89
                        have ev84 : v84 = (A_159 31 y159_3) := (c_rd_eq f89 (by omega) (by omega)).trans (congrFun ((c_bz_ke (show c_bz I A I_159 A_159 p q (I 2503) from hi159_0)).2.2.trans (c_bz_ke (show c_bz I A I_159 A_159 p q (I 2503) from hi159_0)).2.2.symm) _)
                        show w_W _ _ _ (214, [(5, .int (Int32.ofInt (v68))), (0, .ref 39), (1, .int (Int32.ofInt (n))), (2, .int (Int32.ofInt (x))), (3, .int (Int32.ofInt (y159_3))), (4, .int (Int32.ofInt (y159_4)))], [.int (Int32.ofInt (v84))], M_159) _
                        refine w_adv (n := 1) (F' := (215, [(3, .int (Int32.ofInt (v84))), (5, .int (Int32.ofInt (v68))), (0, .ref 39), (1, .int (Int32.ofInt (n))), (2, .int (Int32.ofInt (x))), (4, .int (Int32.ofInt (y159_4)))], [], M_159)) rfl ?_
                        refine w_inc (nL := 6) (a := y159_4) rfl rfl rfl (by decide) ?_
                        refine w_adv (n := 1) (F' := (159, [(4, .int (Int32.ofInt (y159_4 + 1))), (3, .int (Int32.ofInt (v84))), (5, .int (Int32.ofInt (v68))), (0, .ref 39), (1, .int (Int32.ofInt (n))), (2, .int (Int32.ofInt (x)))], [], M_159)) rfl ?_
                        refine w_ls (ls := [(0, .ref 39), (1, .int (Int32.ofInt (n))), (2, .int (Int32.ofInt (x))), (3, .int (Int32.ofInt (v84))), (4, .int (Int32.ofInt (y159_4 + 1)))]) (show List.Nodup [0, 1, 2, 3, 4] by decide) (show List.Nodup [4, 3, 5, 0, 1, 2] by decide) (List.forall_mem_cons.mpr ⟨(List.Mem.tail _ (List.Mem.tail _ (List.Mem.tail _ (List.Mem.head _)))), (List.forall_mem_cons.mpr ⟨(List.Mem.tail _ (List.Mem.tail _ (List.Mem.tail _ (List.Mem.tail _ (List.Mem.head _))))), (List.forall_mem_cons.mpr ⟨(List.Mem.tail _ (List.Mem.tail _ (List.Mem.tail _ (List.Mem.tail _ (List.Mem.tail _ (List.Mem.head _)))))), (List.forall_mem_cons.mpr ⟨(List.Mem.tail _ (List.Mem.head _)), (List.forall_mem_cons.mpr ⟨(List.Mem.head _), (fun _ h => by cases h)⟩)⟩)⟩)⟩)⟩) ?_
                        exact ih159 (cr) (v84) (y159_4 + 1) I_159 A_159 B_159 C_159 M_159 hR_159 ⟨by omega, by omega⟩ ⟨by omega, by omega⟩ (show c_bz I A I_159 A_159 p q (I 2503) by exact hi159_0) (show (I_159 2503) = (I 2503) ∧ (0 ≤ (I_159 1035) ∧ (I_159 1035) ≤ 10000) ∧ (I_159 200) = (I 200) ∧ (I_159 202) = (I 202) by (repeat' apply And.intro) <;> first | assumption | omega) (show c_Ch (A_159 31) (c_P1 A_159 j) v84 cr n by rw [ev84]; exact cg5) (show p ≤ cr by omega) (show 0 ≤ (y159_4 + 1) ∧ (y159_4 + 1) ≤ 1500 by omega) (show 1500 - (y159_4 + 1) < (fu159 : Int) by omega)
                      · rw [e79, e80]
                        show w_W _ _ _ (188, [(5, .int (Int32.ofInt (v68))), (0, .ref 39), (1, .int (Int32.ofInt (n))), (2, .int (Int32.ofInt (x))), (3, .int (Int32.ofInt (y159_3))), (4, .int (Int32.ofInt (y159_4)))], [.int (Int32.ofInt (0))], M_159) _
                        refine w_adv (n := 4) (F' := (195, [(5, .int (Int32.ofInt (v68))), (0, .ref 39), (1, .int (Int32.ofInt (n))), (2, .int (Int32.ofInt (x))), (3, .int (Int32.ofInt (y159_3))), (4, .int (Int32.ofInt (y159_4)))], [.ref 39, .int (Int32.ofInt (v68)), .ref 39], M_159)) rfl ?_
                        refine w_gf (v := .ref 26) hR_159 rfl rfl rfl rfl ?_
                        refine w_adv (n := 1) (F' := (200, [(5, .int (Int32.ofInt (v68))), (0, .ref 39), (1, .int (Int32.ofInt (n))), (2, .int (Int32.ofInt (x))), (3, .int (Int32.ofInt (y159_3))), (4, .int (Int32.ofInt (y159_4)))], [.int (Int32.ofInt (v68)), .ref 26, .int (Int32.ofInt (v68)), .ref 39], M_159)) rfl ?_
                        refine w_call (cm := 162) (as := [(0, .ref 26), (1, .int (Int32.ofInt (v68)))]) (rest := [.int (Int32.ofInt (v68)), .ref 39]) (o := some (8, 26)) rfl (w_fitR hR_159 rfl) (c_Tree_variable (v68) hR_159 (show 2 ≤ d by omega) ⟨by omega, by omega⟩) (fun r90 M91 q92 => ?_)
                        rcases q92 with ⟨v93, e94, ⟨r95, r96⟩, e97⟩
                        rw [e94, e97]
                        show w_W _ _ _ (203, [(5, .int (Int32.ofInt (v68))), (0, .ref 39), (1, .int (Int32.ofInt (n))), (2, .int (Int32.ofInt (x))), (3, .int (Int32.ofInt (y159_3))), (4, .int (Int32.ofInt (y159_4)))], [.int (Int32.ofInt (v93)), .int (Int32.ofInt (v68)), .ref 39], M_159) _
                        refine w_call (cm := 156) (as := [(0, .ref 39), (1, .int (Int32.ofInt (v68))), (2, .int (Int32.ofInt (v93)))]) (rest := []) (o := some (1, 39)) rfl (w_fitR hR_159 rfl) ((hB0 d (Nat.lt_succ_self d)).1 (v68) (v93) (j) (w_159) (y159_3) hR_159 (show 8 * j + 4 ≤ d by omega) ⟨by omega, by omega⟩ ⟨by omega, by omega⟩ (show 0 ≤ (I_159 1035) ∧ (I_159 1035) ≤ 10000 by (repeat' apply And.intro) <;> first | assumption | omega) (show c_ks A_159 by exact (show c_bz I A I_159 A_159 p q (I 2503) from hi159_0).2.2.2.2 hKS) (show 36 ≤ (I_159 200) ∧ (I_159 200) ≤ 419 ∧ 0 ≤ (I_159 202) ∧ (I_159 202) ≤ 24 by (repeat' apply And.intro) <;> first | assumption | omega) (show ∀ i, (A_159 5) i ≤ 24 by rw [show (A_159 5) = (A 5) from (show c_bz I A I_159 A_159 p q (I 2503) from hi159_0).2.1 5 rfl]; exact hLN) (show 0 ≤ (I_159 2503) by omega) (show (I_159 2503) + 7000 * (j : Int) ≤ 1000000 by first | assumption | omega) (show c_W A_159 j v68 w_159 y159_3 by rw [ev68]; exact cg4) (show 0 ≤ w_159 ∧ y159_3 ≤ 3001 by first | assumption | omega)) (fun r98 M99 q100 => ?_)
                        rcases q100 with ⟨I100a, A100a, B100a, C100a, e101, hR100a, f102, f103⟩
                        rw [e101]
                        replace hR100a : w_Rep w_TC fr X u l I100a A100a B100a C100a M99 := hR100a
                        replace f102 : c_bz I_159 A_159 I100a A100a w_159 y159_3 (I_159 2503) := f102
                        replace f103 : (I100a 2503) = (I_159 2503) ∧ (0 ≤ (I100a 1035) ∧ (I100a 1035) ≤ 10000) ∧ (I100a 200) = (I_159 200) ∧ (I100a 202) = (I_159 202) := f103
                        obtain ⟨n104, ⟨n105, n106⟩, n107, n108⟩ := id f103
                        clear f103
                        have bx109 : c_bz I A I100a A100a p q (I 2503) := c_bz_trans (show c_bz I A I_159 A_159 p q (I 2503) from hi159_0) f102 (Int.le_refl _) (Int.le_refl _) (show p ≤ w_159 ∨ y159_3 ≤ w_159 by omega) (show y159_3 ≤ q ∨ y159_3 ≤ w_159 by omega) (Int.le_refl _) (show (I 2503) ≤ (I_159 2503) by omega)
                        have k110 : c_Ch (A100a 31) (c_P1 A100a j) (A_159 31 y159_3) cr n := c_Ch_agr c_P1_fam cg5 (c_bz_r f102 (show n ≤ w_159 ∨ y159_3 ≤ cr ∨ y159_3 ≤ w_159 by omega))
                        clear cg5
                        show w_W _ _ _ (206, [(5, .int (Int32.ofInt (v68))), (0, .ref 39), (1, .int (Int32.ofInt (n))), (2, .int (Int32.ofInt (x))), (3, .int (Int32.ofInt (y159_3))), (4, .int (Int32.ofInt (y159_4)))], [], M99) _
                        refine w_adv (n := 1) (F' := (207, [(5, .int (Int32.ofInt (v68))), (0, .ref 39), (1, .int (Int32.ofInt (n))), (2, .int (Int32.ofInt (x))), (3, .int (Int32.ofInt (y159_3))), (4, .int (Int32.ofInt (y159_4)))], [.ref 39], M99)) rfl ?_
                        refine w_gf (v := .ref 26) hR100a rfl rfl rfl rfl ?_
                        refine w_adv (n := 1) (F' := (211, [(5, .int (Int32.ofInt (v68))), (0, .ref 39), (1, .int (Int32.ofInt (n))), (2, .int (Int32.ofInt (x))), (3, .int (Int32.ofInt (y159_3))), (4, .int (Int32.ofInt (y159_4)))], [.int (Int32.ofInt (y159_3)), .ref 26], M99)) rfl ?_
                        refine w_call (cm := 161) (as := [(0, .ref 26), (1, .int (Int32.ofInt (y159_3)))]) (rest := []) (o := some (8, 26)) rfl (w_fitR hR100a rfl) (c_Tnext (y159_3) hR100a (show 1 ≤ d by omega) ⟨by omega, by omega⟩) (fun r111 M112 q113 => ?_)
                        rcases q113 with ⟨v114, e115, ⟨r116, r117⟩, e118, f119⟩
                        rw [e115, e118]
                        replace f119 : c_rd (A100a 31) y159_3 v114 := f119
                        have ev114 : v114 = (A_159 31 y159_3) := (c_rd_eq f119 (by omega) (by omega)).trans (congrFun ((c_bz_ke (show c_bz I A I100a A100a p q (I 2503) from bx109)).2.2.trans (c_bz_ke (show c_bz I A I_159 A_159 p q (I 2503) from hi159_0)).2.2.symm) _)
                        show w_W _ _ _ (214, [(5, .int (Int32.ofInt (v68))), (0, .ref 39), (1, .int (Int32.ofInt (n))), (2, .int (Int32.ofInt (x))), (3, .int (Int32.ofInt (y159_3))), (4, .int (Int32.ofInt (y159_4)))], [.int (Int32.ofInt (v114))], M99) _
                        refine w_adv (n := 1) (F' := (215, [(3, .int (Int32.ofInt (v114))), (5, .int (Int32.ofInt (v68))), (0, .ref 39), (1, .int (Int32.ofInt (n))), (2, .int (Int32.ofInt (x))), (4, .int (Int32.ofInt (y159_4)))], [], M99)) rfl ?_
                        refine w_inc (nL := 6) (a := y159_4) rfl rfl rfl (by decide) ?_
                        refine w_adv (n := 1) (F' := (159, [(4, .int (Int32.ofInt (y159_4 + 1))), (3, .int (Int32.ofInt (v114))), (5, .int (Int32.ofInt (v68))), (0, .ref 39), (1, .int (Int32.ofInt (n))), (2, .int (Int32.ofInt (x)))], [], M99)) rfl ?_
                        refine w_ls (ls := [(0, .ref 39), (1, .int (Int32.ofInt (n))), (2, .int (Int32.ofInt (x))), (3, .int (Int32.ofInt (v114))), (4, .int (Int32.ofInt (y159_4 + 1)))]) (show List.Nodup [0, 1, 2, 3, 4] by decide) (show List.Nodup [4, 3, 5, 0, 1, 2] by decide) (List.forall_mem_cons.mpr ⟨(List.Mem.tail _ (List.Mem.tail _ (List.Mem.tail _ (List.Mem.head _)))), (List.forall_mem_cons.mpr ⟨(List.Mem.tail _ (List.Mem.tail _ (List.Mem.tail _ (List.Mem.tail _ (List.Mem.head _))))), (List.forall_mem_cons.mpr ⟨(List.Mem.tail _ (List.Mem.tail _ (List.Mem.tail _ (List.Mem.tail _ (List.Mem.tail _ (List.Mem.head _)))))), (List.forall_mem_cons.mpr ⟨(List.Mem.tail _ (List.Mem.head _)), (List.forall_mem_cons.mpr ⟨(List.Mem.head _), (fun _ h => by cases h)⟩)⟩)⟩)⟩)⟩) ?_
                        exact ih159 (cr) (v114) (y159_4 + 1) I100a A100a B100a C100a M99 hR100a ⟨by omega, by omega⟩ ⟨by omega, by omega⟩ (show c_bz I A I100a A100a p q (I 2503) by exact bx109) (show (I100a 2503) = (I 2503) ∧ (0 ≤ (I100a 1035) ∧ (I100a 1035) ≤ 10000) ∧ (I100a 200) = (I 200) ∧ (I100a 202) = (I 202) by (repeat' apply And.intro) <;> first | assumption | omega) (show c_Ch (A100a 31) (c_P1 A100a j) v114 cr n by rw [ev114]; exact k110) (show p ≤ cr by omega) (show 0 ≤ (y159_4 + 1) ∧ (y159_4 + 1) ≤ 1500 by omega) (show 1500 - (y159_4 + 1) < (fu159 : Int) by omega)
              refine w_ls (ls := [(0, .ref 39), (1, .int (Int32.ofInt (n))), (2, .int (Int32.ofInt (x))), (3, .int (Int32.ofInt (v57))), (4, .int (Int32.ofInt (0)))]) (show List.Nodup [0, 1, 2, 3, 4] by decide) (show List.Nodup [4, 3, 0, 1, 2] by decide) (List.forall_mem_cons.mpr ⟨(List.Mem.tail _ (List.Mem.tail _ (List.Mem.head _))), (List.forall_mem_cons.mpr ⟨(List.Mem.tail _ (List.Mem.tail _ (List.Mem.tail _ (List.Mem.head _)))), (List.forall_mem_cons.mpr ⟨(List.Mem.tail _ (List.Mem.tail _ (List.Mem.tail _ (List.Mem.tail _ (List.Mem.head _))))), (List.forall_mem_cons.mpr ⟨(List.Mem.tail _ (List.Mem.head _)), (List.forall_mem_cons.mpr ⟨(List.Mem.head _), (fun _ h => by cases h)⟩)⟩)⟩)⟩)⟩) ?_
              exact lp159 ((1500 - 0 : Int).toNat + 1) (p) (v57) (0) I43a A43a B43a C43a M42 hR43a ⟨by omega, by omega⟩ ⟨by omega, by omega⟩ (show c_bz I A I43a A43a p q (I 2503) by exact bx52) (show (I43a 2503) = (I 2503) ∧ (0 ≤ (I43a 1035) ∧ (I43a 1035) ≤ 10000) ∧ (I43a 200) = (I 200) ∧ (I43a 202) = (I 202) by (repeat' apply And.intro) <;> first | assumption | omega) (show c_Ch (A43a 31) (c_P1 A43a j) v57 p n by rw [ev57]; exact k53) (show p ≤ p by omega) (show 0 ≤ (0 : Int) ∧ (0 : Int) ≤ 1500 by omega) (show 1500 - 0 < (((1500 - 0 : Int).toNat + 1 : Nat) : Int) by omega)
            refine w_adv (n := 2) (F' := (86, [(0, .ref 39), (1, .int (Int32.ofInt (n))), (2, .int (Int32.ofInt (x))), (3, .int (Int32.ofInt (y81_3))), (4, .int (Int32.ofInt (y81_4)))], [.int (Int32.ofInt (1500)), .int (Int32.ofInt (y81_4))], M_81)) rfl ?_
            refine w_br2 (a := y81_4) (b := 1500) rfl rfl ⟨by omega, by omega⟩ ⟨by omega, by omega⟩ (fun h120 => ?_) (fun h120 => ?_)
            · have h120 : y81_4 ≥ 1500 := h120
              show w_W _ _ _ (139, [(0, .ref 39), (1, .int (Int32.ofInt (n))), (2, .int (Int32.ofInt (x))), (3, .int (Int32.ofInt (y81_3))), (4, .int (Int32.ofInt (y81_4)))], [], M_81) _
              exact jn139   
            · have h120 : ¬ (y81_4 ≥ 1500) := h120
              show w_W _ _ _ (89, [(0, .ref 39), (1, .int (Int32.ofInt (n))), (2, .int (Int32.ofInt (x))), (3, .int (Int32.ofInt (y81_3))), (4, .int (Int32.ofInt (y81_4)))], [], M_81) _
              refine w_adv (n := 2) (F' := (91, [(0, .ref 39), (1, .int (Int32.ofInt (n))), (2, .int (Int32.ofInt (x))), (3, .int (Int32.ofInt (y81_3))), (4, .int (Int32.ofInt (y81_4)))], [.int (Int32.ofInt ((-1))), .int (Int32.ofInt (y81_3))], M_81)) rfl ?_
              refine w_br2 (a := y81_3) (b := (-1)) rfl rfl ⟨by omega, by omega⟩ ⟨by omega, by omega⟩ (fun h121 => ?_) (fun h121 => ?_)
              · have h121 : y81_3 = (-1) := h121
                show w_W _ _ _ (139, [(0, .ref 39), (1, .int (Int32.ofInt (n))), (2, .int (Int32.ofInt (x))), (3, .int (Int32.ofInt (y81_3))), (4, .int (Int32.ofInt (y81_4)))], [], M_81) _
                exact jn139   
              · have h121 : ¬ (y81_3 = (-1)) := h121
                show w_W _ _ _ (94, [(0, .ref 39), (1, .int (Int32.ofInt (n))), (2, .int (Int32.ofInt (x))), (3, .int (Int32.ofInt (y81_3))), (4, .int (Int32.ofInt (y81_4)))], [], M_81) _
                refine w_adv (n := 1) (F' := (95, [(0, .ref 39), (1, .int (Int32.ofInt (n))), (2, .int (Int32.ofInt (x))), (3, .int (Int32.ofInt (y81_3))), (4, .int (Int32.ofInt (y81_4)))], [.ref 39], M_81)) rfl ?_
                refine w_gf (v := .ref 16) hR_81 rfl rfl rfl rfl ?_
                refine w_adv (n := 1) (F' := (99, [(0, .ref 39), (1, .int (Int32.ofInt (n))), (2, .int (Int32.ofInt (x))), (3, .int (Int32.ofInt (y81_3))), (4, .int (Int32.ofInt (y81_4)))], [.ref 39, .ref 16], M_81)) rfl ?_
                refine w_gf (v := .ref 26) hR_81 rfl rfl rfl rfl ?_
                refine w_adv (n := 1) (F' := (103, [(0, .ref 39), (1, .int (Int32.ofInt (n))), (2, .int (Int32.ofInt (x))), (3, .int (Int32.ofInt (y81_3))), (4, .int (Int32.ofInt (y81_4)))], [.int (Int32.ofInt (y81_3)), .ref 26, .ref 16], M_81)) rfl ?_
                refine w_call (cm := 145) (as := [(0, .ref 26), (1, .int (Int32.ofInt (y81_3)))]) (rest := [.ref 16]) (o := some (8, 26)) rfl (w_fitR hR_81 rfl) (c_Ta (y81_3) hR_81 (show 1 ≤ d by omega) ⟨by omega, by omega⟩) (fun r122 M123 q124 => ?_)
                rcases q124 with ⟨v125, e126, ⟨r127, r128⟩, e129, f130⟩
                rw [e126, e129]
                replace f130 : c_rd (A_81 28) y81_3 v125 := f130
                show w_W _ _ _ (106, [(0, .ref 39), (1, .int (Int32.ofInt (n))), (2, .int (Int32.ofInt (x))), (3, .int (Int32.ofInt (y81_3))), (4, .int (Int32.ofInt (y81_4)))], [.int (Int32.ofInt (v125)), .ref 16], M_81) _
                refine w_adv (n := 1) (F' := (107, [(0, .ref 39), (1, .int (Int32.ofInt (n))), (2, .int (Int32.ofInt (x))), (3, .int (Int32.ofInt (y81_3))), (4, .int (Int32.ofInt (y81_4)))], [.ref 39, .int (Int32.ofInt (v125)), .ref 16], M_81)) rfl ?_
                refine w_gf (v := .ref 26) hR_81 rfl rfl rfl rfl ?_
                refine w_adv (n := 1) (F' := (111, [(0, .ref 39), (1, .int (Int32.ofInt (n))), (2, .int (Int32.ofInt (x))), (3, .int (Int32.ofInt (y81_3))), (4, .int (Int32.ofInt (y81_4)))], [.ref 39, .ref 26, .int (Int32.ofInt (v125)), .ref 16], M_81)) rfl ?_
                refine w_gf (v := .ref 26) hR_81 rfl rfl rfl rfl ?_
                refine w_adv (n := 1) (F' := (115, [(0, .ref 39), (1, .int (Int32.ofInt (n))), (2, .int (Int32.ofInt (x))), (3, .int (Int32.ofInt (y81_3))), (4, .int (Int32.ofInt (y81_4)))], [.int (Int32.ofInt (y81_3)), .ref 26, .ref 26, .int (Int32.ofInt (v125)), .ref 16], M_81)) rfl ?_
                refine w_call (cm := 152) (as := [(0, .ref 26), (1, .int (Int32.ofInt (y81_3)))]) (rest := [.ref 26, .int (Int32.ofInt (v125)), .ref 16]) (o := some (8, 26)) rfl (w_fitR hR_81 rfl) (c_Tb (y81_3) hR_81 (show 1 ≤ d by omega) ⟨by omega, by omega⟩) (fun r131 M132 q133 => ?_)
                rcases q133 with ⟨v134, e135, ⟨r136, r137⟩, e138, f139⟩
                rw [e135, e138]
                replace f139 : c_rd (A_81 29) y81_3 v134 := f139
                show w_W _ _ _ (118, [(0, .ref 39), (1, .int (Int32.ofInt (n))), (2, .int (Int32.ofInt (x))), (3, .int (Int32.ofInt (y81_3))), (4, .int (Int32.ofInt (y81_4)))], [.int (Int32.ofInt (v134)), .ref 26, .int (Int32.ofInt (v125)), .ref 16], M_81) _
                refine w_call (cm := 162) (as := [(0, .ref 26), (1, .int (Int32.ofInt (v134)))]) (rest := [.int (Int32.ofInt (v125)), .ref 16]) (o := some (8, 26)) rfl (w_fitR hR_81 rfl) (c_Tree_variable (v134) hR_81 (show 2 ≤ d by omega) ⟨by omega, by omega⟩) (fun r140 M141 q142 => ?_)
                rcases q142 with ⟨v143, e144, ⟨r145, r146⟩, e147⟩
                rw [e144, e147]
                show w_W _ _ _ (121, [(0, .ref 39), (1, .int (Int32.ofInt (n))), (2, .int (Int32.ofInt (x))), (3, .int (Int32.ofInt (y81_3))), (4, .int (Int32.ofInt (y81_4)))], [.int (Int32.ofInt (v143)), .int (Int32.ofInt (v125)), .ref 16], M_81) _
                refine w_call (cm := 163) (as := [(0, .ref 16), (1, .int (Int32.ofInt (v125))), (2, .int (Int32.ofInt (v143)))]) (rest := []) (o := some (2, 16)) rfl (w_fitR hR_81 rfl) (c_kap (v125) (v143) hR_81 (show 2 ≤ d by omega) ⟨by omega, by omega⟩ ⟨by omega, by omega⟩ (show 0 ≤ (I_81 1035) ∧ (I_81 1035) ≤ 10000 by (repeat' apply And.intro) <;> first | assumption | omega) (show 0 ≤ (I_81 2503) by omega)) (fun r148 M149 q150 => ?_)
                rcases q150 with ⟨I150a, A150a, B150a, C150a, e151, hR150a, f152, f153⟩
                rw [e151]
                replace hR150a : w_Rep w_TC fr X u l I150a A150a B150a C150a M149 := hR150a
                replace f152 : c_bz I_81 A_81 I150a A150a 0 0 (I_81 2503) := f152
                replace f153 : (I150a 2503) = (I_81 2503) ∧ (0 ≤ (I150a 1035) ∧ (I150a 1035) ≤ 10000) ∧ (I150a 200) = (I_81 200) ∧ (I150a 202) = (I_81 202) := f153
                obtain ⟨n154, ⟨n155, n156⟩, n157, n158⟩ := id f153
                clear f153
                have bx159 : c_bz I A I150a A150a p q (I 2503) := c_bz_trans (show c_bz I A I_81 A_81 p q (I 2503) from hi81_0) f152 (Int.le_refl _) (Int.le_refl _) (show p ≤ 0 ∨ 0 ≤ 0 by omega) (show 0 ≤ q ∨ 0 ≤ 0 by omega) (Int.le_refl _) (show (I 2503) ≤ (I_81 2503) by omega)
                have k160 : c_Ch (A150a 31) (c_P1 A150a j) (A 29 n) p n := c_Ch_agr c_P1_fam hi81_2 (c_bz_r f152 (show n ≤ 0 ∨ 0 ≤ p ∨ 0 ≤ 0 by omega))
                clear hi81_2
                show w_W _ _ _ (124, [(0, .ref 39), (1, .int (Int32.ofInt (n))), (2, .int (Int32.ofInt (x))), (3, .int (Int32.ofInt (y81_3))), (4, .int (Int32.ofInt (y81_4)))], [], M149) _
                refine w_adv (n := 1) (F' := (125, [(0, .ref 39), (1, .int (Int32.ofInt (n))), (2, .int (Int32.ofInt (x))), (3, .int (Int32.ofInt (y81_3))), (4, .int (Int32.ofInt (y81_4)))], [.ref 39], M149)) rfl ?_
                refine w_gf (v := .ref 26) hR150a rfl rfl rfl rfl ?_
                refine w_adv (n := 1) (F' := (129, [(0, .ref 39), (1, .int (Int32.ofInt (n))), (2, .int (Int32.ofInt (x))), (3, .int (Int32.ofInt (y81_3))), (4, .int (Int32.ofInt (y81_4)))], [.int (Int32.ofInt (y81_3)), .ref 26], M149)) rfl ?_
                refine w_call (cm := 161) (as := [(0, .ref 26), (1, .int (Int32.ofInt (y81_3)))]) (rest := []) (o := some (8, 26)) rfl (w_fitR hR150a rfl) (c_Tnext (y81_3) hR150a (show 1 ≤ d by omega) ⟨by omega, by omega⟩) (fun r161 M162 q163 => ?_)
                rcases q163 with ⟨v164, e165, ⟨r166, r167⟩, e168, f169⟩
                rw [e165, e168]
                replace f169 : c_rd (A150a 31) y81_3 v164 := f169
                show w_W _ _ _ (132, [(0, .ref 39), (1, .int (Int32.ofInt (n))), (2, .int (Int32.ofInt (x))), (3, .int (Int32.ofInt (y81_3))), (4, .int (Int32.ofInt (y81_4)))], [.int (Int32.ofInt (v164))], M149) _
                refine w_adv (n := 1) (F' := (133, [(3, .int (Int32.ofInt (v164))), (0, .ref 39), (1, .int (Int32.ofInt (n))), (2, .int (Int32.ofInt (x))), (4, .int (Int32.ofInt (y81_4)))], [], M149)) rfl ?_
                refine w_inc (nL := 6) (a := y81_4) rfl rfl rfl (by decide) ?_
                refine w_adv (n := 1) (F' := (81, [(4, .int (Int32.ofInt (y81_4 + 1))), (3, .int (Int32.ofInt (v164))), (0, .ref 39), (1, .int (Int32.ofInt (n))), (2, .int (Int32.ofInt (x)))], [], M149)) rfl ?_
                refine w_ls (ls := [(0, .ref 39), (1, .int (Int32.ofInt (n))), (2, .int (Int32.ofInt (x))), (3, .int (Int32.ofInt (v164))), (4, .int (Int32.ofInt (y81_4 + 1)))]) (show List.Nodup [0, 1, 2, 3, 4] by decide) (show List.Nodup [4, 3, 0, 1, 2] by decide) (List.forall_mem_cons.mpr ⟨(List.Mem.tail _ (List.Mem.tail _ (List.Mem.head _))), (List.forall_mem_cons.mpr ⟨(List.Mem.tail _ (List.Mem.tail _ (List.Mem.tail _ (List.Mem.head _)))), (List.forall_mem_cons.mpr ⟨(List.Mem.tail _ (List.Mem.tail _ (List.Mem.tail _ (List.Mem.tail _ (List.Mem.head _))))), (List.forall_mem_cons.mpr ⟨(List.Mem.tail _ (List.Mem.head _)), (List.forall_mem_cons.mpr ⟨(List.Mem.head _), (fun _ h => by cases h)⟩)⟩)⟩)⟩)⟩) ?_
                exact ih81  (v164) (y81_4 + 1) I150a A150a B150a C150a M149 hR150a ⟨by omega, by omega⟩ ⟨by omega, by omega⟩ (show c_bz I A I150a A150a p q (I 2503) by exact bx159) (show (I150a 2503) = (I 2503) ∧ (0 ≤ (I150a 1035) ∧ (I150a 1035) ≤ 10000) ∧ (I150a 200) = (I 200) ∧ (I150a 202) = (I 202) by (repeat' apply And.intro) <;> first | assumption | omega) (show c_Ch (A150a 31) (c_P1 A150a j) (A 29 n) p n by exact k160) (show 0 ≤ (y81_4 + 1) ∧ (y81_4 + 1) ≤ 1500 by omega) (show 1500 - (y81_4 + 1) < (fu81 : Int) by omega)
        refine w_ls (ls := [(0, .ref 39), (1, .int (Int32.ofInt (n))), (2, .int (Int32.ofInt (x))), (3, .int (Int32.ofInt (v35))), (4, .int (Int32.ofInt (0)))]) (show List.Nodup [0, 1, 2, 3, 4] by decide) (show List.Nodup [4, 3, 0, 1, 2] by decide) (List.forall_mem_cons.mpr ⟨(List.Mem.tail _ (List.Mem.tail _ (List.Mem.head _))), (List.forall_mem_cons.mpr ⟨(List.Mem.tail _ (List.Mem.tail _ (List.Mem.tail _ (List.Mem.head _)))), (List.forall_mem_cons.mpr ⟨(List.Mem.tail _ (List.Mem.tail _ (List.Mem.tail _ (List.Mem.tail _ (List.Mem.head _))))), (List.forall_mem_cons.mpr ⟨(List.Mem.tail _ (List.Mem.head _)), (List.forall_mem_cons.mpr ⟨(List.Mem.head _), (fun _ h => by cases h)⟩)⟩)⟩)⟩)⟩) ?_
        exact lp81 ((1500 - 0 : Int).toNat + 1)  (v35) (0) I21a A21a B21a C21a M20 hR21a ⟨by omega, by omega⟩ ⟨by omega, by omega⟩ (show c_bz I A I21a A21a p q (I 2503) by exact bx30) (show (I21a 2503) = (I 2503) ∧ (0 ≤ (I21a 1035) ∧ (I21a 1035) ≤ 10000) ∧ (I21a 200) = (I 200) ∧ (I21a 202) = (I 202) by (repeat' apply And.intro) <;> first | assumption | omega) (show c_Ch (A21a 31) (c_P1 A21a j) (A 29 n) p n by exact k31) (show 0 ≤ (0 : Int) ∧ (0 : Int) ≤ 1500 by omega) (show 1500 - 0 < (((1500 - 0 : Int).toNat + 1 : Nat) : Int) by omega)
      refine w_adv (n := 2) (F' := (17, [(0, .ref 39), (1, .int (Int32.ofInt (n))), (2, .int (Int32.ofInt (x))), (3, .int (Int32.ofInt (y12_3))), (4, .int (Int32.ofInt (y12_4)))], [.int (Int32.ofInt (1500)), .int (Int32.ofInt (y12_4))], M_12)) rfl ?_
      refine w_br2 (a := y12_4) (b := 1500) rfl rfl ⟨by omega, by omega⟩ ⟨by omega, by omega⟩ (fun h170 => ?_) (fun h170 => ?_)
      · have h170 : y12_4 ≥ 1500 := h170
        show w_W _ _ _ (53, [(0, .ref 39), (1, .int (Int32.ofInt (n))), (2, .int (Int32.ofInt (x))), (3, .int (Int32.ofInt (y12_3))), (4, .int (Int32.ofInt (y12_4)))], [], M_12) _
        exact jn53   
      · have h170 : ¬ (y12_4 ≥ 1500) := h170
        show w_W _ _ _ (20, [(0, .ref 39), (1, .int (Int32.ofInt (n))), (2, .int (Int32.ofInt (x))), (3, .int (Int32.ofInt (y12_3))), (4, .int (Int32.ofInt (y12_4)))], [], M_12) _
        refine w_adv (n := 2) (F' := (22, [(0, .ref 39), (1, .int (Int32.ofInt (n))), (2, .int (Int32.ofInt (x))), (3, .int (Int32.ofInt (y12_3))), (4, .int (Int32.ofInt (y12_4)))], [.int (Int32.ofInt ((-1))), .int (Int32.ofInt (y12_3))], M_12)) rfl ?_
        refine w_br2 (a := y12_3) (b := (-1)) rfl rfl ⟨by omega, by omega⟩ ⟨by omega, by omega⟩ (fun h171 => ?_) (fun h171 => ?_)
        · have h171 : y12_3 = (-1) := h171
          show w_W _ _ _ (53, [(0, .ref 39), (1, .int (Int32.ofInt (n))), (2, .int (Int32.ofInt (x))), (3, .int (Int32.ofInt (y12_3))), (4, .int (Int32.ofInt (y12_4)))], [], M_12) _
          exact jn53   
        · have h171 : ¬ (y12_3 = (-1)) := h171
          show w_W _ _ _ (25, [(0, .ref 39), (1, .int (Int32.ofInt (n))), (2, .int (Int32.ofInt (x))), (3, .int (Int32.ofInt (y12_3))), (4, .int (Int32.ofInt (y12_4)))], [], M_12) _
          refine w_adv (n := 2) (F' := (27, [(0, .ref 39), (1, .int (Int32.ofInt (n))), (2, .int (Int32.ofInt (x))), (3, .int (Int32.ofInt (y12_3))), (4, .int (Int32.ofInt (y12_4)))], [.ref 39, .ref 39], M_12)) rfl ?_
          refine w_gf (v := .ref 26) hR_12 rfl rfl rfl rfl ?_
          refine w_adv (n := 1) (F' := (31, [(0, .ref 39), (1, .int (Int32.ofInt (n))), (2, .int (Int32.ofInt (x))), (3, .int (Int32.ofInt (y12_3))), (4, .int (Int32.ofInt (y12_4)))], [.int (Int32.ofInt (y12_3)), .ref 26, .ref 39], M_12)) rfl ?_
          refine w_call (cm := 152) (as := [(0, .ref 26), (1, .int (Int32.ofInt (y12_3)))]) (rest := [.ref 39]) (o := some (8, 26)) rfl (w_fitR hR_12 rfl) (c_Tb (y12_3) hR_12 (show 1 ≤ d by omega) ⟨by omega, by omega⟩) (fun r172 M173 q174 => ?_)
          rcases q174 with ⟨v175, e176, ⟨r177, r178⟩, e179, f180⟩
          rw [e176, e179]
          replace f180 : c_rd (A_12 29) y12_3 v175 := f180
          show w_W _ _ _ (34, [(0, .ref 39), (1, .int (Int32.ofInt (n))), (2, .int (Int32.ofInt (x))), (3, .int (Int32.ofInt (y12_3))), (4, .int (Int32.ofInt (y12_4)))], [.int (Int32.ofInt (v175)), .ref 39], M_12) _
          refine w_call (cm := 158) (as := [(0, .ref 39), (1, .int (Int32.ofInt (v175)))]) (rest := []) (o := some (1, 39)) rfl (w_fitR hR_12 rfl) (c_target (v175) hR_12 (show 4 ≤ d by omega) ⟨by omega, by omega⟩ (show 0 ≤ (I_12 1035) ∧ (I_12 1035) ≤ 10000 by (repeat' apply And.intro) <;> first | assumption | omega) (show 0 ≤ (I_12 2503) by omega)) (fun r181 M182 q183 => ?_)
          rcases q183 with ⟨v184, I183a, A183a, B183a, C183a, e185, ⟨r186, r187⟩, hR183a, f188, f189⟩
          rw [e185]
          replace hR183a : w_Rep w_TC fr X u l I183a A183a B183a C183a M182 := hR183a
          replace f188 : c_bz I_12 A_12 I183a A183a 0 0 (I_12 2503) := f188
          replace f189 : (I183a 2503) = (I_12 2503) ∧ (0 ≤ (I183a 1035) ∧ (I183a 1035) ≤ 10000) ∧ (I183a 200) = (I_12 200) ∧ (I183a 202) = (I_12 202) := f189
          obtain ⟨n190, ⟨n191, n192⟩, n193, n194⟩ := id f189
          clear f189
          have bx195 : c_bz I A I183a A183a p q (I 2503) := c_bz_trans (show c_bz I A I_12 A_12 p q (I 2503) from hi12_0) f188 (Int.le_refl _) (Int.le_refl _) (show p ≤ 0 ∨ 0 ≤ 0 by omega) (show 0 ≤ q ∨ 0 ≤ 0 by omega) (Int.le_refl _) (show (I 2503) ≤ (I_12 2503) by omega)
          have k196 : c_Ch (A183a 31) (c_P1 A183a j) (A 29 n) p n := c_Ch_agr c_P1_fam hi12_2 (c_bz_r f188 (show n ≤ 0 ∨ 0 ≤ p ∨ 0 ≤ 0 by omega))
          clear hi12_2
          show w_W _ _ _ (37, [(0, .ref 39), (1, .int (Int32.ofInt (n))), (2, .int (Int32.ofInt (x))), (3, .int (Int32.ofInt (y12_3))), (4, .int (Int32.ofInt (y12_4)))], [.int (Int32.ofInt (v184))], M182) _
          refine w_adv (n := 2) (F' := (39, [(0, .ref 39), (1, .int (Int32.ofInt (n))), (2, .int (Int32.ofInt (x))), (3, .int (Int32.ofInt (y12_3))), (4, .int (Int32.ofInt (y12_4)))], [.ref 39], M182)) rfl ?_
          refine w_gf (v := .ref 26) hR183a rfl rfl rfl rfl ?_
          refine w_adv (n := 1) (F' := (43, [(0, .ref 39), (1, .int (Int32.ofInt (n))), (2, .int (Int32.ofInt (x))), (3, .int (Int32.ofInt (y12_3))), (4, .int (Int32.ofInt (y12_4)))], [.int (Int32.ofInt (y12_3)), .ref 26], M182)) rfl ?_
          refine w_call (cm := 161) (as := [(0, .ref 26), (1, .int (Int32.ofInt (y12_3)))]) (rest := []) (o := some (8, 26)) rfl (w_fitR hR183a rfl) (c_Tnext (y12_3) hR183a (show 1 ≤ d by omega) ⟨by omega, by omega⟩) (fun r197 M198 q199 => ?_)
          rcases q199 with ⟨v200, e201, ⟨r202, r203⟩, e204, f205⟩
          rw [e201, e204]
          replace f205 : c_rd (A183a 31) y12_3 v200 := f205
          show w_W _ _ _ (46, [(0, .ref 39), (1, .int (Int32.ofInt (n))), (2, .int (Int32.ofInt (x))), (3, .int (Int32.ofInt (y12_3))), (4, .int (Int32.ofInt (y12_4)))], [.int (Int32.ofInt (v200))], M182) _
          refine w_adv (n := 1) (F' := (47, [(3, .int (Int32.ofInt (v200))), (0, .ref 39), (1, .int (Int32.ofInt (n))), (2, .int (Int32.ofInt (x))), (4, .int (Int32.ofInt (y12_4)))], [], M182)) rfl ?_
          refine w_inc (nL := 6) (a := y12_4) rfl rfl rfl (by decide) ?_
          refine w_adv (n := 1) (F' := (12, [(4, .int (Int32.ofInt (y12_4 + 1))), (3, .int (Int32.ofInt (v200))), (0, .ref 39), (1, .int (Int32.ofInt (n))), (2, .int (Int32.ofInt (x)))], [], M182)) rfl ?_
          refine w_ls (ls := [(0, .ref 39), (1, .int (Int32.ofInt (n))), (2, .int (Int32.ofInt (x))), (3, .int (Int32.ofInt (v200))), (4, .int (Int32.ofInt (y12_4 + 1)))]) (show List.Nodup [0, 1, 2, 3, 4] by decide) (show List.Nodup [4, 3, 0, 1, 2] by decide) (List.forall_mem_cons.mpr ⟨(List.Mem.tail _ (List.Mem.tail _ (List.Mem.head _))), (List.forall_mem_cons.mpr ⟨(List.Mem.tail _ (List.Mem.tail _ (List.Mem.tail _ (List.Mem.head _)))), (List.forall_mem_cons.mpr ⟨(List.Mem.tail _ (List.Mem.tail _ (List.Mem.tail _ (List.Mem.tail _ (List.Mem.head _))))), (List.forall_mem_cons.mpr ⟨(List.Mem.tail _ (List.Mem.head _)), (List.forall_mem_cons.mpr ⟨(List.Mem.head _), (fun _ h => by cases h)⟩)⟩)⟩)⟩)⟩) ?_
          exact ih12  (v200) (y12_4 + 1) I183a A183a B183a C183a M182 hR183a ⟨by omega, by omega⟩ ⟨by omega, by omega⟩ (show c_bz I A I183a A183a p q (I 2503) by exact bx195) (show (I183a 2503) = (I 2503) ∧ (0 ≤ (I183a 1035) ∧ (I183a 1035) ≤ 10000) ∧ (I183a 200) = (I 200) ∧ (I183a 202) = (I 202) by (repeat' apply And.intro) <;> first | assumption | omega) (show c_Ch (A183a 31) (c_P1 A183a j) (A 29 n) p n by exact k196) (show 0 ≤ (y12_4 + 1) ∧ (y12_4 + 1) ≤ 1500 by omega) (show 1500 - (y12_4 + 1) < (fu12 : Int) by omega)
  refine w_ls (ls := [(0, .ref 39), (1, .int (Int32.ofInt (n))), (2, .int (Int32.ofInt (x))), (3, .int (Int32.ofInt (v4))), (4, .int (Int32.ofInt (0)))]) (show List.Nodup [0, 1, 2, 3, 4] by decide) (show List.Nodup [4, 3, 0, 1, 2] by decide) (List.forall_mem_cons.mpr ⟨(List.Mem.tail _ (List.Mem.tail _ (List.Mem.head _))), (List.forall_mem_cons.mpr ⟨(List.Mem.tail _ (List.Mem.tail _ (List.Mem.tail _ (List.Mem.head _)))), (List.forall_mem_cons.mpr ⟨(List.Mem.tail _ (List.Mem.tail _ (List.Mem.tail _ (List.Mem.tail _ (List.Mem.head _))))), (List.forall_mem_cons.mpr ⟨(List.Mem.tail _ (List.Mem.head _)), (List.forall_mem_cons.mpr ⟨(List.Mem.head _), (fun _ h => by cases h)⟩)⟩)⟩)⟩)⟩) ?_
  exact lp12 ((1500 - 0 : Int).toNat + 1)  (v4) (0) I A B C M hR ⟨by omega, by omega⟩ ⟨by omega, by omega⟩ (show c_bz I A I A p q (I 2503) by exact c_bz_refl) (show (I 2503) = (I 2503) ∧ (0 ≤ (I 1035) ∧ (I 1035) ≤ 10000) ∧ (I 200) = (I 200) ∧ (I 202) = (I 202) by (repeat' apply And.intro) <;> first | assumption | omega) (show c_Ch (A 31) (c_P1 A j) (A 29 n) p n by exact hC) (show 0 ≤ (0 : Int) ∧ (0 : Int) ≤ 1500 by omega) (show 1500 - 0 < (((1500 - 0 : Int).toNat + 1 : Nat) : Int) by omega)
