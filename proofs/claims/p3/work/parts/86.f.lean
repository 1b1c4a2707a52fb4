def cb_record_Q (fr : Nat → Bool) (X : Nat → Option (q_C (Nat → Int32))) (u l : Nat) (I : Nat → Int) (A : Nat → Int → Int) (B C : Nat → Nat) (M : w_M) (n : Int) (x : Int) (i : Nat) (p q : Int) : w_X → w_M → Prop := fun r M' => (∃ (I' : Nat → Int) (A' : Nat → Int → Int) (B' C' : Nat → Nat), (r = .inl none) ∧ (w_Rep w_TC fr X u l I' A' B' C' M') ∧ (c_bz I A I' A' p q (I 2503)) ∧ ((I' 2503) = (I 2503) ∧ (0 ≤ (I' 1035) ∧ (I' 1035) ≤ 10000) ∧ (I' 200) = (I 200) ∧ (I' 202) = (I 202)))
set_option maxHeartbeats 100000000 in
set_option maxRecDepth 100000 in
theorem cb_record {L : Nat} {xs : Nat → Int32} {d : Nat} {fr : Nat → Bool} {X : Nat → Option (q_C (Nat → Int32))} {u l : Nat} {I : Nat → Int} {A : Nat → Int → Int} {B C : Nat → Nat} {M : w_M} (hB0 : c_BALL L xs d) (n : Int) (x : Int) (i : Nat) (p q : Int) (hR : w_Rep w_TC fr X u l I A B C M) (hd : 8 * i + 3 ≤ d) (r_n : w_in n) (r_x : w_in x) (hKI : 0 ≤ (I 1035) ∧ (I 1035) ≤ 10000) (hKS : c_ks A) (hNM : 36 ≤ (I 200) ∧ (I 200) ≤ 419 ∧ 0 ≤ (I 202) ∧ (I 202) ≤ 24) (hLN : ∀ i, (A 5) i ≤ 24) (hW0 : 0 ≤ (I 2503)) (hWB : (I 2503) + 7000 * (i : Int) ≤ 1000000) (hW : c_W A i n p q) (hk : (A 27) n = 5) (hpq : 0 ≤ p ∧ q ≤ 3001) : w_W (z_P L xs) d 157 (0, [(0, .ref 39), (1, .int (Int32.ofInt (n))), (2, .int (Int32.ofInt (x)))], [], M) (cb_record_Q fr X u l I A B C M n x i p q) := by
  obtain ⟨ra_n, rb_n⟩ := r_n
  obtain ⟨ra_x, rb_x⟩ := r_x
  obtain ⟨d, rfl⟩ : ∃ d0, d = d0 + 1 := ⟨d - 1, by omega⟩
  obtain ⟨nb1, nb2⟩ := c_W_in hW
  obtain ⟨j, hj⟩ := c_W_succ hW
  have hW1 : c_W A (j + 1) n p q := by rw [← hj]; exact hW
  have hC : c_Ch (A 31) (c_P1 A j) (A 29 n) p n := hW1.2.2.k5 hk
  refine w_adv (n := 1) (F' := (1, [(0, .ref 39), (1, .int (Int32.ofInt (n))), (2, .int (Int32.ofInt (x)))], [.ref 39], M)) rfl ?_
  refine w_gf (v := .ref 26) hR rfl rfl rfl rfl ?_
  refine w_adv (n := 1) (F' := (5, [(0, .ref 39), (1, .int (Int32.ofInt (n))), (2, .int (Int32.ofInt (x)))], [.int (Int32.ofInt (n)), .ref 26], M)) rfl ?_
  refine w_call (cm := 152) (as := [(0, .ref 26), (1, .int (Int32.ofInt (n)))]) (rest := []) (o := some (8, 26)) rfl (w_fitR hR rfl) (c_Tb (n) hR (show 1 ≤ d by omega) ⟨by omega, by omega⟩) (fun r1 M2 q3 => ?_)
  rcases q3 with ⟨v4, e5, ⟨r6, r7⟩, e8, f9⟩
  rw [e5, e8]
  replace f9 : c_rd (A 29) n v4 := f9
  show w_W _ _ _ (8, [(0, .ref 39), (1, .int (Int32.ofInt (n))), (2, .int (Int32.ofInt (x)))], [.int (Int32.ofInt (v4))], M) _
  refine w_adv (n := 3) (F' := (12, [(4, .int (Int32.ofInt (0))), (3, .int (Int32.ofInt (v4))), (0, .ref 39), (1, .int (Int32.ofInt (n))), (2, .int (Int32.ofInt (x)))], [], M)) rfl ?_
  have lp12 : ∀ fu12 : Nat, ∀ (y12_3 : Int) (y12_4 : Int) (I_12 : Nat → Int) (A_12 : Nat → Int → Int) (B_12 C_12 : Nat → Nat) (M_12 : w_M) (hR_12 : w_Rep w_TC fr X u l I_12 A_12 B_12 C_12 M_12), w_in y12_3 → w_in y12_4 → c_bz I A I_12 A_12 p q (I 2503) → (I_12 2503) = (I 2503) ∧ (0 ≤ (I_12 1035) ∧ (I_12 1035) ≤ 10000) ∧ (I_12 200) = (I 200) ∧ (I_12 202) = (I 202) → c_Ch (A_12 31) (c_P1 A_12 j) (A 29 n) p n → 0 ≤ y12_4 ∧ y12_4 ≤ 1500 → 1500 - y12_4 < (fu12 : Int) → w_W (z_P L xs) (d + 1) 157 (12, [(0, .ref 39), (1, .int (Int32.ofInt (n))), (2, .int (Int32.ofInt (x))), (3, .int (Int32.ofInt (y12_3))), (4, .int (Int32.ofInt (y12_4)))], [], M_12) (cb_record_Q fr X u l I A B C M n x i p q) := by
    intro fu12
    induction fu12 with
    | zero =>
      intro y12_3 y12_4 I_12 A_12 B_12 C_12 M_12 hR_12 ⟨ra_y12_3, rb_y12_3⟩ ⟨ra_y12_4, rb_y12_4⟩ hi12_0 hi12_1 hi12_2 hi12_3 hn12
      exfalso
      omega
    | succ fu12 ih12 =>
      intro y12_3 y12_4 I_12 A_12 B_12 C_12 M_12 hR_12 ⟨ra_y12_3, rb_y12_3⟩ ⟨ra_y12_4, rb_y12_4⟩ hi12_0 hi12_1 hi12_2 hi12_3 hn12
      have jn53 : w_W (z_P L xs) (d + 1) 157 (53, [(0, .ref 39), (1, .int (Int32.ofInt (n))), (2, .int (Int32.ofInt (x))), (3, .int (Int32.ofInt (y12_3))), (4, .int (Int32.ofInt (y12_4)))], [], M_12) (cb_record_Q fr X u l I A B C M n x i p q) := by
        skip
        refine w_adv (n := 4) (F' := (58, [(0, .ref 39), (1, .int (Int32.ofInt (n))), (2, .int (Int32.ofInt (x))), (3, .int (Int32.ofInt (y12_3))), (4, .int (Int32.ofInt (y12_4)))], [.ref 39, .int (Int32.ofInt (x)), .int (Int32.ofInt (6)), .ref 39], M_12)) rfl ?_
        refine w_gf (v := .ref 26) hR_12 rfl rfl rfl rfl ?_
        refine w_adv (n := 1) (F' := (62, [(0, .ref 39), (1, .int (Int32.ofInt (n))), (2, .int (Int32.ofInt (x))), (3, .int (Int32.ofInt (y12_3))), (4, .int (Int32.ofInt (y12_4)))], [.int (Int32.ofInt (n)), .ref 26, .int (Int32.ofInt (x)), .int (Int32.ofInt (6)), .ref 39], M_12)) rfl ?_
        refine w_call (cm := 145) (as := [(0, .ref 26), (1, .int (Int32.ofInt (n)))]) (rest := [.int (Int32.ofInt (x)), .int (Int32.ofInt (6)), .ref 39]) (o := some (8, 26)) rfl (w_fitR hR_12 rfl) (c_Ta (n) hR_12 (show 1 ≤ d by omega) ⟨by omega, by omega⟩) (fun r10 M11 q12 => ?_)
        rcases q12 with ⟨v13, e14, ⟨r15, r16⟩, e17, f18⟩
        rw [e14, e17]
        replace f18 : c_rd (A_12 28) n v13 := f18
        show w_W _ _ _ (65, [(0, .ref 39), (1, .int (Int32.ofInt (n))), (2, .int (Int32.ofInt (x))), (3, .int (Int32.ofInt (y12_3))), (4, .int (Int32.ofInt (y12_4)))], [.int (Int32.ofInt (v13)), .int (Int32.ofInt (x)), .int (Int32.ofInt (6)), .ref 39], M_12) _
        refine w_adv (n := 1) (F' := (66, [(0, .ref 39), (1, .int (Int32.ofInt (n))), (2, .int (Int32.ofInt (x))), (3, .int (Int32.ofInt (y12_3))), (4, .int (Int32.ofInt (y12_4)))], [.int (Int32.ofInt ((-1))), .int (Int32.ofInt (v13)), .int (Int32.ofInt (x)), .int (Int32.ofInt (6)), .ref 39], M_12)) rfl ?_
        refine w_call (cm := 148) (as := [(0, .ref 39), (1, .int (Int32.ofInt (6))), (2, .int (Int32.ofInt (x))), (3, .int (Int32.ofInt (v13))), (4, .int (Int32.ofInt ((-1))))]) (rest := []) (o := some (1, 39)) rfl (w_fitR hR_12 rfl) (c_emit (6) (x) (v13) ((-1)) hR_12 (show 4 ≤ d by omega) ⟨by omega, by omega⟩ ⟨by omega, by omega⟩ ⟨by omega, by omega⟩ ⟨by omega, by omega⟩ (show 0 ≤ (I_12 1035) ∧ (I_12 1035) ≤ 10000 by (repeat' apply And.intro) <;> first | assumption | omega) (show 0 ≤ (I_12 2503) by omega)) (fun r19 M20 q21 => ?_)
        rcases q21 with ⟨I21a, A21a, B21a, C21a, e22, hR21a, f23, f24⟩
        rw [e22]
        replace hR21a : w_Rep w_TC fr X u l I21a A21a B21a C21a M20 := hR21a
        replace f23 : c_bz I_12 A_12 I21a A21a 0 0 (I_12 2503) := f23
        replace f24 : (I21a 2503) = (I_12 2503) ∧ (0 ≤ (I21a 1035) ∧ (I21a 1035) ≤ 10000) ∧ (I21a 200) = (I_12 200) ∧ (I21a 202) = (I_12 202) := f24
        obtain ⟨n25, ⟨n26, n27⟩, n28, n29⟩ := id f24
        clear f24
        have bx30 : c_bz I A I21a A21a p q (I 2503) := c_bz_trans (show c_bz I A I_12 A_12 p q (I 2503) from hi12_0) f23 (Int.le_refl _) (Int.le_refl _) (show p ≤ 0 ∨ 0 ≤ 0 by omega) (show 0 ≤ q ∨ 0 ≤ 0 by omega) (Int.le_refl _) (show (I 2503) ≤ (I_12 2503) by omega)
        have k31 : c_Ch (A21a 31) (c_P1 A21a j) (A 29 n) p n := c_Ch_agr c_P1_fam hi12_2 (c_bz_r f23 (show n ≤ 0 ∨ 0 ≤ p ∨ 0 ≤ 0 by omega))
        clear hi12_2
        show w_W _ _ _ (69, [(0, .ref 39), (1, .int (Int32.ofInt (n))), (2, .int (Int32.ofInt (x))), (3, .int (Int32.ofInt (y12_3))), (4, .int (Int32.ofInt (y12_4)))], [], M20) _
        refine w_adv (n := 1) (F' := (70, [(0, .ref 39), (1, .int (Int32.ofInt (n))), (2, .int (Int32.ofInt (x))), (3, .int (Int32.ofInt (y12_3))), (4, .int (Int32.ofInt (y12_4)))], [.ref 39], M20)) rfl ?_
        refine w_gf (v := .ref 26) hR21a rfl rfl rfl rfl ?_
        refine w_adv (n := 1) (F' := (74, [(0, .ref 39), (1, .int (Int32.ofInt (n))), (2, .int (Int32.ofInt (x))), (3, .int (Int32.ofInt (y12_3))), (4, .int (Int32.ofInt (y12_4)))], [.int (Int32.ofInt (n)), .ref 26], M20)) rfl ?_
        refine w_call (cm := 152) (as := [(0, .ref 26), (1, .int (Int32.ofInt (n)))]) (rest := []) (o := some (8, 26)) rfl (w_fitR hR21a rfl) (c_Tb (n) hR21a (show 1 ≤ d by omega) ⟨by omega, by omega⟩) (fun r32 M33 q34 => ?_)
        rcases q34 with ⟨v35, e36, ⟨r37, r38⟩, e39, f40⟩
        rw [e36, e39]
        replace f40 : c_rd (A21a 29) n v35 := f40
        show w_W _ _ _ (77, [(0, .ref 39), (1, .int (Int32.ofInt (n))), (2, .int (Int32.ofInt (x))), (3, .int (Int32.ofInt (y12_3))), (4, .int (Int32.ofInt (y12_4)))], [.int (Int32.ofInt (v35))], M20) _
        refine w_adv (n := 3) (F' := (81, [(4, .int (Int32.ofInt (0))), (3, .int (Int32.ofInt (v35))), (0, .ref 39), (1, .int (Int32.ofInt (n))), (2, .int (Int32.ofInt (x)))], [], M20)) rfl ?_
        have lp81 : ∀ fu81 : Nat, ∀ (y81_3 : Int) (y81_4 : Int) (I_81 : Nat → Int) (A_81 : Nat → Int → Int) (B_81 C_81 : Nat → Nat) (M_81 : w_M) (hR_81 : w_Rep w_TC fr X u l I_81 A_81 B_81 C_81 M_81), w_in y81_3 → w_in y81_4 → c_bz I A I_81 A_81 p q (I 2503) → (I_81 2503) = (I 2503) ∧ (0 ≤ (I_81 1035) ∧ (I_81 1035) ≤ 10000) ∧ (I_81 200) = (I 200) ∧ (I_81 202) = (I 202) → c_Ch (A_81 31) (c_P1 A_81 j) (A 29 n) p n → 0 ≤ y81_4 ∧ y81_4 ≤ 1500 → 1500 - y81_4 < (fu81 : Int) → w_W (z_P L xs) (d + 1) 157 (81, [(0, .ref 39), (1, .int (Int32.ofInt (n))), (2, .int (Int32.ofInt (x))), (3, .int (Int32.ofInt (y81_3))), (4, .int (Int32.ofInt (y81_4)))], [], M_81) (cb_record_Q fr X u l I A B C M n x i p q) := by
          intro fu81
          induction fu81 with
          | zero =>
            intro y81_3 y81_4 I_81 A_81 B_81 C_81 M_81 hR_81 ⟨ra_y81_3, rb_y81_3⟩ ⟨ra_y81_4, rb_y81_4⟩ hi81_0 hi81_1 hi81_2 hi81_3 hn81
            exfalso
            omega
          | succ fu81 ih81 =>
            intro y81_3 y81_4 I_81 A_81 B_81 C_81 M_81 hR_81 ⟨ra_y81_3, rb_y81_3⟩ ⟨ra_y81_4, rb_y81_4⟩ hi81_0 hi81_1 hi81_2 hi81_3 hn81
            have jn139 : w_W (z_P L xs) (d + 1) 157 (139, [(0, .ref 39), (1, .int (Int32.ofInt (n))), (2, .int (Int32.ofInt (x))), (3, .int (Int32.ofInt (y81_3))), (4, .int (Int32.ofInt (y81_4)))], [], M_81) (cb_record_Q fr X u l I A B C M n x i p q) := by
              skip
              refine w_adv (n := 1) (F' := (140, [(0, .ref 39), (1, .int (Int32.ofInt (n))), (2, .int (Int32.ofInt (x))), (3, .int (Int32.ofInt (y81_3))), (4, .int (Int32.ofInt (y81_4)))], [.ref 39], M_81)) rfl ?_
              refine w_gf (v := .ref 16) hR_81 rfl rfl rfl rfl ?_
              refine w_adv (n := 1) (F' := (144, [(0, .ref 39), (1, .int (Int32.ofInt (n))), (2, .int (Int32.ofInt (x))), (3, .int (Int32.ofInt (y81_3))), (4, .int (Int32.ofInt (y81_4)))], [.int (Int32.ofInt (0)), .ref 16], M_81)) rfl ?_
              refine w_call (cm := 165) (as := [(0, .ref 16), (1, .int (Int32.ofInt (0)))]) (rest := []) (o := some (2, 16)) rfl (w_fitR hR_81 rfl) (c_ksp (0) hR_81 (show 4 ≤ d by omega) ⟨by omega, by omega⟩ (show 0 ≤ (I_81 1035) ∧ (I_81 1035) ≤ 10000 by (repeat' apply And.intro) <;> first | assumption | omega) (show c_ks A_81 by exact (show c_bz I A I_81 A_81 p q (I 2503) from hi81_0).2.2.2.2 hKS) (show 36 ≤ (I_81 200) ∧ (I_81 200) ≤ 419 ∧ 0 ≤ (I_81 202) ∧ (I_81 202) ≤ 24 by (repeat' apply And.intro) <;> first | assumption | omega) (show ∀ i, (A_81 5) i ≤ 24 by rw [show (A_81 5) = (A 5) from (show c_bz I A I_81 A_81 p q (I 2503) from hi81_0).2.1 5 rfl]; exact hLN) (show 0 ≤ (I_81 2503) by omega) (show 0 ≤ 0 ∧ 0 ≤ 2 by first | assumption | omega)) (fun r41 M42 q43 => ?_)
              rcases q43 with ⟨I43a, A43a, B43a, C43a, e44, hR43a, f45, f46, f47⟩
              rw [e44]
              replace hR43a : w_Rep w_TC fr X u l I43a A43a B43a C43a M42 := hR43a
              replace f45 : c_bz I_81 A_81 I43a A43a 0 0 (I_81 2503) := f45
              replace f46 : (I43a 2503) = (I_81 2503) ∧ (0 ≤ (I43a 1035) ∧ (I43a 1035) ≤ 10000) ∧ (I43a 200) = (I_81 200) ∧ (I43a 202) = (I_81 202) := f46
              obtain ⟨n48, ⟨n49, n50⟩, n51, n52⟩ := id f46
              clear f46
              replace f47 : (I43a 2502) = (I_81 2502) := f47
              have bx53 : c_bz I A I43a A43a p q (I 2503) := c_bz_trans (show c_bz I A I_81 A_81 p q (I 2503) from hi81_0) f45 (Int.le_refl _) (Int.le_refl _) (show p ≤ 0 ∨ 0 ≤ 0 by omega) (show 0 ≤ q ∨ 0 ≤ 0 by omega) (Int.le_refl _) (show (I 2503) ≤ (I_81 2503) by omega)
              have k54 : c_Ch (A43a 31) (c_P1 A43a j) (A 29 n) p n := c_Ch_agr c_P1_fam hi81_2 (c_bz_r f45 (show n ≤ 0 ∨ 0 ≤ p ∨ 0 ≤ 0 by omega))
              clear hi81_2
              show w_W _ _ _ (147, [(0, .ref 39), (1, .int (Int32.ofInt (n))), (2, .int (Int32.ofInt (x))), (3, .int (Int32.ofInt (y81_3))), (4, .int (Int32.ofInt (y81_4)))], [], M42) _
              refine w_adv (n := 1) (F' := (148, [(0, .ref 39), (1, .int (Int32.ofInt (n))), (2, .int (Int32.ofInt (x))), (3, .int (Int32.ofInt (y81_3))), (4, .int (Int32.ofInt (y81_4)))], [.ref 39], M42)) rfl ?_
              refine w_gf (v := .ref 26) hR43a rfl rfl rfl rfl ?_
              refine w_adv (n := 1) (F' := (152, [(0, .ref 39), (1, .int (Int32.ofInt (n))), (2, .int (Int32.ofInt (x))), (3, .int (Int32.ofInt (y81_3))), (4, .int (Int32.ofInt (y81_4)))], [.int (Int32.ofInt (n)), .ref 26], M42)) rfl ?_
              refine w_call (cm := 152) (as := [(0, .ref 26), (1, .int (Int32.ofInt (n)))]) (rest := []) (o := some (8, 26)) rfl (w_fitR hR43a rfl) (c_Tb (n) hR43a (show 1 ≤ d by omega) ⟨by omega, by omega⟩) (fun r55 M56 q57 => ?_)
              rcases q57 with ⟨v58, e59, ⟨r60, r61⟩, e62, f63⟩
              rw [e59, e62]
              replace f63 : c_rd (A43a 29) n v58 := f63
              have ev58 : v58 = (A 29 n) := (c_rd_eq f63 (by omega) (by omega)).trans (c_bz_n (show c_bz I A I43a A43a p q (I 2503) from bx53) (show A 27 n ≠ 16 from (by omega))).1
              show w_W _ _ _ (155, [(0, .ref 39), (1, .int (Int32.ofInt (n))), (2, .int (Int32.ofInt (x))), (3, .int (Int32.ofInt (y81_3))), (4, .int (Int32.ofInt (y81_4)))], [.int (Int32.ofInt (v58))], M42) _
              refine w_adv (n := 3) (F' := (159, [(4, .int (Int32.ofInt (0))), (3, .int (Int32.ofInt (v58))), (0, .ref 39), (1, .int (Int32.ofInt (n))), (2, .int (Int32.ofInt (x)))], [], M42)) rfl ?_
              have lp159 : ∀ fu159 : Nat, ∀ (w_159 : Int) (y159_3 : Int) (y159_4 : Int) (I_159 : Nat → Int) (A_159 : Nat → Int → Int) (B_159 C_159 : Nat → Nat) (M_159 : w_M) (hR_159 : w_Rep w_TC fr X u l I_159 A_159 B_159 C_159 M_159), w_in y159_3 → w_in y159_4 → c_bz I A I_159 A_159 p q (I 2503) → (I_159 2503) = (I 2503) ∧ (0 ≤ (I_159 1035) ∧ (I_159 1035) ≤ 10000) ∧ (I_159 200) = (I 200) ∧ (I_159 202) = (I 202) → c_Ch (A_159 31) (c_P1 A_159 j) y159_3 w_159 n → p ≤ w_159 → 0 ≤ y159_4 ∧ y159_4 ≤ 1500 → 1500 - y159_4 < (fu159 : Int) → w_W (z_P L xs) (d + 1) 157 (159, [(0, .ref 39), (1, .int (Int32.ofInt (n))), (2, .int (Int32.ofInt (x))), (3, .int (Int32.ofInt (y159_3))), (4, .int (Int32.ofInt (y159_4)))], [], M_159) (cb_record_Q fr X u l I A B C M n x i p q) := by
                intro fu159
                induction fu159 with
                | zero =>
                  intro w_159 y159_3 y159_4 I_159 A_159 B_159 C_159 M_159 hR_159 ⟨ra_y159_3, rb_y159_3⟩ ⟨ra_y159_4, rb_y159_4⟩ hi159_0 hi159_1 hi159_2 hi159_3 hi159_4 hn159
                  exfalso
                  omega
                | succ fu159 ih159 =>
                  intro w_159 y159_3 y159_4 I_159 A_159 B_159 C_159 M_159 hR_159 ⟨ra_y159_3, rb_y159_3⟩ ⟨ra_y159_4, rb_y159_4⟩ hi159_0 hi159_1 hi159_2 hi159_3 hi159_4 hn159
                  refine w_adv (n := 2) (F' := (164, [(0, .ref 39), (1, .int (Int32.ofInt (n))), (2, .int (Int32.ofInt (x))), (3, .int (Int32.ofInt (y159_3))), (4, .int (Int32.ofInt (y159_4)))], [.int (Int32.ofInt (1500)), .int (Int32.ofInt (y159_4))], M_159)) rfl ?_
                  refine w_br2 (a := y159_4) (b := 1500) rfl rfl ⟨by omega, by omega⟩ ⟨by omega, by omega⟩ (fun h64 => ?_) (fun h64 => ?_)
                  · have h64 : y159_4 ≥ 1500 := h64
                    show w_W _ _ _ (221, [(0, .ref 39), (1, .int (Int32.ofInt (n))), (2, .int (Int32.ofInt (x))), (3, .int (Int32.ofInt (y159_3))), (4, .int (Int32.ofInt (y159_4)))], [], M_159) _
                    refine w_fin (r := .inl none) (M' := M_159) rfl ?_
                    exact ⟨I_159, A_159, B_159, C_159, rfl, hR_159, (show c_bz I A I_159 A_159 p q (I 2503) by exact hi159_0), (show (I_159 2503) = (I 2503) ∧ (0 ≤ (I_159 1035) ∧ (I_159 1035) ≤ 10000) ∧ (I_159 200) = (I 200) ∧ (I_159 202) = (I 202) by (repeat' apply And.intro) <;> first | assumption | omega)⟩
                  · have h64 : ¬ (y159_4 ≥ 1500) := h64
                    show w_W _ _ _ (167, [(0, .ref 39), (1, .int (Int32.ofInt (n))), (2, .int (Int32.ofInt (x))), (3, .int (Int32.ofInt (y159_3))), (4, .int (Int32.ofInt (y159_4)))], [], M_159) _
                    refine w_adv (n := 2) (F' := (169, [(0, .ref 39), (1, .int (Int32.ofInt (n))), (2, .int (Int32.ofInt (x))), (3, .int (Int32.ofInt (y159_3))), (4, .int (Int32.ofInt (y159_4)))], [.int (Int32.ofInt ((-1))), .int (Int32.ofInt (y159_3))], M_159)) rfl ?_
                    refine w_br2 (a := y159_3) (b := (-1)) rfl rfl ⟨by omega, by omega⟩ ⟨by omega, by omega⟩ (fun h65 => ?_) (fun h65 => ?_)
                    · have h65 : y159_3 = (-1) := h65
                      show w_W _ _ _ (221, [(0, .ref 39), (1, .int (Int32.ofInt (n))), (2, .int (Int32.ofInt (x))), (3, .int (Int32.ofInt (y159_3))), (4, .int (Int32.ofInt (y159_4)))], [], M_159) _
                      refine w_fin (r := .inl none) (M' := M_159) rfl ?_
                      exact ⟨I_159, A_159, B_159, C_159, rfl, hR_159, (show c_bz I A I_159 A_159 p q (I 2503) by exact hi159_0), (show (I_159 2503) = (I 2503) ∧ (0 ≤ (I_159 1035) ∧ (I_159 1035) ≤ 10000) ∧ (I_159 200) = (I 200) ∧ (I_159 202) = (I 202) by (repeat' apply And.intro) <;> first | assumption | omega)⟩
                    · have h65 : ¬ (y159_3 = (-1)) := h65
                      show w_W _ _ _ (172, [(0, .ref 39), (1, .int (Int32.ofInt (n))), (2, .int (Int32.ofInt (x))), (3, .int (Int32.ofInt (y159_3))), (4, .int (Int32.ofInt (y159_4)))], [], M_159) _
                      obtain ⟨cr, cg1, cg2, cg3, cg4, cg5⟩ := c_Ch_ne hi159_2 (by omega)
                      skip
                      skip
                      refine w_adv (n := 1) (F' := (173, [(0, .ref 39), (1, .int (Int32.ofInt (n))), (2, .int (Int32.ofInt (x))), (3, .int (Int32.ofInt (y159_3))), (4, .int (Int32.ofInt (y159_4)))], [.ref 39], M_159)) rfl ?_
                      refine w_gf (v := .ref 26) hR_159 rfl rfl rfl rfl ?_
                      refine w_adv (n := 1) (F' := (177, [(0, .ref 39), (1, .int (Int32.ofInt (n))), (2, .int (Int32.ofInt (x))), (3, .int (Int32.ofInt (y159_3))), (4, .int (Int32.ofInt (y159_4)))], [.int (Int32.ofInt (y159_3)), .ref 26], M_159)) rfl ?_
                      refine w_call (cm := 152) (as := [(0, .ref 26), (1, .int (Int32.ofInt (y159_3)))]) (rest := []) (o := some (8, 26)) rfl (w_fitR hR_159 rfl) (c_Tb (y159_3) hR_159 (show 1 ≤ d by omega) ⟨by omega, by omega⟩) (fun r66 M67 q68 => ?_)
                      rcases q68 with ⟨v69, e70, ⟨r71, r72⟩, e73, f74⟩
                      rw [e70, e73]
                      replace f74 : c_rd (A_159 29) y159_3 v69 := f74
                      have ev69 : v69 = (A_159 29 y159_3) := c_rd_eq f74 (by omega) (by omega)
                      show w_W _ _ _ (180, [(0, .ref 39), (1, .int (Int32.ofInt (n))), (2, .int (Int32.ofInt (x))), (3, .int (Int32.ofInt (y159_3))), (4, .int (Int32.ofInt (y159_4)))], [.int (Int32.ofInt (v69))], M_159) _
                      refine w_adv (n := 3) (F' := (185, [(5, .int (Int32.ofInt (v69))), (0, .ref 39), (1, .int (Int32.ofInt (n))), (2, .int (Int32.ofInt (x))), (3, .int (Int32.ofInt (y159_3))), (4, .int (Int32.ofInt (y159_4)))], [.int (Int32.ofInt (v69)), .ref 39], M_159)) rfl ?_
                      refine w_call (cm := 154) (as := [(0, .ref 39), (1, .int (Int32.ofInt (v69)))]) (rest := []) (o := some (1, 39)) rfl (w_fitR hR_159 rfl) (c_isVariable (v69) hR_159 (show 2 ≤ d by omega) ⟨by omega, by omega⟩) (fun r75 M76 q77 => ?_)
                      rcases q77 with ⟨e78, e79⟩ | ⟨e80, e81⟩
                      · rw [e78, e79]
                        show w_W _ _ _ (188, [(5, .int (Int32.ofInt (v69))), (0, .ref 39), (1, .int (Int32.ofInt (n))), (2, .int (Int32.ofInt (x))), (3, .int (Int32.ofInt (y159_3))), (4, .int (Int32.ofInt (y159_4)))], [.int (Int32.ofInt (1))], M_159) _
                        refine w_adv (n := 2) (F' := (207, [(5, .int (Int32.ofInt (v69))), (0, .ref 39), (1, .int (Int32.ofInt (n))), (2, .int (Int32.ofInt (x))), (3, .int (Int32.ofInt (y159_3))), (4, .int (Int32.ofInt (y159_4)))], [.ref 39], M_159)) rfl ?_
                        refine w_gf (v := .ref 26) hR_159 rfl rfl rfl rfl ?_
                        refine w_adv (n := 1) (F' := (211, [(5, .int (Int32.ofInt (v69))), (0, .ref 39), (1, .int (Int32.ofInt (n))), (2, .int (Int32.ofInt (x))), (3, .int (Int32.ofInt (y159_3))), (4, .int (Int32.ofInt (y159_4)))], [.int (Int32.ofInt (y159_3)), .ref 26], M_159)) rfl ?_
                        refine w_call (cm := 161) (as := [(0, .ref 26), (1, .int (Int32.ofInt (y159_3)))]) (rest := []) (o := some (8, 26)) rfl (w_fitR hR_159 rfl) (c_Tnext (y159_3) hR_159 (show 1 ≤ d by omega) ⟨by omega, by omega⟩) (fun r82 M83 q84 => ?_)
                        rcases q84 with ⟨v85, e86, ⟨r87, r88⟩, e89, f90⟩
                        rw [e86, e89]
                        replace f90 : c_rd (A_159 31) y159_3 v85 := f90
                        have ev85 : v85 = (A_159 31 y159_3) := (c_rd_eq f90 (by omega) (by omega)).trans (congrFun ((c_bz_ke (show c_bz I A I_159 A_159 p q (I 2503) from hi159_0)).2.2.trans (c_bz_ke (show c_bz I A I_159 A_159 p q (I 2503) from hi159_0)).2.2.symm) _)
                        show w_W _ _ _ (214, [(5, .int (Int32.ofInt (v69))), (0, .ref 39), (1, .int (Int32.ofInt (n))), (2, .int (Int32.ofInt (x))), (3, .int (Int32.ofInt (y159_3))), (4, .int (Int32.ofInt (y159_4)))], [.int (Int32.ofInt (v85))], M_159) _
                        refine w_adv (n := 1) (F' := (215, [(3, .int (Int32.ofInt (v85))), (5, .int (Int32.ofInt (v69))), (0, .ref 39), (1, .int (Int32.ofInt (n))), (2, .int (Int32.ofInt (x))), (4, .int (Int32.ofInt (y159_4)))], [], M_159)) rfl ?_
                        refine w_inc (nL := 6) (a := y159_4) rfl rfl rfl (by decide) ?_
                        refine w_adv (n := 1) (F' := (159, [(4, .int (Int32.ofInt (y159_4 + 1))), (3, .int (Int32.ofInt (v85))), (5, .int (Int32.ofInt (v69))), (0, .ref 39), (1, .int (Int32.ofInt (n))), (2, .int (Int32.ofInt (x)))], [], M_159)) rfl ?_
                        refine w_ls (ls := [(0, .ref 39), (1, .int (Int32.ofInt (n))), (2, .int (Int32.ofInt (x))), (3, .int (Int32.ofInt (v85))), (4, .int (Int32.ofInt (y159_4 + 1)))]) (show List.Nodup [0, 1, 2, 3, 4] by decide) (show List.Nodup [4, 3, 5, 0, 1, 2] by decide) (List.forall_mem_cons.mpr ⟨(List.Mem.tail _ (List.Mem.tail _ (List.Mem.tail _ (List.Mem.head _)))), (List.forall_mem_cons.mpr ⟨(List.Mem.tail _ (List.Mem.tail _ (List.Mem.tail _ (List.Mem.tail _ (List.Mem.head _))))), (List.forall_mem_cons.mpr ⟨(List.Mem.tail _ (List.Mem.tail _ (List.Mem.tail _ (List.Mem.tail _ (List.Mem.tail _ (List.Mem.head _)))))), (List.forall_mem_cons.mpr ⟨(List.Mem.tail _ (List.Mem.head _)), (List.forall_mem_cons.mpr ⟨(List.Mem.head _), (fun _ h => by cases h)⟩)⟩)⟩)⟩)⟩) ?_
                        exact ih159 (cr) (v85) (y159_4 + 1) I_159 A_159 B_159 C_159 M_159 hR_159 ⟨by omega, by omega⟩ ⟨by omega, by omega⟩ (show c_bz I A I_159 A_159 p q (I 2503) by exact hi159_0) (show (I_159 2503) = (I 2503) ∧ (0 ≤ (I_159 1035) ∧ (I_159 1035) ≤ 10000) ∧ (I_159 200) = (I 200) ∧ (I_159 202) = (I 202) by (repeat' apply And.intro) <;> first | assumption | omega) (show c_Ch (A_159 31) (c_P1 A_159 j) v85 cr n by rw [ev85]; exact cg5) (show p ≤ cr by omega) (show 0 ≤ (y159_4 + 1) ∧ (y159_4 + 1) ≤ 1500 by omega) (show 1500 - (y159_4 + 1) < (fu159 : Int) by omega)
                      · rw [e80, e81]
                        show w_W _ _ _ (188, [(5, .int (Int32.ofInt (v69))), (0, .ref 39), (1, .int (Int32.ofInt (n))), (2, .int (Int32.ofInt (x))), (3, .int (Int32.ofInt (y159_3))), (4, .int (Int32.ofInt (y159_4)))], [.int (Int32.ofInt (0))], M_159) _
                        refine w_adv (n := 4) (F' := (195, [(5, .int (Int32.ofInt (v69))), (0, .ref 39), (1, .int (Int32.ofInt (n))), (2, .int (Int32.ofInt (x))), (3, .int (Int32.ofInt (y159_3))), (4, .int (Int32.ofInt (y159_4)))], [.ref 39, .int (Int32.ofInt (v69)), .ref 39], M_159)) rfl ?_
                        refine w_gf (v := .ref 26) hR_159 rfl rfl rfl rfl ?_
                        refine w_adv (n := 1) (F' := (200, [(5, .int (Int32.ofInt (v69))), (0, .ref 39), (1, .int (Int32.ofInt (n))), (2, .int (Int32.ofInt (x))), (3, .int (Int32.ofInt (y159_3))), (4, .int (Int32.ofInt (y159_4)))], [.int (Int32.ofInt (v69)), .ref 26, .int (Int32.ofInt (v69)), .ref 39], M_159)) rfl ?_
                        refine w_call (cm := 162) (as := [(0, .ref 26), (1, .int (Int32.ofInt (v69)))]) (rest := [.int (Int32.ofInt (v69)), .ref 39]) (o := some (8, 26)) rfl (w_fitR hR_159 rfl) (c_Tree_variable (v69) hR_159 (show 2 ≤ d by omega) ⟨by omega, by omega⟩) (fun r91 M92 q93 => ?_)
                        rcases q93 with ⟨v94, e95, ⟨r96, r97⟩, e98⟩
                        rw [e95, e98]
                        show w_W _ _ _ (203, [(5, .int (Int32.ofInt (v69))), (0, .ref 39), (1, .int (Int32.ofInt (n))), (2, .int (Int32.ofInt (x))), (3, .int (Int32.ofInt (y159_3))), (4, .int (Int32.ofInt (y159_4)))], [.int (Int32.ofInt (v94)), .int (Int32.ofInt (v69)), .ref 39], M_159) _
                        refine w_call (cm := 156) (as := [(0, .ref 39), (1, .int (Int32.ofInt (v69))), (2, .int (Int32.ofInt (v94)))]) (rest := []) (o := some (1, 39)) rfl (w_fitR hR_159 rfl) ((hB0 d (Nat.lt_succ_self d)).1 (v69) (v94) (j) (w_159) (y159_3) hR_159 (show 8 * j + 4 ≤ d by omega) ⟨by omega, by omega⟩ ⟨by omega, by omega⟩ (show 0 ≤ (I_159 1035) ∧ (I_159 1035) ≤ 10000 by (repeat' apply And.intro) <;> first | assumption | omega) (show c_ks A_159 by exact (show c_bz I A I_159 A_159 p q (I 2503) from hi159_0).2.2.2.2 hKS) (show 36 ≤ (I_159 200) ∧ (I_159 200) ≤ 419 ∧ 0 ≤ (I_159 202) ∧ (I_159 202) ≤ 24 by (repeat' apply And.intro) <;> first | assumption | omega) (show ∀ i, (A_159 5) i ≤ 24 by rw [show (A_159 5) = (A 5) from (show c_bz I A I_159 A_159 p q (I 2503) from hi159_0).2.1 5 rfl]; exact hLN) (show 0 ≤ (I_159 2503) by omega) (show (I_159 2503) + 7000 * (j : Int) ≤ 1000000 by first | assumption | omega) (show c_W A_159 j v69 w_159 y159_3 by rw [ev69]; exact cg4) (show 0 ≤ w_159 ∧ y159_3 ≤ 3001 by first | assumption | omega)) (fun r99 M100 q101 => ?_)
                        rcases q101 with ⟨I101a, A101a, B101a, C101a, e102, hR101a, f103, f104⟩
                        rw [e102]
                        replace hR101a : w_Rep w_TC fr X u l I101a A101a B101a C101a M100 := hR101a
                        replace f103 : c_bz I_159 A_159 I101a A101a w_159 y159_3 (I_159 2503) := f103
                        replace f104 : (I101a 2503) = (I_159 2503) ∧ (0 ≤ (I101a 1035) ∧ (I101a 1035) ≤ 10000) ∧ (I101a 200) = (I_159 200) ∧ (I101a 202) = (I_159 202) := f104
                        obtain ⟨n105, ⟨n106, n107⟩, n108, n109⟩ := id f104
                        clear f104
                        have bx110 : c_bz I A I101a A101a p q (I 2503) := c_bz_trans (show c_bz I A I_159 A_159 p q (I 2503) from hi159_0) f103 (Int.le_refl _) (Int.le_refl _) (show p ≤ w_159 ∨ y159_3 ≤ w_159 by omega) (show y159_3 ≤ q ∨ y159_3 ≤ w_159 by omega) (Int.le_refl _) (show (I 2503) ≤ (I_159 2503) by omega)
                        have k111 : c_Ch (A101a 31) (c_P1 A101a j) (A_159 31 y159_3) cr n := c_Ch_agr c_P1_fam cg5 (c_bz_r f103 (show n ≤ w_159 ∨ y159_3 ≤ cr ∨ y159_3 ≤ w_159 by omega))
                        clear cg5
                        show w_W _ _ _ (206, [(5, .int (Int32.ofInt (v69))), (0, .ref 39), (1, .int (Int32.ofInt (n))), (2, .int (Int32.ofInt (x))), (3, .int (Int32.ofInt (y159_3))), (4, .int (Int32.ofInt (y159_4)))], [], M100) _
                        refine w_adv (n := 1) (F' := (207, [(5, .int (Int32.ofInt (v69))), (0, .ref 39), (1, .int (Int32.ofInt (n))), (2, .int (Int32.ofInt (x))), (3, .int (Int32.ofInt (y159_3))), (4, .int (Int32.ofInt (y159_4)))], [.ref 39], M100)) rfl ?_
                        refine w_gf (v := .ref 26) hR101a rfl rfl rfl rfl ?_
                        refine w_adv (n := 1) (F' := (211, [(5, .int (Int32.ofInt (v69))), (0, .ref 39), (1, .int (Int32.ofInt (n))), (2, .int (Int32.ofInt (x))), (3, .int (Int32.ofInt (y159_3))), (4, .int (Int32.ofInt (y159_4)))], [.int (Int32.ofInt (y159_3)), .ref 26], M100)) rfl ?_
                        refine w_call (cm := 161) (as := [(0, .ref 26), (1, .int (Int32.ofInt (y159_3)))]) (rest := []) (o := some (8, 26)) rfl (w_fitR hR101a rfl) (c_Tnext (y159_3) hR101a (show 1 ≤ d by omega) ⟨by omega, by omega⟩) (fun r112 M113 q114 => ?_)
                        rcases q114 with ⟨v115, e116, ⟨r117, r118⟩, e119, f120⟩
                        rw [e116, e119]
                        replace f120 : c_rd (A101a 31) y159_3 v115 := f120
                        have ev115 : v115 = (A_159 31 y159_3) := (c_rd_eq f120 (by omega) (by omega)).trans (congrFun ((c_bz_ke (show c_bz I A I101a A101a p q (I 2503) from bx110)).2.2.trans (c_bz_ke (show c_bz I A I_159 A_159 p q (I 2503) from hi159_0)).2.2.symm) _)
                        show w_W _ _ _ (214, [(5, .int (Int32.ofInt (v69))), (0, .ref 39), (1, .int (Int32.ofInt (n))), (2, .int (Int32.ofInt (x))), (3, .int (Int32.ofInt (y159_3))), (4, .int (Int32.ofInt (y159_4)))], [.int (Int32.ofInt (v115))], M100) _
                        refine w_adv (n := 1) (F' := (215, [(3, .int (Int32.ofInt (v115))), (5, .int (Int32.ofInt (v69))), (0, .ref 39), (1, .int (Int32.ofInt (n))), (2, .int (Int32.ofInt (x))), (4, .int (Int32.ofInt (y159_4)))], [], M100)) rfl ?_
                        refine w_inc (nL := 6) (a := y159_4) rfl rfl rfl (by decide) ?_
                        refine w_adv (n := 1) (F' := (159, [(4, .int (Int32.ofInt (y159_4 + 1))), (3, .int (Int32.ofInt (v115))), (5, .int (Int32.ofInt (v69))), (0, .ref 39), (1, .int (Int32.ofInt (n))), (2, .int (Int32.ofInt (x)))], [], M100)) rfl ?_
                        refine w_ls (ls := [(0, .ref 39), (1, .int (Int32.ofInt (n))), (2, .int (Int32.ofInt (x))), (3, .int (Int32.ofInt (v115))), (4, .int (Int32.ofInt (y159_4 + 1)))]) (show List.Nodup [0, 1, 2, 3, 4] by decide) (show List.Nodup [4, 3, 5, 0, 1, 2] by decide) (List.forall_mem_cons.mpr ⟨(List.Mem.tail _ (List.Mem.tail _ (List.Mem.tail _ (List.Mem.head _)))), (List.forall_mem_cons.mpr ⟨(List.Mem.tail _ (List.Mem.tail _ (List.Mem.tail _ (List.Mem.tail _ (List.Mem.head _))))), (List.forall_mem_cons.mpr ⟨(List.Mem.tail _ (List.Mem.tail _ (List.Mem.tail _ (List.Mem.tail _ (List.Mem.tail _ (List.Mem.head _)))))), (List.forall_mem_cons.mpr ⟨(List.Mem.tail _ (List.Mem.head _)), (List.forall_mem_cons.mpr ⟨(List.Mem.head _), (fun _ h => by cases h)⟩)⟩)⟩)⟩)⟩) ?_
                        exact ih159 (cr) (v115) (y159_4 + 1) I101a A101a B101a C101a M100 hR101a ⟨by omega, by omega⟩ ⟨by omega, by omega⟩ (show c_bz I A I101a A101a p q (I 2503) by exact bx110) (show (I101a 2503) = (I 2503) ∧ (0 ≤ (I101a 1035) ∧ (I101a 1035) ≤ 10000) ∧ (I101a 200) = (I 200) ∧ (I101a 202) = (I 202) by (repeat' apply And.intro) <;> first | assumption | omega) (show c_Ch (A101a 31) (c_P1 A101a j) v115 cr n by rw [ev115]; exact k111) (show p ≤ cr by omega) (show 0 ≤ (y159_4 + 1) ∧ (y159_4 + 1) ≤ 1500 by omega) (show 1500 - (y159_4 + 1) < (fu159 : Int) by omega)
              refine w_ls (ls := [(0, .ref 39), (1, .int (Int32.ofInt (n))), (2, .int (Int32.ofInt (x))), (3, .int (Int32.ofInt (v58))), (4, .int (Int32.ofInt (0)))]) (show List.Nodup [0, 1, 2, 3, 4] by decide) (show List.Nodup [4, 3, 0, 1, 2] by decide) (List.forall_mem_cons.mpr ⟨(List.Mem.tail _ (List.Mem.tail _ (List.Mem.head _))), (List.forall_mem_cons.mpr ⟨(List.Mem.tail _ (List.Mem.tail _ (List.Mem.tail _ (List.Mem.head _)))), (List.forall_mem_cons.mpr ⟨(List.Mem.tail _ (List.Mem.tail _ (List.Mem.tail _ (List.Mem.tail _ (List.Mem.head _))))), (List.forall_mem_cons.mpr ⟨(List.Mem.tail _ (List.Mem.head _)), (List.forall_mem_cons.mpr ⟨(List.Mem.head _), (fun _ h => by cases h)⟩)⟩)⟩)⟩)⟩) ?_
              exact lp159 ((1500 - 0 : Int).toNat + 1) (p) (v58) (0) I43a A43a B43a C43a M42 hR43a ⟨by omega, by omega⟩ ⟨by omega, by omega⟩ (show c_bz I A I43a A43a p q (I 2503) by exact bx53) (show (I43a 2503) = (I 2503) ∧ (0 ≤ (I43a 1035) ∧ (I43a 1035) ≤ 10000) ∧ (I43a 200) = (I 200) ∧ (I43a 202) = (I 202) by (repeat' apply And.intro) <;> first | assumption | omega) (show c_Ch (A43a 31) (c_P1 A43a j) v58 p n by rw [ev58]; exact k54) (show p ≤ p by omega) (show 0 ≤ (0 : Int) ∧ (0 : Int) ≤ 1500 by omega) (show 1500 - 0 < (((1500 - 0 : Int).toNat + 1 : Nat) : Int) by omega)
            refine w_adv (n := 2) (F' := (86, [(0, .ref 39), (1, .int (Int32.ofInt (n))), (2, .int (Int32.ofInt (x))), (3, .int (Int32.ofInt (y81_3))), (4, .int (Int32.ofInt (y81_4)))], [.int (Int32.ofInt (1500)), .int (Int32.ofInt (y81_4))], M_81)) rfl ?_
            refine w_br2 (a := y81_4) (b := 1500) rfl rfl ⟨by omega, by omega⟩ ⟨by omega, by omega⟩ (fun h121 => ?_) (fun h121 => ?_)
            · have h121 : y81_4 ≥ 1500 := h121
              show w_W _ _ _ (139, [(0, .ref 39), (1, .int (Int32.ofInt (n))), (2, .int (Int32.ofInt (x))), (3, .int (Int32.ofInt (y81_3))), (4, .int (Int32.ofInt (y81_4)))], [], M_81) _
              exact jn139   
            · have h121 : ¬ (y81_4 ≥ 1500) := h121
              show w_W _ _ _ (89, [(0, .ref 39), (1, .int (Int32.ofInt (n))), (2, .int (Int32.ofInt (x))), (3, .int (Int32.ofInt (y81_3))), (4, .int (Int32.ofInt (y81_4)))], [], M_81) _
              refine w_adv (n := 2) (F' := (91, [(0, .ref 39), (1, .int (Int32.ofInt (n))), (2, .int (Int32.ofInt (x))), (3, .int (Int32.ofInt (y81_3))), (4, .int (Int32.ofInt (y81_4)))], [.int (Int32.ofInt ((-1))), .int (Int32.ofInt (y81_3))], M_81)) rfl ?_
              refine w_br2 (a := y81_3) (b := (-1)) rfl rfl ⟨by omega, by omega⟩ ⟨by omega, by omega⟩ (fun h122 => ?_) (fun h122 => ?_)
              · have h122 : y81_3 = (-1) := h122
                show w_W _ _ _ (139, [(0, .ref 39), (1, .int (Int32.ofInt (n))), (2, .int (Int32.ofInt (x))), (3, .int (Int32.ofInt (y81_3))), (4, .int (Int32.ofInt (y81_4)))], [], M_81) _
                exact jn139   
              · have h122 : ¬ (y81_3 = (-1)) := h122
                show w_W _ _ _ (94, [(0, .ref 39), (1, .int (Int32.ofInt (n))), (2, .int (Int32.ofInt (x))), (3, .int (Int32.ofInt (y81_3))), (4, .int (Int32.ofInt (y81_4)))], [], M_81) _
                refine w_adv (n := 1) (F' := (95, [(0, .ref 39), (1, .int (Int32.ofInt (n))), (2, .int (Int32.ofInt (x))), (3, .int (Int32.ofInt (y81_3))), (4, .int (Int32.ofInt (y81_4)))], [.ref 39], M_81)) rfl ?_
                refine w_gf (v := .ref 16) hR_81 rfl rfl rfl rfl ?_
                refine w_adv (n := 1) (F' := (99, [(0, .ref 39), (1, .int (Int32.ofInt (n))), (2, .int (Int32.ofInt (x))), (3, .int (Int32.ofInt (y81_3))), (4, .int (Int32.ofInt (y81_4)))], [.ref 39, .ref 16], M_81)) rfl ?_
                refine w_gf (v := .ref 26) hR_81 rfl rfl rfl rfl ?_
                refine w_adv (n := 1) (F' := (103, [(0, .ref 39), (1, .int (Int32.ofInt (n))), (2, .int (Int32.ofInt (x))), (3, .int (Int32.ofInt (y81_3))), (4, .int (Int32.ofInt (y81_4)))], [.int (Int32.ofInt (y81_3)), .ref 26, .ref 16], M_81)) rfl ?_
                refine w_call (cm := 145) (as := [(0, .ref 26), (1, .int (Int32.ofInt (y81_3)))]) (rest := [.ref 16]) (o := some (8, 26)) rfl (w_fitR hR_81 rfl) (c_Ta (y81_3) hR_81 (show 1 ≤ d by omega) ⟨by omega, by omega⟩) (fun r123 M124 q125 => ?_)
                rcases q125 with ⟨v126, e127, ⟨r128, r129⟩, e130, f131⟩
                rw [e127, e130]
                replace f131 : c_rd (A_81 28) y81_3 v126 := f131
                show w_W _ _ _ (106, [(0, .ref 39), (1, .int (Int32.ofInt (n))), (2, .int (Int32.ofInt (x))), (3, .int (Int32.ofInt (y81_3))), (4, .int (Int32.ofInt (y81_4)))], [.int (Int32.ofInt (v126)), .ref 16], M_81) _
                refine w_adv (n := 1) (F' := (107, [(0, .ref 39), (1, .int (Int32.ofInt (n))), (2, .int (Int32.ofInt (x))), (3, .int (Int32.ofInt (y81_3))), (4, .int (Int32.ofInt (y81_4)))], [.ref 39, .int (Int32.ofInt (v126)), .ref 16], M_81)) rfl ?_
                refine w_gf (v := .ref 26) hR_81 rfl rfl rfl rfl ?_
                refine w_adv (n := 1) (F' := (111, [(0, .ref 39), (1, .int (Int32.ofInt (n))), (2, .int (Int32.ofInt (x))), (3, .int (Int32.ofInt (y81_3))), (4, .int (Int32.ofInt (y81_4)))], [.ref 39, .ref 26, .int (Int32.ofInt (v126)), .ref 16], M_81)) rfl ?_
                refine w_gf (v := .ref 26) hR_81 rfl rfl rfl rfl ?_
                refine w_adv (n := 1) (F' := (115, [(0, .ref 39), (1, .int (Int32.ofInt (n))), (2, .int (Int32.ofInt (x))), (3, .int (Int32.ofInt (y81_3))), (4, .int (Int32.ofInt (y81_4)))], [.int (Int32.ofInt (y81_3)), .ref 26, .ref 26, .int (Int32.ofInt (v126)), .ref 16], M_81)) rfl ?_
                refine w_call (cm := 152) (as := [(0, .ref 26), (1, .int (Int32.ofInt (y81_3)))]) (rest := [.ref 26, .int (Int32.ofInt (v126)), .ref 16]) (o := some (8, 26)) rfl (w_fitR hR_81 rfl) (c_Tb (y81_3) hR_81 (show 1 ≤ d by omega) ⟨by omega, by omega⟩) (fun r132 M133 q134 => ?_)
                rcases q134 with ⟨v135, e136, ⟨r137, r138⟩, e139, f140⟩
                rw [e136, e139]
                replace f140 : c_rd (A_81 29) y81_3 v135 := f140
                show w_W _ _ _ (118, [(0, .ref 39), (1, .int (Int32.ofInt (n))), (2, .int (Int32.ofInt (x))), (3, .int (Int32.ofInt (y81_3))), (4, .int (Int32.ofInt (y81_4)))], [.int (Int32.ofInt (v135)), .ref 26, .int (Int32.ofInt (v126)), .ref 16], M_81) _
                refine w_call (cm := 162) (as := [(0, .ref 26), (1, .int (Int32.ofInt (v135)))]) (rest := [.int (Int32.ofInt (v126)), .ref 16]) (o := some (8, 26)) rfl (w_fitR hR_81 rfl) (c_Tree_variable (v135) hR_81 (show 2 ≤ d by omega) ⟨by omega, by omega⟩) (fun r141 M142 q143 => ?_)
                rcases q143 with ⟨v144, e145, ⟨r146, r147⟩, e148⟩
                rw [e145, e148]
                show w_W _ _ _ (121, [(0, .ref 39), (1, .int (Int32.ofInt (n))), (2, .int (Int32.ofInt (x))), (3, .int (Int32.ofInt (y81_3))), (4, .int (Int32.ofInt (y81_4)))], [.int (Int32.ofInt (v144)), .int (Int32.ofInt (v126)), .ref 16], M_81) _
                refine w_call (cm := 163) (as := [(0, .ref 16), (1, .int (Int32.ofInt (v126))), (2, .int (Int32.ofInt (v144)))]) (rest := []) (o := some (2, 16)) rfl (w_fitR hR_81 rfl) (c_kap (v126) (v144) hR_81 (show 2 ≤ d by omega) ⟨by omega, by omega⟩ ⟨by omega, by omega⟩ (show 0 ≤ (I_81 1035) ∧ (I_81 1035) ≤ 10000 by (repeat' apply And.intro) <;> first | assumption | omega) (show 0 ≤ (I_81 2503) by omega)) (fun r149 M150 q151 => ?_)
                rcases q151 with ⟨I151a, A151a, B151a, C151a, e152, hR151a, f153, f154, f155⟩
                rw [e152]
                replace hR151a : w_Rep w_TC fr X u l I151a A151a B151a C151a M150 := hR151a
                replace f153 : c_bz I_81 A_81 I151a A151a 0 0 (I_81 2503) := f153
                replace f154 : (I151a 2503) = (I_81 2503) ∧ (0 ≤ (I151a 1035) ∧ (I151a 1035) ≤ 10000) ∧ (I151a 200) = (I_81 200) ∧ (I151a 202) = (I_81 202) := f154
                obtain ⟨n156, ⟨n157, n158⟩, n159, n160⟩ := id f154
                clear f154
                replace f155 : (I151a 2502) = (I_81 2502) := f155
                have bx161 : c_bz I A I151a A151a p q (I 2503) := c_bz_trans (show c_bz I A I_81 A_81 p q (I 2503) from hi81_0) f153 (Int.le_refl _) (Int.le_refl _) (show p ≤ 0 ∨ 0 ≤ 0 by omega) (show 0 ≤ q ∨ 0 ≤ 0 by omega) (Int.le_refl _) (show (I 2503) ≤ (I_81 2503) by omega)
                have k162 : c_Ch (A151a 31) (c_P1 A151a j) (A 29 n) p n := c_Ch_agr c_P1_fam hi81_2 (c_bz_r f153 (show n ≤ 0 ∨ 0 ≤ p ∨ 0 ≤ 0 by omega))
                clear hi81_2
                show w_W _ _ _ (124, [(0, .ref 39), (1, .int (Int32.ofInt (n))), (2, .int (Int32.ofInt (x))), (3, .int (Int32.ofInt (y81_3))), (4, .int (Int32.ofInt (y81_4)))], [], M150) _
                refine w_adv (n := 1) (F' := (125, [(0, .ref 39), (1, .int (Int32.ofInt (n))), (2, .int (Int32.ofInt (x))), (3, .int (Int32.ofInt (y81_3))), (4, .int (Int32.ofInt (y81_4)))], [.ref 39], M150)) rfl ?_
                refine w_gf (v := .ref 26) hR151a rfl rfl rfl rfl ?_
                refine w_adv (n := 1) (F' := (129, [(0, .ref 39), (1, .int (Int32.ofInt (n))), (2, .int (Int32.ofInt (x))), (3, .int (Int32.ofInt (y81_3))), (4, .int (Int32.ofInt (y81_4)))], [.int (Int32.ofInt (y81_3)), .ref 26], M150)) rfl ?_
                refine w_call (cm := 161) (as := [(0, .ref 26), (1, .int (Int32.ofInt (y81_3)))]) (rest := []) (o := some (8, 26)) rfl (w_fitR hR151a rfl) (c_Tnext (y81_3) hR151a (show 1 ≤ d by omega) ⟨by omega, by omega⟩) (fun r163 M164 q165 => ?_)
                rcases q165 with ⟨v166, e167, ⟨r168, r169⟩, e170, f171⟩
                rw [e167, e170]
                replace f171 : c_rd (A151a 31) y81_3 v166 := f171
                show w_W _ _ _ (132, [(0, .ref 39), (1, .int (Int32.ofInt (n))), (2, .int (Int32.ofInt (x))), (3, .int (Int32.ofInt (y81_3))), (4, .int (Int32.ofInt (y81_4)))], [.int (Int32.ofInt (v166))], M150) _
                refine w_adv (n := 1) (F' := (133, [(3, .int (Int32.ofInt (v166))), (0, .ref 39), (1, .int (Int32.ofInt (n))), (2, .int (Int32.ofInt (x))), (4, .int (Int32.ofInt (y81_4)))], [], M150)) rfl ?_
                refine w_inc (nL := 6) (a := y81_4) rfl rfl rfl (by decide) ?_
                refine w_adv (n := 1) (F' := (81, [(4, .int (Int32.ofInt (y81_4 + 1))), (3, .int (Int32.ofInt (v166))), (0, .ref 39), (1, .int (Int32.ofInt (n))), (2, .int (Int32.ofInt (x)))], [], M150)) rfl ?_
                refine w_ls (ls := [(0, .ref 39), (1, .int (Int32.ofInt (n))), (2, .int (Int32.ofInt (x))), (3, .int (Int32.ofInt (v166))), (4, .int (Int32.ofInt (y81_4 + 1)))]) (show List.Nodup [0, 1, 2, 3, 4] by decide) (show List.Nodup [4, 3, 0, 1, 2] by decide) (List.forall_mem_cons.mpr ⟨(List.Mem.tail _ (List.Mem.tail _ (List.Mem.head _))), (List.forall_mem_cons.mpr ⟨(List.Mem.tail _ (List.Mem.tail _ (List.Mem.tail _ (List.Mem.head _)))), (List.forall_mem_cons.mpr ⟨(List.Mem.tail _ (List.Mem.tail _ (List.Mem.tail _ (List.Mem.tail _ (List.Mem.head _))))), (List.forall_mem_cons.mpr ⟨(List.Mem.tail _ (List.Mem.head _)), (List.forall_mem_cons.mpr ⟨(List.Mem.head _), (fun _ h => by cases h)⟩)⟩)⟩)⟩)⟩) ?_
                exact ih81  (v166) (y81_4 + 1) I151a A151a B151a C151a M150 hR151a ⟨by omega, by omega⟩ ⟨by omega, by omega⟩ (show c_bz I A I151a A151a p q (I 2503) by exact bx161) (show (I151a 2503) = (I 2503) ∧ (0 ≤ (I151a 1035) ∧ (I151a 1035) ≤ 10000) ∧ (I151a 200) = (I 200) ∧ (I151a 202) = (I 202) by (repeat' apply And.intro) <;> first | assumption | omega) (show c_Ch (A151a 31) (c_P1 A151a j) (A 29 n) p n by exact k162) (show 0 ≤ (y81_4 + 1) ∧ (y81_4 + 1) ≤ 1500 by omega) (show 1500 - (y81_4 + 1) < (fu81 : Int) by omega)
        refine w_ls (ls := [(0, .ref 39), (1, .int (Int32.ofInt (n))), (2, .int (Int32.ofInt (x))), (3, .int (Int32.ofInt (v35))), (4, .int (Int32.ofInt (0)))]) (show List.Nodup [0, 1, 2, 3, 4] by decide) (show List.Nodup [4, 3, 0, 1, 2] by decide) (List.forall_mem_cons.mpr ⟨(List.Mem.tail _ (List.Mem.tail _ (List.Mem.head _))), (List.forall_mem_cons.mpr ⟨(List.Mem.tail _ (List.Mem.tail _ (List.Mem.tail _ (List.Mem.head _)))), (List.forall_mem_cons.mpr ⟨(List.Mem.tail _ (List.Mem.tail _ (List.Mem.tail _ (List.Mem.tail _ (List.Mem.head _))))), (List.forall_mem_cons.mpr ⟨(List.Mem.tail _ (List.Mem.head _)), (List.forall_mem_cons.mpr ⟨(List.Mem.head _), (fun _ h => by cases h)⟩)⟩)⟩)⟩)⟩) ?_
        exact lp81 ((1500 - 0 : Int).toNat + 1)  (v35) (0) I21a A21a B21a C21a M20 hR21a ⟨by omega, by omega⟩ ⟨by omega, by omega⟩ (show c_bz I A I21a A21a p q (I 2503) by exact bx30) (show (I21a 2503) = (I 2503) ∧ (0 ≤ (I21a 1035) ∧ (I21a 1035) ≤ 10000) ∧ (I21a 200) = (I 200) ∧ (I21a 202) = (I 202) by (repeat' apply And.intro) <;> first | assumption | omega) (show c_Ch (A21a 31) (c_P1 A21a j) (A 29 n) p n by exact k31) (show 0 ≤ (0 : Int) ∧ (0 : Int) ≤ 1500 by omega) (show 1500 - 0 < (((1500 - 0 : Int).toNat + 1 : Nat) : Int) by omega)
      refine w_adv (n := 2) (F' := (17, [(0, .ref 39), (1, .int (Int32.ofInt (n))), (2, .int (Int32.ofInt (x))), (3, .int (Int32.ofInt (y12_3))), (4, .int (Int32.ofInt (y12_4)))], [.int (Int32.ofInt (1500)), .int (Int32.ofInt (y12_4))], M_12)) rfl ?_
      refine w_br2 (a := y12_4) (b := 1500) rfl rfl ⟨by omega, by omega⟩ ⟨by omega, by omega⟩ (fun h172 => ?_) (fun h172 => ?_)
      · have h172 : y12_4 ≥ 1500 := h172
        show w_W _ _ _ (53, [(0, .ref 39), (1, .int (Int32.ofInt (n))), (2, .int (Int32.ofInt (x))), (3, .int (Int32.ofInt (y12_3))), (4, .int (Int32.ofInt (y12_4)))], [], M_12) _
        exact jn53   
      · have h172 : ¬ (y12_4 ≥ 1500) := h172
        show w_W _ _ _ (20, [(0, .ref 39), (1, .int (Int32.ofInt (n))), (2, .int (Int32.ofInt (x))), (3, .int (Int32.ofInt (y12_3))), (4, .int (Int32.ofInt (y12_4)))], [], M_12) _
        refine w_adv (n := 2) (F' := (22, [(0, .ref 39), (1, .int (Int32.ofInt (n))), (2, .int (Int32.ofInt (x))), (3, .int (Int32.ofInt (y12_3))), (4, .int (Int32.ofInt (y12_4)))], [.int (Int32.ofInt ((-1))), .int (Int32.ofInt (y12_3))], M_12)) rfl ?_
        refine w_br2 (a := y12_3) (b := (-1)) rfl rfl ⟨by omega, by omega⟩ ⟨by omega, by omega⟩ (fun h173 => ?_) (fun h173 => ?_)
        · have h173 : y12_3 = (-1) := h173
          show w_W _ _ _ (53, [(0, .ref 39), (1, .int (Int32.ofInt (n))), (2, .int (Int32.ofInt (x))), (3, .int (Int32.ofInt (y12_3))), (4, .int (Int32.ofInt (y12_4)))], [], M_12) _
          exact jn53   
        · have h173 : ¬ (y12_3 = (-1)) := h173
          show w_W _ _ _ (25, [(0, .ref 39), (1, .int (Int32.ofInt (n))), (2, .int (Int32.ofInt (x))), (3, .int (Int32.ofInt (y12_3))), (4, .int (Int32.ofInt (y12_4)))], [], M_12) _
          refine w_adv (n := 2) (F' := (27, [(0, .ref 39), (1, .int (Int32.ofInt (n))), (2, .int (Int32.ofInt (x))), (3, .int (Int32.ofInt (y12_3))), (4, .int (Int32.ofInt (y12_4)))], [.ref 39, .ref 39], M_12)) rfl ?_
          refine w_gf (v := .ref 26) hR_12 rfl rfl rfl rfl ?_
          refine w_adv (n := 1) (F' := (31, [(0, .ref 39), (1, .int (Int32.ofInt (n))), (2, .int (Int32.ofInt (x))), (3, .int (Int32.ofInt (y12_3))), (4, .int (Int32.ofInt (y12_4)))], [.int (Int32.ofInt (y12_3)), .ref 26, .ref 39], M_12)) rfl ?_
          refine w_call (cm := 152) (as := [(0, .ref 26), (1, .int (Int32.ofInt (y12_3)))]) (rest := [.ref 39]) (o := some (8, 26)) rfl (w_fitR hR_12 rfl) (c_Tb (y12_3) hR_12 (show 1 ≤ d by omega) ⟨by omega, by omega⟩) (fun r174 M175 q176 => ?_)
          rcases q176 with ⟨v177, e178, ⟨r179, r180⟩, e181, f182⟩
          rw [e178, e181]
          replace f182 : c_rd (A_12 29) y12_3 v177 := f182
          show w_W _ _ _ (34, [(0, .ref 39), (1, .int (Int32.ofInt (n))), (2, .int (Int32.ofInt (x))), (3, .int (Int32.ofInt (y12_3))), (4, .int (Int32.ofInt (y12_4)))], [.int (Int32.ofInt (v177)), .ref 39], M_12) _
          refine w_call (cm := 158) (as := [(0, .ref 39), (1, .int (Int32.ofInt (v177)))]) (rest := []) (o := some (1, 39)) rfl (w_fitR hR_12 rfl) (c_target (v177) hR_12 (show 4 ≤ d by omega) ⟨by omega, by omega⟩ (show 0 ≤ (I_12 1035) ∧ (I_12 1035) ≤ 10000 by (repeat' apply And.intro) <;> first | assumption | omega) (show 0 ≤ (I_12 2503) by omega)) (fun r183 M184 q185 => ?_)
          rcases q185 with ⟨v186, I185a, A185a, B185a, C185a, e187, ⟨r188, r189⟩, hR185a, f190, f191⟩
          rw [e187]
          replace hR185a : w_Rep w_TC fr X u l I185a A185a B185a C185a M184 := hR185a
          replace f190 : c_bz I_12 A_12 I185a A185a 0 0 (I_12 2503) := f190
          replace f191 : (I185a 2503) = (I_12 2503) ∧ (0 ≤ (I185a 1035) ∧ (I185a 1035) ≤ 10000) ∧ (I185a 200) = (I_12 200) ∧ (I185a 202) = (I_12 202) := f191
          obtain ⟨n192, ⟨n193, n194⟩, n195, n196⟩ := id f191
          clear f191
          have bx197 : c_bz I A I185a A185a p q (I 2503) := c_bz_trans (show c_bz I A I_12 A_12 p q (I 2503) from hi12_0) f190 (Int.le_refl _) (Int.le_refl _) (show p ≤ 0 ∨ 0 ≤ 0 by omega) (show 0 ≤ q ∨ 0 ≤ 0 by omega) (Int.le_refl _) (show (I 2503) ≤ (I_12 2503) by omega)
          have k198 : c_Ch (A185a 31) (c_P1 A185a j) (A 29 n) p n := c_Ch_agr c_P1_fam hi12_2 (c_bz_r f190 (show n ≤ 0 ∨ 0 ≤ p ∨ 0 ≤ 0 by omega))
          clear hi12_2
          show w_W _ _ _ (37, [(0, .ref 39), (1, .int (Int32.ofInt (n))), (2, .int (Int32.ofInt (x))), (3, .int (Int32.ofInt (y12_3))), (4, .int (Int32.ofInt (y12_4)))], [.int (Int32.ofInt (v186))], M184) _
          refine w_adv (n := 2) (F' := (39, [(0, .ref 39), (1, .int (Int32.ofInt (n))), (2, .int (Int32.ofInt (x))), (3, .int (Int32.ofInt (y12_3))), (4, .int (Int32.ofInt (y12_4)))], [.ref 39], M184)) rfl ?_
          refine w_gf (v := .ref 26) hR185a rfl rfl rfl rfl ?_
          refine w_adv (n := 1) (F' := (43, [(0, .ref 39), (1, .int (Int32.ofInt (n))), (2, .int (Int32.ofInt (x))), (3, .int (Int32.ofInt (y12_3))), (4, .int (Int32.ofInt (y12_4)))], [.int (Int32.ofInt (y12_3)), .ref 26], M184)) rfl ?_
          refine w_call (cm := 161) (as := [(0, .ref 26), (1, .int (Int32.ofInt (y12_3)))]) (rest := []) (o := some (8, 26)) rfl (w_fitR hR185a rfl) (c_Tnext (y12_3) hR185a (show 1 ≤ d by omega) ⟨by omega, by omega⟩) (fun r199 M200 q201 => ?_)
          rcases q201 with ⟨v202, e203, ⟨r204, r205⟩, e206, f207⟩
          rw [e203, e206]
          replace f207 : c_rd (A185a 31) y12_3 v202 := f207
          show w_W _ _ _ (46, [(0, .ref 39), (1, .int (Int32.ofInt (n))), (2, .int (Int32.ofInt (x))), (3, .int (Int32.ofInt (y12_3))), (4, .int (Int32.ofInt (y12_4)))], [.int (Int32.ofInt (v202))], M184) _
          refine w_adv (n := 1) (F' := (47, [(3, .int (Int32.ofInt (v202))), (0, .ref 39), (1, .int (Int32.ofInt (n))), (2, .int (Int32.ofInt (x))), (4, .int (Int32.ofInt (y12_4)))], [], M184)) rfl ?_
          refine w_inc (nL := 6) (a := y12_4) rfl rfl rfl (by decide) ?_
          refine w_adv (n := 1) (F' := (12, [(4, .int (Int32.ofInt (y12_4 + 1))), (3, .int (Int32.ofInt (v202))), (0, .ref 39), (1, .int (Int32.ofInt (n))), (2, .int (Int32.ofInt (x)))], [], M184)) rfl ?_
          refine w_ls (ls := [(0, .ref 39), (1, .int (Int32.ofInt (n))), (2, .int (Int32.ofInt (x))), (3, .int (Int32.ofInt (v202))), (4, .int (Int32.ofInt (y12_4 + 1)))]) (show List.Nodup [0, 1, 2, 3, 4] by decide) (show List.Nodup [4, 3, 0, 1, 2] by decide) (List.forall_mem_cons.mpr ⟨(List.Mem.tail _ (List.Mem.tail _ (List.Mem.head _))), (List.forall_mem_cons.mpr ⟨(List.Mem.tail _ (List.Mem.tail _ (List.Mem.tail _ (List.Mem.head _)))), (List.forall_mem_cons.mpr ⟨(List.Mem.tail _ (List.Mem.tail _ (List.Mem.tail _ (List.Mem.tail _ (List.Mem.head _))))), (List.forall_mem_cons.mpr ⟨(List.Mem.tail _ (List.Mem.head _)), (List.forall_mem_cons.mpr ⟨(List.Mem.head _), (fun _ h => by cases h)⟩)⟩)⟩)⟩)⟩) ?_
          exact ih12  (v202) (y12_4 + 1) I185a A185a B185a C185a M184 hR185a ⟨by omega, by omega⟩ ⟨by omega, by omega⟩ (show c_bz I A I185a A185a p q (I 2503) by exact bx197) (show (I185a 2503) = (I 2503) ∧ (0 ≤ (I185a 1035) ∧ (I185a 1035) ≤ 10000) ∧ (I185a 200) = (I 200) ∧ (I185a 202) = (I 202) by (repeat' apply And.intro) <;> first | assumption | omega) (show c_Ch (A185a 31) (c_P1 A185a j) (A 29 n) p n by exact k198) (show 0 ≤ (y12_4 + 1) ∧ (y12_4 + 1) ≤ 1500 by omega) (show 1500 - (y12_4 + 1) < (fu12 : Int) by omega)
  refine w_ls (ls := [(0, .ref 39), (1, .int (Int32.ofInt (n))), (2, .int (Int32.ofInt (x))), (3, .int (Int32.ofInt (v4))), (4, .int (Int32.ofInt (0)))]) (show List.Nodup [0, 1, 2, 3, 4] by decide) (show List.Nodup [4, 3, 0, 1, 2] by decide) (List.forall_mem_cons.mpr ⟨(List.Mem.tail _ (List.Mem.tail _ (List.Mem.head _))), (List.forall_mem_cons.mpr ⟨(List.Mem.tail _ (List.Mem.tail _ (List.Mem.tail _ (List.Mem.head _)))), (List.forall_mem_cons.mpr ⟨(List.Mem.tail _ (List.Mem.tail _ (List.Mem.tail _ (List.Mem.tail _ (List.Mem.head _))))), (List.forall_mem_cons.mpr ⟨(List.Mem.tail _ (List.Mem.head _)), (List.forall_mem_cons.mpr ⟨(List.Mem.head _), (fun _ h => by cases h)⟩)⟩)⟩)⟩)⟩) ?_
  exact lp12 ((1500 - 0 : Int).toNat + 1)  (v4) (0) I A B C M hR ⟨by omega, by omega⟩ ⟨by omega, by omega⟩ (show c_bz I A I A p q (I 2503) by exact c_bz_refl) (show (I 2503) = (I 2503) ∧ (0 ≤ (I 1035) ∧ (I 1035) ≤ 10000) ∧ (I 200) = (I 200) ∧ (I 202) = (I 202) by (repeat' apply And.intro) <;> first | assumption | omega) (show c_Ch (A 31) (c_P1 A j) (A 29 n) p n by exact hC) (show 0 ≤ (0 : Int) ∧ (0 : Int) ≤ 1500 by omega) (show 1500 - 0 < (((1500 - 0 : Int).toNat + 1 : Nat) : Int) by omega)
