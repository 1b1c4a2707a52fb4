def cb_pairs_Q (fr : Nat → Bool) (X : Nat → Option (q_C (Nat → Int32))) (u l : Nat) (I : Nat → Int) (A : Nat → Int → Int) (B C : Nat → Nat) (M : w_M) (n : Int) (x : Int) (i : Nat) (p q : Int) : w_X → w_M → Prop := fun r M' => (∃ (I' : Nat → Int) (A' : Nat → Int → Int) (B' C' : Nat → Nat), (r = .inl none) ∧ (w_Rep w_TC fr X u l I' A' B' C' M') ∧ (c_bz I A I' A' p q (I 2503)) ∧ ((I' 2503) = (I 2503) ∧ (0 ≤ (I' 1035) ∧ (I' 1035) ≤ 10000) ∧ (I' 200) = (I 200) ∧ (I' 202) = (I 202)))
set_option maxHeartbeats 100000000 in
set_option maxRecDepth 100000 in
theorem cb_pairs {L : Nat} {xs : Nat → Int32} {d : Nat} {fr : Nat → Bool} {X : Nat → Option (q_C (Nat → Int32))} {u l : Nat} {I : Nat → Int} {A : Nat → Int → Int} {B C : Nat → Nat} {M : w_M} (hB0 : c_BALL L xs d) (n : Int) (x : Int) (i : Nat) (p q : Int) (hR : w_Rep w_TC fr X u l I A B C M) (hd : 8 * i + 3 ≤ d) (r_n : w_in n) (r_x : w_in x) (hKI : 0 ≤ (I 1035) ∧ (I 1035) ≤ 10000) (hKS : c_ks A) (hNM : 36 ≤ (I 200) ∧ (I 200) ≤ 419 ∧ 0 ≤ (I 202) ∧ (I 202) ≤ 24) (hLN : ∀ i, (A 5) i ≤ 24) (hW0 : 0 ≤ (I 2503)) (hWB : (I 2503) + 7000 * (i : Int) ≤ 1000000) (hW : c_W A i n p q) (hk : (A 27) n = 7) (hpq : 0 ≤ p ∧ q ≤ 3001) : w_W (z_P L xs) d 169 (0, [(0, .ref 39), (1, .int (Int32.ofInt (n))), (2, .int (Int32.ofInt (x)))], [], M) (cb_pairs_Q fr X u l I A B C M n x i p q) := by
  obtain ⟨ra_n, rb_n⟩ := r_n
  obtain ⟨ra_x, rb_x⟩ := r_x
  obtain ⟨d, rfl⟩ : ∃ d0, d = d0 + 1 := ⟨d - 1, by omega⟩
  obtain ⟨nb1, nb2⟩ := c_W_in hW
  obtain ⟨j, hj⟩ := c_W_succ hW
  have hW1 : c_W A (j + 1) n p q := by rw [← hj]; exact hW
  have hR7 : c_Pr (A 27) (A 28) (A 29) (c_W A j) n p q := hW1.2.2.k7 hk
  refine w_adv (n := 6) (F' := (8, [(5, .int (Int32.ofInt (0))), (4, .int (Int32.ofInt (x))), (3, .int (Int32.ofInt (n))), (0, .ref 39), (1, .int (Int32.ofInt (n))), (2, .int (Int32.ofInt (x)))], [], M)) rfl ?_
  have lp8 : ∀ fu8 : Nat, ∀ (w_8 : Int) (y8_3 : Int) (y8_4 : Int) (y8_5 : Int) (I_8 : Nat → Int) (A_8 : Nat → Int → Int) (B_8 C_8 : Nat → Nat) (M_8 : w_M) (hR_8 : w_Rep w_TC fr X u l I_8 A_8 B_8 C_8 M_8), w_in y8_3 → w_in y8_4 → w_in y8_5 → c_bz I A I_8 A_8 p q (I 2503) → (I_8 2503) = (I 2503) ∧ (0 ≤ (I_8 1035) ∧ (I_8 1035) ≤ 10000) ∧ (I_8 200) = (I 200) ∧ (I_8 202) = (I 202) → c_Pr (A_8 27) (A_8 28) (A_8 29) (c_W A_8 j) y8_3 w_8 q → p + 2 * y8_5 ≤ w_8 → 0 ≤ y8_5 ∧ y8_5 ≤ 1500 → 1500 - y8_5 < (fu8 : Int) → w_W (z_P L xs) (d + 1) 169 (8, [(0, .ref 39), (1, .int (Int32.ofInt (n))), (2, .int (Int32.ofInt (x))), (3, .int (Int32.ofInt (y8_3))), (4, .int (Int32.ofInt (y8_4))), (5, .int (Int32.ofInt (y8_5)))], [], M_8) (cb_pairs_Q fr X u l I A B C M n x i p q) := by
    intro fu8
    induction fu8 with
    | zero =>
      intro w_8 y8_3 y8_4 y8_5 I_8 A_8 B_8 C_8 M_8 hR_8 ⟨ra_y8_3, rb_y8_3⟩ ⟨ra_y8_4, rb_y8_4⟩ ⟨ra_y8_5, rb_y8_5⟩ hi8_0 hi8_1 hi8_2 hi8_3 hi8_4 hn8
      exfalso
      omega
    | succ fu8 ih8 =>
      intro w_8 y8_3 y8_4 y8_5 I_8 A_8 B_8 C_8 M_8 hR_8 ⟨ra_y8_3, rb_y8_3⟩ ⟨ra_y8_4, rb_y8_4⟩ ⟨ra_y8_5, rb_y8_5⟩ hi8_0 hi8_1 hi8_2 hi8_3 hi8_4 hn8
      obtain ⟨pb1, pb2⟩ := c_Pr_in (fun _ _ _ g => c_W_in g) hi8_2
      refine w_adv (n := 2) (F' := (13, [(0, .ref 39), (1, .int (Int32.ofInt (n))), (2, .int (Int32.ofInt (x))), (3, .int (Int32.ofInt (y8_3))), (4, .int (Int32.ofInt (y8_4))), (5, .int (Int32.ofInt (y8_5)))], [.int (Int32.ofInt (1500)), .int (Int32.ofInt (y8_5))], M_8)) rfl ?_
      refine w_br2 (a := y8_5) (b := 1500) rfl rfl ⟨by omega, by omega⟩ ⟨by omega, by omega⟩ (fun h1 => ?_) (fun h1 => ?_)
      · have h1 : y8_5 ≥ 1500 := h1
        show w_W _ _ _ (125, [(0, .ref 39), (1, .int (Int32.ofInt (n))), (2, .int (Int32.ofInt (x))), (3, .int (Int32.ofInt (y8_3))), (4, .int (Int32.ofInt (y8_4))), (5, .int (Int32.ofInt (y8_5)))], [], M_8) _
        have pw : c_W A_8 j y8_3 w_8 q := c_Pr_no hi8_2 (by first | (intro e; have := c_Pr_three (fun _ _ _ g => c_W_in g) hi8_2 e; omega))
        refine w_adv (n := 2) (F' := (127, [(0, .ref 39), (1, .int (Int32.ofInt (n))), (2, .int (Int32.ofInt (x))), (3, .int (Int32.ofInt (y8_3))), (4, .int (Int32.ofInt (y8_4))), (5, .int (Int32.ofInt (y8_5)))], [.int (Int32.ofInt (y8_3)), .ref 39], M_8)) rfl ?_
        refine w_call (cm := 154) (as := [(0, .ref 39), (1, .int (Int32.ofInt (y8_3)))]) (rest := []) (o := some (1, 39)) rfl (w_fitR hR_8 rfl) (c_isVariable (y8_3) hR_8 (show 2 ≤ d by omega) ⟨by omega, by omega⟩) (fun r2 M3 q4 => ?_)
        rcases q4 with ⟨e5, e6⟩ | ⟨e7, e8⟩
        · rw [e5, e6]
          show w_W _ _ _ (130, [(0, .ref 39), (1, .int (Int32.ofInt (n))), (2, .int (Int32.ofInt (x))), (3, .int (Int32.ofInt (y8_3))), (4, .int (Int32.ofInt (y8_4))), (5, .int (Int32.ofInt (y8_5)))], [.int (Int32.ofInt (1))], M_8) _
          refine w_adv (n := 1) (F' := (140, [(0, .ref 39), (1, .int (Int32.ofInt (n))), (2, .int (Int32.ofInt (x))), (3, .int (Int32.ofInt (y8_3))), (4, .int (Int32.ofInt (y8_4))), (5, .int (Int32.ofInt (y8_5)))], [], M_8)) rfl ?_
          refine w_fin (r := .inl none) (M' := M_8) rfl ?_
          exact ⟨I_8, A_8, B_8, C_8, rfl, hR_8, (show c_bz I A I_8 A_8 p q (I 2503) by exact hi8_0), (show (I_8 2503) = (I 2503) ∧ (0 ≤ (I_8 1035) ∧ (I_8 1035) ≤ 10000) ∧ (I_8 200) = (I 200) ∧ (I_8 202) = (I 202) by (repeat' apply And.intro) <;> first | assumption | omega)⟩
        · rw [e7, e8]
          show w_W _ _ _ (130, [(0, .ref 39), (1, .int (Int32.ofInt (n))), (2, .int (Int32.ofInt (x))), (3, .int (Int32.ofInt (y8_3))), (4, .int (Int32.ofInt (y8_4))), (5, .int (Int32.ofInt (y8_5)))], [.int (Int32.ofInt (0))], M_8) _
          refine w_adv (n := 4) (F' := (137, [(0, .ref 39), (1, .int (Int32.ofInt (n))), (2, .int (Int32.ofInt (x))), (3, .int (Int32.ofInt (y8_3))), (4, .int (Int32.ofInt (y8_4))), (5, .int (Int32.ofInt (y8_5)))], [.int (Int32.ofInt (y8_4)), .int (Int32.ofInt (y8_3)), .ref 39], M_8)) rfl ?_
          refine w_call (cm := 156) (as := [(0, .ref 39), (1, .int (Int32.ofInt (y8_3))), (2, .int (Int32.ofInt (y8_4)))]) (rest := []) (o := some (1, 39)) rfl (w_fitR hR_8 rfl) ((hB0 d (Nat.lt_succ_self d)).1 (y8_3) (y8_4) (j) (w_8) (q) hR_8 (show 8 * j + 4 ≤ d by omega) ⟨by omega, by omega⟩ ⟨by omega, by omega⟩ (show 0 ≤ (I_8 1035) ∧ (I_8 1035) ≤ 10000 by (repeat' apply And.intro) <;> first | assumption | omega) (show c_ks A_8 by exact (show c_bz I A I_8 A_8 p q (I 2503) from hi8_0).2.2.2.2 hKS) (show 36 ≤ (I_8 200) ∧ (I_8 200) ≤ 419 ∧ 0 ≤ (I_8 202) ∧ (I_8 202) ≤ 24 by (repeat' apply And.intro) <;> first | assumption | omega) (show ∀ i, (A_8 5) i ≤ 24 by rw [show (A_8 5) = (A 5) from (show c_bz I A I_8 A_8 p q (I 2503) from hi8_0).2.1 5 rfl]; exact hLN) (show 0 ≤ (I_8 2503) by omega) (show (I_8 2503) + 7000 * (j : Int) ≤ 1000000 by first | assumption | omega) (show c_W A_8 j y8_3 w_8 q by exact pw) (show 0 ≤ w_8 ∧ q ≤ 3001 by first | assumption | omega)) (fun r9 M10 q11 => ?_)
          rcases q11 with ⟨I11a, A11a, B11a, C11a, e12, hR11a, f13, f14⟩
          rw [e12]
          replace hR11a : w_Rep w_TC fr X u l I11a A11a B11a C11a M10 := hR11a
          replace f13 : c_bz I_8 A_8 I11a A11a w_8 q (I_8 2503) := f13
          replace f14 : (I11a 2503) = (I_8 2503) ∧ (0 ≤ (I11a 1035) ∧ (I11a 1035) ≤ 10000) ∧ (I11a 200) = (I_8 200) ∧ (I11a 202) = (I_8 202) := f14
          obtain ⟨n15, ⟨n16, n17⟩, n18, n19⟩ := id f14
          clear f14
          have bx20 : c_bz I A I11a A11a p q (I 2503) := c_bz_trans (show c_bz I A I_8 A_8 p q (I 2503) from hi8_0) f13 (Int.le_refl _) (Int.le_refl _) (show p ≤ w_8 ∨ q ≤ w_8 by omega) (show q ≤ q ∨ q ≤ w_8 by omega) (Int.le_refl _) (show (I 2503) ≤ (I_8 2503) by omega)
          show w_W _ _ _ (140, [(0, .ref 39), (1, .int (Int32.ofInt (n))), (2, .int (Int32.ofInt (x))), (3, .int (Int32.ofInt (y8_3))), (4, .int (Int32.ofInt (y8_4))), (5, .int (Int32.ofInt (y8_5)))], [], M10) _
          refine w_fin (r := .inl none) (M' := M10) rfl ?_
          exact ⟨I11a, A11a, B11a, C11a, rfl, hR11a, (show c_bz I A I11a A11a p q (I 2503) by exact bx20), (show (I11a 2503) = (I 2503) ∧ (0 ≤ (I11a 1035) ∧ (I11a 1035) ≤ 10000) ∧ (I11a 200) = (I 200) ∧ (I11a 202) = (I 202) by (repeat' apply And.intro) <;> first | assumption | omega)⟩
      · have h1 : ¬ (y8_5 ≥ 1500) := h1
        show w_W _ _ _ (16, [(0, .ref 39), (1, .int (Int32.ofInt (n))), (2, .int (Int32.ofInt (x))), (3, .int (Int32.ofInt (y8_3))), (4, .int (Int32.ofInt (y8_4))), (5, .int (Int32.ofInt (y8_5)))], [], M_8) _
        refine w_adv (n := 1) (F' := (17, [(0, .ref 39), (1, .int (Int32.ofInt (n))), (2, .int (Int32.ofInt (x))), (3, .int (Int32.ofInt (y8_3))), (4, .int (Int32.ofInt (y8_4))), (5, .int (Int32.ofInt (y8_5)))], [.ref 39], M_8)) rfl ?_
        refine w_gf (v := .ref 26) hR_8 rfl rfl rfl rfl ?_
        refine w_adv (n := 1) (F' := (21, [(0, .ref 39), (1, .int (Int32.ofInt (n))), (2, .int (Int32.ofInt (x))), (3, .int (Int32.ofInt (y8_3))), (4, .int (Int32.ofInt (y8_4))), (5, .int (Int32.ofInt (y8_5)))], [.int (Int32.ofInt (y8_3)), .ref 26], M_8)) rfl ?_
        refine w_call (cm := 135) (as := [(0, .ref 26), (1, .int (Int32.ofInt (y8_3)))]) (rest := []) (o := some (8, 26)) rfl (w_fitR hR_8 rfl) (c_Tkind (y8_3) hR_8 (show 1 ≤ d by omega) ⟨by omega, by omega⟩) (fun r21 M22 q23 => ?_)
        rcases q23 with ⟨v24, e25, ⟨r26, r27⟩, e28, f29⟩
        rw [e25, e28]
        replace f29 : c_rd (A_8 27) y8_3 v24 := f29
        skip
        show w_W _ _ _ (24, [(0, .ref 39), (1, .int (Int32.ofInt (n))), (2, .int (Int32.ofInt (x))), (3, .int (Int32.ofInt (y8_3))), (4, .int (Int32.ofInt (y8_4))), (5, .int (Int32.ofInt (y8_5)))], [.int (Int32.ofInt (v24))], M_8) _
        refine w_adv (n := 1) (F' := (26, [(0, .ref 39), (1, .int (Int32.ofInt (n))), (2, .int (Int32.ofInt (x))), (3, .int (Int32.ofInt (y8_3))), (4, .int (Int32.ofInt (y8_4))), (5, .int (Int32.ofInt (y8_5)))], [.int (Int32.ofInt (7)), .int (Int32.ofInt (v24))], M_8)) rfl ?_
        refine w_br2 (a := v24) (b := 7) rfl rfl ⟨by omega, by omega⟩ ⟨by omega, by omega⟩ (fun h30 => ?_) (fun h30 => ?_)
        · have h30 : ¬ v24 = 7 := h30
          show w_W _ _ _ (125, [(0, .ref 39), (1, .int (Int32.ofInt (n))), (2, .int (Int32.ofInt (x))), (3, .int (Int32.ofInt (y8_3))), (4, .int (Int32.ofInt (y8_4))), (5, .int (Int32.ofInt (y8_5)))], [], M_8) _
          have pw : c_W A_8 j y8_3 w_8 q := c_Pr_no hi8_2 (by first | (intro e; have := c_Pr_three (fun _ _ _ g => c_W_in g) hi8_2 e; omega) | (intro e; have := c_rd_eq f29 (by omega) (by omega); omega))
          refine w_adv (n := 2) (F' := (127, [(0, .ref 39), (1, .int (Int32.ofInt (n))), (2, .int (Int32.ofInt (x))), (3, .int (Int32.ofInt (y8_3))), (4, .int (Int32.ofInt (y8_4))), (5, .int (Int32.ofInt (y8_5)))], [.int (Int32.ofInt (y8_3)), .ref 39], M_8)) rfl ?_
          refine w_call (cm := 154) (as := [(0, .ref 39), (1, .int (Int32.ofInt (y8_3)))]) (rest := []) (o := some (1, 39)) rfl (w_fitR hR_8 rfl) (c_isVariable (y8_3) hR_8 (show 2 ≤ d by omega) ⟨by omega, by omega⟩) (fun r31 M32 q33 => ?_)
          rcases q33 with ⟨e34, e35⟩ | ⟨e36, e37⟩
          · rw [e34, e35]
            show w_W _ _ _ (130, [(0, .ref 39), (1, .int (Int32.ofInt (n))), (2, .int (Int32.ofInt (x))), (3, .int (Int32.ofInt (y8_3))), (4, .int (Int32.ofInt (y8_4))), (5, .int (Int32.ofInt (y8_5)))], [.int (Int32.ofInt (1))], M_8) _
            refine w_adv (n := 1) (F' := (140, [(0, .ref 39), (1, .int (Int32.ofInt (n))), (2, .int (Int32.ofInt (x))), (3, .int (Int32.ofInt (y8_3))), (4, .int (Int32.ofInt (y8_4))), (5, .int (Int32.ofInt (y8_5)))], [], M_8)) rfl ?_
            refine w_fin (r := .inl none) (M' := M_8) rfl ?_
            exact ⟨I_8, A_8, B_8, C_8, rfl, hR_8, (show c_bz I A I_8 A_8 p q (I 2503) by exact hi8_0), (show (I_8 2503) = (I 2503) ∧ (0 ≤ (I_8 1035) ∧ (I_8 1035) ≤ 10000) ∧ (I_8 200) = (I 200) ∧ (I_8 202) = (I 202) by (repeat' apply And.intro) <;> first | assumption | omega)⟩
          · rw [e36, e37]
            show w_W _ _ _ (130, [(0, .ref 39), (1, .int (Int32.ofInt (n))), (2, .int (Int32.ofInt (x))), (3, .int (Int32.ofInt (y8_3))), (4, .int (Int32.ofInt (y8_4))), (5, .int (Int32.ofInt (y8_5)))], [.int (Int32.ofInt (0))], M_8) _
            refine w_adv (n := 4) (F' := (137, [(0, .ref 39), (1, .int (Int32.ofInt (n))), (2, .int (Int32.ofInt (x))), (3, .int (Int32.ofInt (y8_3))), (4, .int (Int32.ofInt (y8_4))), (5, .int (Int32.ofInt (y8_5)))], [.int (Int32.ofInt (y8_4)), .int (Int32.ofInt (y8_3)), .ref 39], M_8)) rfl ?_
            refine w_call (cm := 156) (as := [(0, .ref 39), (1, .int (Int32.ofInt (y8_3))), (2, .int (Int32.ofInt (y8_4)))]) (rest := []) (o := some (1, 39)) rfl (w_fitR hR_8 rfl) ((hB0 d (Nat.lt_succ_self d)).1 (y8_3) (y8_4) (j) (w_8) (q) hR_8 (show 8 * j + 4 ≤ d by omega) ⟨by omega, by omega⟩ ⟨by omega, by omega⟩ (show 0 ≤ (I_8 1035) ∧ (I_8 1035) ≤ 10000 by (repeat' apply And.intro) <;> first | assumption | omega) (show c_ks A_8 by exact (show c_bz I A I_8 A_8 p q (I 2503) from hi8_0).2.2.2.2 hKS) (show 36 ≤ (I_8 200) ∧ (I_8 200) ≤ 419 ∧ 0 ≤ (I_8 202) ∧ (I_8 202) ≤ 24 by (repeat' apply And.intro) <;> first | assumption | omega) (show ∀ i, (A_8 5) i ≤ 24 by rw [show (A_8 5) = (A 5) from (show c_bz I A I_8 A_8 p q (I 2503) from hi8_0).2.1 5 rfl]; exact hLN) (show 0 ≤ (I_8 2503) by omega) (show (I_8 2503) + 7000 * (j : Int) ≤ 1000000 by first | assumption | omega) (show c_W A_8 j y8_3 w_8 q by exact pw) (show 0 ≤ w_8 ∧ q ≤ 3001 by first | assumption | omega)) (fun r38 M39 q40 => ?_)
            rcases q40 with ⟨I40a, A40a, B40a, C40a, e41, hR40a, f42, f43⟩
            rw [e41]
            replace hR40a : w_Rep w_TC fr X u l I40a A40a B40a C40a M39 := hR40a
            replace f42 : c_bz I_8 A_8 I40a A40a w_8 q (I_8 2503) := f42
            replace f43 : (I40a 2503) = (I_8 2503) ∧ (0 ≤ (I40a 1035) ∧ (I40a 1035) ≤ 10000) ∧ (I40a 200) = (I_8 200) ∧ (I40a 202) = (I_8 202) := f43
            obtain ⟨n44, ⟨n45, n46⟩, n47, n48⟩ := id f43
            clear f43
            have bx49 : c_bz I A I40a A40a p q (I 2503) := c_bz_trans (show c_bz I A I_8 A_8 p q (I 2503) from hi8_0) f42 (Int.le_refl _) (Int.le_refl _) (show p ≤ w_8 ∨ q ≤ w_8 by omega) (show q ≤ q ∨ q ≤ w_8 by omega) (Int.le_refl _) (show (I 2503) ≤ (I_8 2503) by omega)
            show w_W _ _ _ (140, [(0, .ref 39), (1, .int (Int32.ofInt (n))), (2, .int (Int32.ofInt (x))), (3, .int (Int32.ofInt (y8_3))), (4, .int (Int32.ofInt (y8_4))), (5, .int (Int32.ofInt (y8_5)))], [], M39) _
            refine w_fin (r := .inl none) (M' := M39) rfl ?_
            exact ⟨I40a, A40a, B40a, C40a, rfl, hR40a, (show c_bz I A I40a A40a p q (I 2503) by exact bx49), (show (I40a 2503) = (I 2503) ∧ (0 ≤ (I40a 1035) ∧ (I40a 1035) ≤ 10000) ∧ (I40a 200) = (I 200) ∧ (I40a 202) = (I 202) by (repeat' apply And.intro) <;> first | assumption | omega)⟩
        · have h30 : ¬ (¬ v24 = 7) := h30
          show w_W _ _ _ (29, [(0, .ref 39), (1, .int (Int32.ofInt (n))), (2, .int (Int32.ofInt (x))), (3, .int (Int32.ofInt (y8_3))), (4, .int (Int32.ofInt (y8_4))), (5, .int (Int32.ofInt (y8_5)))], [], M_8) _
          obtain ⟨pg1, pg2⟩ := c_Pr_7 hi8_2 (show A_8 27 y8_3 = 7 from by rw [← c_rd_eq f29 (by omega) (by omega)]; omega)
          obtain ⟨pg3, pg4⟩ := c_W_in pg1
          refine w_adv (n := 1) (F' := (30, [(0, .ref 39), (1, .int (Int32.ofInt (n))), (2, .int (Int32.ofInt (x))), (3, .int (Int32.ofInt (y8_3))), (4, .int (Int32.ofInt (y8_4))), (5, .int (Int32.ofInt (y8_5)))], [.ref 39], M_8)) rfl ?_
          refine w_gf (v := .ref 26) hR_8 rfl rfl rfl rfl ?_
          refine w_adv (n := 1) (F' := (34, [(0, .ref 39), (1, .int (Int32.ofInt (n))), (2, .int (Int32.ofInt (x))), (3, .int (Int32.ofInt (y8_3))), (4, .int (Int32.ofInt (y8_4))), (5, .int (Int32.ofInt (y8_5)))], [.int (Int32.ofInt (y8_3)), .ref 26], M_8)) rfl ?_
          refine w_call (cm := 145) (as := [(0, .ref 26), (1, .int (Int32.ofInt (y8_3)))]) (rest := []) (o := some (8, 26)) rfl (w_fitR hR_8 rfl) (c_Ta (y8_3) hR_8 (show 1 ≤ d by omega) ⟨by omega, by omega⟩) (fun r50 M51 q52 => ?_)
          rcases q52 with ⟨v53, e54, ⟨r55, r56⟩, e57, f58⟩
          rw [e54, e57]
          replace f58 : c_rd (A_8 28) y8_3 v53 := f58
          have ev53 : v53 = (A_8 28 y8_3) := c_rd_eq f58 (by omega) (by omega)
          show w_W _ _ _ (37, [(0, .ref 39), (1, .int (Int32.ofInt (n))), (2, .int (Int32.ofInt (x))), (3, .int (Int32.ofInt (y8_3))), (4, .int (Int32.ofInt (y8_4))), (5, .int (Int32.ofInt (y8_5)))], [.int (Int32.ofInt (v53))], M_8) _
          refine w_adv (n := 2) (F' := (40, [(6, .int (Int32.ofInt (v53))), (0, .ref 39), (1, .int (Int32.ofInt (n))), (2, .int (Int32.ofInt (x))), (3, .int (Int32.ofInt (y8_3))), (4, .int (Int32.ofInt (y8_4))), (5, .int (Int32.ofInt (y8_5)))], [.ref 39], M_8)) rfl ?_
          refine w_gf (v := .ref 26) hR_8 rfl rfl rfl rfl ?_
          refine w_adv (n := 1) (F' := (44, [(6, .int (Int32.ofInt (v53))), (0, .ref 39), (1, .int (Int32.ofInt (n))), (2, .int (Int32.ofInt (x))), (3, .int (Int32.ofInt (y8_3))), (4, .int (Int32.ofInt (y8_4))), (5, .int (Int32.ofInt (y8_5)))], [.int (Int32.ofInt (y8_3)), .ref 26], M_8)) rfl ?_
          refine w_call (cm := 152) (as := [(0, .ref 26), (1, .int (Int32.ofInt (y8_3)))]) (rest := []) (o := some (8, 26)) rfl (w_fitR hR_8 rfl) (c_Tb (y8_3) hR_8 (show 1 ≤ d by omega) ⟨by omega, by omega⟩) (fun r59 M60 q61 => ?_)
          rcases q61 with ⟨v62, e63, ⟨r64, r65⟩, e66, f67⟩
          rw [e63, e66]
          replace f67 : c_rd (A_8 29) y8_3 v62 := f67
          have ev62 : v62 = (A_8 29 y8_3) := c_rd_eq f67 (by omega) (by omega)
          show w_W _ _ _ (47, [(6, .int (Int32.ofInt (v53))), (0, .ref 39), (1, .int (Int32.ofInt (n))), (2, .int (Int32.ofInt (x))), (3, .int (Int32.ofInt (y8_3))), (4, .int (Int32.ofInt (y8_4))), (5, .int (Int32.ofInt (y8_5)))], [.int (Int32.ofInt (v62))], M_8) _
          refine w_adv (n := 3) (F' := (52, [(7, .int (Int32.ofInt (v62))), (6, .int (Int32.ofInt (v53))), (0, .ref 39), (1, .int (Int32.ofInt (n))), (2, .int (Int32.ofInt (x))), (3, .int (Int32.ofInt (y8_3))), (4, .int (Int32.ofInt (y8_4))), (5, .int (Int32.ofInt (y8_5)))], [.int (Int32.ofInt (v53)), .ref 39], M_8)) rfl ?_
          refine w_call (cm := 158) (as := [(0, .ref 39), (1, .int (Int32.ofInt (v53)))]) (rest := []) (o := some (1, 39)) rfl (w_fitR hR_8 rfl) (c_target (v53) hR_8 (show 4 ≤ d by omega) ⟨by omega, by omega⟩ (show 0 ≤ (I_8 1035) ∧ (I_8 1035) ≤ 10000 by (repeat' apply And.intro) <;> first | assumption | omega) (show 0 ≤ (I_8 2503) by omega)) (fun r68 M69 q70 => ?_)
          rcases q70 with ⟨v71, I70a, A70a, B70a, C70a, e72, ⟨r73, r74⟩, hR70a, f75, f76⟩
          rw [e72]
          replace hR70a : w_Rep w_TC fr X u l I70a A70a B70a C70a M69 := hR70a
          replace f75 : c_bz I_8 A_8 I70a A70a 0 0 (I_8 2503) := f75
          replace f76 : (I70a 2503) = (I_8 2503) ∧ (0 ≤ (I70a 1035) ∧ (I70a 1035) ≤ 10000) ∧ (I70a 200) = (I_8 200) ∧ (I70a 202) = (I_8 202) := f76
          obtain ⟨n77, ⟨n78, n79⟩, n80, n81⟩ := id f76
          clear f76
          have bx82 : c_bz I A I70a A70a p q (I 2503) := c_bz_trans (show c_bz I A I_8 A_8 p q (I 2503) from hi8_0) f75 (Int.le_refl _) (Int.le_refl _) (show p ≤ 0 ∨ 0 ≤ 0 by omega) (show 0 ≤ q ∨ 0 ≤ 0 by omega) (Int.le_refl _) (show (I 2503) ≤ (I_8 2503) by omega)
          have k83 : c_W A70a j (A_8 28 y8_3) w_8 y8_3 := c_W_agr pg1 (c_bz_r f75 (show y8_3 ≤ 0 ∨ 0 ≤ w_8 ∨ 0 ≤ 0 by omega))
          clear pg1
          have k84 : c_Pr (A70a 27) (A70a 28) (A70a 29) (c_W A70a j) (A_8 29 y8_3) (y8_3 + 1) q := c_Pr_agr pg2 (c_bz_r f75 (show q ≤ 0 ∨ 0 ≤ (y8_3 + 1) ∨ 0 ≤ 0 by omega))
          clear pg2
          show w_W _ _ _ (55, [(7, .int (Int32.ofInt (v62))), (6, .int (Int32.ofInt (v53))), (0, .ref 39), (1, .int (Int32.ofInt (n))), (2, .int (Int32.ofInt (x))), (3, .int (Int32.ofInt (y8_3))), (4, .int (Int32.ofInt (y8_4))), (5, .int (Int32.ofInt (y8_5)))], [.int (Int32.ofInt (v71))], M69) _
          refine w_adv (n := 3) (F' := (60, [(8, .int (Int32.ofInt (v71))), (7, .int (Int32.ofInt (v62))), (6, .int (Int32.ofInt (v53))), (0, .ref 39), (1, .int (Int32.ofInt (n))), (2, .int (Int32.ofInt (x))), (3, .int (Int32.ofInt (y8_3))), (4, .int (Int32.ofInt (y8_4))), (5, .int (Int32.ofInt (y8_5)))], [.int (Int32.ofInt (v62)), .ref 39], M69)) rfl ?_
          refine w_call (cm := 158) (as := [(0, .ref 39), (1, .int (Int32.ofInt (v62)))]) (rest := []) (o := some (1, 39)) rfl (w_fitR hR70a rfl) (c_target (v62) hR70a (show 4 ≤ d by omega) ⟨by omega, by omega⟩ (show 0 ≤ (I70a 1035) ∧ (I70a 1035) ≤ 10000 by (repeat' apply And.intro) <;> first | assumption | omega) (show 0 ≤ (I70a 2503) by omega)) (fun r85 M86 q87 => ?_)
          rcases q87 with ⟨v88, I87a, A87a, B87a, C87a, e89, ⟨r90, r91⟩, hR87a, f92, f93⟩
          rw [e89]
          replace hR87a : w_Rep w_TC fr X u l I87a A87a B87a C87a M86 := hR87a
          replace f92 : c_bz I70a A70a I87a A87a 0 0 (I70a 2503) := f92
          replace f93 : (I87a 2503) = (I70a 2503) ∧ (0 ≤ (I87a 1035) ∧ (I87a 1035) ≤ 10000) ∧ (I87a 200) = (I70a 200) ∧ (I87a 202) = (I70a 202) := f93
          obtain ⟨n94, ⟨n95, n96⟩, n97, n98⟩ := id f93
          clear f93
          have bx99 : c_bz I A I87a A87a p q (I 2503) := c_bz_trans (show c_bz I A I70a A70a p q (I 2503) from bx82) f92 (Int.le_refl _) (Int.le_refl _) (show p ≤ 0 ∨ 0 ≤ 0 by omega) (show 0 ≤ q ∨ 0 ≤ 0 by omega) (Int.le_refl _) (show (I 2503) ≤ (I70a 2503) by omega)
          have k100 : c_W A87a j (A_8 28 y8_3) w_8 y8_3 := c_W_agr k83 (c_bz_r f92 (show y8_3 ≤ 0 ∨ 0 ≤ w_8 ∨ 0 ≤ 0 by omega))
          clear k83
          have k101 : c_Pr (A87a 27) (A87a 28) (A87a 29) (c_W A87a j) (A_8 29 y8_3) (y8_3 + 1) q := c_Pr_agr k84 (c_bz_r f92 (show q ≤ 0 ∨ 0 ≤ (y8_3 + 1) ∨ 0 ≤ 0 by omega))
          clear k84
          show w_W _ _ _ (63, [(8, .int (Int32.ofInt (v71))), (7, .int (Int32.ofInt (v62))), (6, .int (Int32.ofInt (v53))), (0, .ref 39), (1, .int (Int32.ofInt (n))), (2, .int (Int32.ofInt (x))), (3, .int (Int32.ofInt (y8_3))), (4, .int (Int32.ofInt (y8_4))), (5, .int (Int32.ofInt (y8_5)))], [.int (Int32.ofInt (v88))], M86) _
          refine w_adv (n := 6) (F' := (72, [(9, .int (Int32.ofInt (v88))), (8, .int (Int32.ofInt (v71))), (7, .int (Int32.ofInt (v62))), (6, .int (Int32.ofInt (v53))), (0, .ref 39), (1, .int (Int32.ofInt (n))), (2, .int (Int32.ofInt (x))), (3, .int (Int32.ofInt (y8_3))), (4, .int (Int32.ofInt (y8_4))), (5, .int (Int32.ofInt (y8_5)))], [.int (Int32.ofInt ((-1))), .int (Int32.ofInt (3)), .int (Int32.ofInt (y8_4)), .int (Int32.ofInt (6)), .ref 39], M86)) rfl ?_
          refine w_call (cm := 148) (as := [(0, .ref 39), (1, .int (Int32.ofInt (6))), (2, .int (Int32.ofInt (y8_4))), (3, .int (Int32.ofInt (3))), (4, .int (Int32.ofInt ((-1))))]) (rest := []) (o := some (1, 39)) rfl (w_fitR hR87a rfl) (c_emit (6) (y8_4) (3) ((-1)) hR87a (show 4 ≤ d by omega) ⟨by omega, by omega⟩ ⟨by omega, by omega⟩ ⟨by omega, by omega⟩ ⟨by omega, by omega⟩ (show 0 ≤ (I87a 1035) ∧ (I87a 1035) ≤ 10000 by (repeat' apply And.intro) <;> first | assumption | omega) (show 0 ≤ (I87a 2503) by omega)) (fun r102 M103 q104 => ?_)
          rcases q104 with ⟨I104a, A104a, B104a, C104a, e105, hR104a, f106, f107⟩
          rw [e105]
          replace hR104a : w_Rep w_TC fr X u l I104a A104a B104a C104a M103 := hR104a
          replace f106 : c_bz I87a A87a I104a A104a 0 0 (I87a 2503) := f106
          replace f107 : (I104a 2503) = (I87a 2503) ∧ (0 ≤ (I104a 1035) ∧ (I104a 1035) ≤ 10000) ∧ (I104a 200) = (I87a 200) ∧ (I104a 202) = (I87a 202) := f107
          obtain ⟨n108, ⟨n109, n110⟩, n111, n112⟩ := id f107
          clear f107
          have bx113 : c_bz I A I104a A104a p q (I 2503) := c_bz_trans (show c_bz I A I87a A87a p q (I 2503) from bx99) f106 (Int.le_refl _) (Int.le_refl _) (show p ≤ 0 ∨ 0 ≤ 0 by omega) (show 0 ≤ q ∨ 0 ≤ 0 by omega) (Int.le_refl _) (show (I 2503) ≤ (I87a 2503) by omega)
          have k114 : c_W A104a j (A_8 28 y8_3) w_8 y8_3 := c_W_agr k100 (c_bz_r f106 (show y8_3 ≤ 0 ∨ 0 ≤ w_8 ∨ 0 ≤ 0 by omega))
          clear k100
          have k115 : c_Pr (A104a 27) (A104a 28) (A104a 29) (c_W A104a j) (A_8 29 y8_3) (y8_3 + 1) q := c_Pr_agr k101 (c_bz_r f106 (show q ≤ 0 ∨ 0 ≤ (y8_3 + 1) ∨ 0 ≤ 0 by omega))
          clear k101
          show w_W _ _ _ (75, [(9, .int (Int32.ofInt (v88))), (8, .int (Int32.ofInt (v71))), (7, .int (Int32.ofInt (v62))), (6, .int (Int32.ofInt (v53))), (0, .ref 39), (1, .int (Int32.ofInt (n))), (2, .int (Int32.ofInt (x))), (3, .int (Int32.ofInt (y8_3))), (4, .int (Int32.ofInt (y8_4))), (5, .int (Int32.ofInt (y8_5)))], [], M103) _
          refine w_adv (n := 1) (F' := (76, [(9, .int (Int32.ofInt (v88))), (8, .int (Int32.ofInt (v71))), (7, .int (Int32.ofInt (v62))), (6, .int (Int32.ofInt (v53))), (0, .ref 39), (1, .int (Int32.ofInt (n))), (2, .int (Int32.ofInt (x))), (3, .int (Int32.ofInt (y8_3))), (4, .int (Int32.ofInt (y8_4))), (5, .int (Int32.ofInt (y8_5)))], [.ref 39], M103)) rfl ?_
          refine w_gf (v := .ref 16) hR104a rfl rfl rfl rfl ?_
          refine w_adv (n := 2) (F' := (82, [(9, .int (Int32.ofInt (v88))), (8, .int (Int32.ofInt (v71))), (7, .int (Int32.ofInt (v62))), (6, .int (Int32.ofInt (v53))), (0, .ref 39), (1, .int (Int32.ofInt (n))), (2, .int (Int32.ofInt (x))), (3, .int (Int32.ofInt (y8_3))), (4, .int (Int32.ofInt (y8_4))), (5, .int (Int32.ofInt (y8_5)))], [.int (Int32.ofInt (v71)), .int (Int32.ofInt (1)), .ref 16], M103)) rfl ?_
          refine w_call (cm := 163) (as := [(0, .ref 16), (1, .int (Int32.ofInt (1))), (2, .int (Int32.ofInt (v71)))]) (rest := []) (o := some (2, 16)) rfl (w_fitR hR104a rfl) (c_kap (1) (v71) hR104a (show 2 ≤ d by omega) ⟨by omega, by omega⟩ ⟨by omega, by omega⟩ (show 0 ≤ (I104a 1035) ∧ (I104a 1035) ≤ 10000 by (repeat' apply And.intro) <;> first | assumption | omega) (show 0 ≤ (I104a 2503) by omega)) (fun r116 M117 q118 => ?_)
          rcases q118 with ⟨I118a, A118a, B118a, C118a, e119, hR118a, f120, f121, f122⟩
          rw [e119]
          replace hR118a : w_Rep w_TC fr X u l I118a A118a B118a C118a M117 := hR118a
          replace f120 : c_bz I104a A104a I118a A118a 0 0 (I104a 2503) := f120
          replace f121 : (I118a 2503) = (I104a 2503) ∧ (0 ≤ (I118a 1035) ∧ (I118a 1035) ≤ 10000) ∧ (I118a 200) = (I104a 200) ∧ (I118a 202) = (I104a 202) := f121
          obtain ⟨n123, ⟨n124, n125⟩, n126, n127⟩ := id f121
          clear f121
          replace f122 : (I118a 2502) = (I104a 2502) := f122
          have bx128 : c_bz I A I118a A118a p q (I 2503) := c_bz_trans (show c_bz I A I104a A104a p q (I 2503) from bx113) f120 (Int.le_refl _) (Int.le_refl _) (show p ≤ 0 ∨ 0 ≤ 0 by omega) (show 0 ≤ q ∨ 0 ≤ 0 by omega) (Int.le_refl _) (show (I 2503) ≤ (I104a 2503) by omega)
          have k129 : c_W A118a j (A_8 28 y8_3) w_8 y8_3 := c_W_agr k114 (c_bz_r f120 (show y8_3 ≤ 0 ∨ 0 ≤ w_8 ∨ 0 ≤ 0 by omega))
          clear k114
          have k130 : c_Pr (A118a 27) (A118a 28) (A118a 29) (c_W A118a j) (A_8 29 y8_3) (y8_3 + 1) q := c_Pr_agr k115 (c_bz_r f120 (show q ≤ 0 ∨ 0 ≤ (y8_3 + 1) ∨ 0 ≤ 0 by omega))
          clear k115
          show w_W _ _ _ (85, [(9, .int (Int32.ofInt (v88))), (8, .int (Int32.ofInt (v71))), (7, .int (Int32.ofInt (v62))), (6, .int (Int32.ofInt (v53))), (0, .ref 39), (1, .int (Int32.ofInt (n))), (2, .int (Int32.ofInt (x))), (3, .int (Int32.ofInt (y8_3))), (4, .int (Int32.ofInt (y8_4))), (5, .int (Int32.ofInt (y8_5)))], [], M117) _
          refine w_adv (n := 1) (F' := (86, [(9, .int (Int32.ofInt (v88))), (8, .int (Int32.ofInt (v71))), (7, .int (Int32.ofInt (v62))), (6, .int (Int32.ofInt (v53))), (0, .ref 39), (1, .int (Int32.ofInt (n))), (2, .int (Int32.ofInt (x))), (3, .int (Int32.ofInt (y8_3))), (4, .int (Int32.ofInt (y8_4))), (5, .int (Int32.ofInt (y8_5)))], [.ref 39], M117)) rfl ?_
          refine w_gf (v := .ref 16) hR118a rfl rfl rfl rfl ?_
          refine w_adv (n := 2) (F' := (92, [(9, .int (Int32.ofInt (v88))), (8, .int (Int32.ofInt (v71))), (7, .int (Int32.ofInt (v62))), (6, .int (Int32.ofInt (v53))), (0, .ref 39), (1, .int (Int32.ofInt (n))), (2, .int (Int32.ofInt (x))), (3, .int (Int32.ofInt (y8_3))), (4, .int (Int32.ofInt (y8_4))), (5, .int (Int32.ofInt (y8_5)))], [.int (Int32.ofInt (v88)), .int (Int32.ofInt (2)), .ref 16], M117)) rfl ?_
          refine w_call (cm := 163) (as := [(0, .ref 16), (1, .int (Int32.ofInt (2))), (2, .int (Int32.ofInt (v88)))]) (rest := []) (o := some (2, 16)) rfl (w_fitR hR118a rfl) (c_kap (2) (v88) hR118a (show 2 ≤ d by omega) ⟨by omega, by omega⟩ ⟨by omega, by omega⟩ (show 0 ≤ (I118a 1035) ∧ (I118a 1035) ≤ 10000 by (repeat' apply And.intro) <;> first | assumption | omega) (show 0 ≤ (I118a 2503) by omega)) (fun r131 M132 q133 => ?_)
          rcases q133 with ⟨I133a, A133a, B133a, C133a, e134, hR133a, f135, f136, f137⟩
          rw [e134]
          replace hR133a : w_Rep w_TC fr X u l I133a A133a B133a C133a M132 := hR133a
          replace f135 : c_bz I118a A118a I133a A133a 0 0 (I118a 2503) := f135
          replace f136 : (I133a 2503) = (I118a 2503) ∧ (0 ≤ (I133a 1035) ∧ (I133a 1035) ≤ 10000) ∧ (I133a 200) = (I118a 200) ∧ (I133a 202) = (I118a 202) := f136
          obtain ⟨n138, ⟨n139, n140⟩, n141, n142⟩ := id f136
          clear f136
          replace f137 : (I133a 2502) = (I118a 2502) := f137
          have bx143 : c_bz I A I133a A133a p q (I 2503) := c_bz_trans (show c_bz I A I118a A118a p q (I 2503) from bx128) f135 (Int.le_refl _) (Int.le_refl _) (show p ≤ 0 ∨ 0 ≤ 0 by omega) (show 0 ≤ q ∨ 0 ≤ 0 by omega) (Int.le_refl _) (show (I 2503) ≤ (I118a 2503) by omega)
          have k144 : c_W A133a j (A_8 28 y8_3) w_8 y8_3 := c_W_agr k129 (c_bz_r f135 (show y8_3 ≤ 0 ∨ 0 ≤ w_8 ∨ 0 ≤ 0 by omega))
          clear k129
          have k145 : c_Pr (A133a 27) (A133a 28) (A133a 29) (c_W A133a j) (A_8 29 y8_3) (y8_3 + 1) q := c_Pr_agr k130 (c_bz_r f135 (show q ≤ 0 ∨ 0 ≤ (y8_3 + 1) ∨ 0 ≤ 0 by omega))
          clear k130
          show w_W _ _ _ (95, [(9, .int (Int32.ofInt (v88))), (8, .int (Int32.ofInt (v71))), (7, .int (Int32.ofInt (v62))), (6, .int (Int32.ofInt (v53))), (0, .ref 39), (1, .int (Int32.ofInt (n))), (2, .int (Int32.ofInt (x))), (3, .int (Int32.ofInt (y8_3))), (4, .int (Int32.ofInt (y8_4))), (5, .int (Int32.ofInt (y8_5)))], [], M132) _
          refine w_adv (n := 2) (F' := (98, [(9, .int (Int32.ofInt (v88))), (8, .int (Int32.ofInt (v71))), (7, .int (Int32.ofInt (v62))), (6, .int (Int32.ofInt (v53))), (0, .ref 39), (1, .int (Int32.ofInt (n))), (2, .int (Int32.ofInt (x))), (3, .int (Int32.ofInt (y8_3))), (4, .int (Int32.ofInt (y8_4))), (5, .int (Int32.ofInt (y8_5)))], [.int (Int32.ofInt (v53)), .ref 39], M132)) rfl ?_
          refine w_call (cm := 154) (as := [(0, .ref 39), (1, .int (Int32.ofInt (v53)))]) (rest := []) (o := some (1, 39)) rfl (w_fitR hR133a rfl) (c_isVariable (v53) hR133a (show 2 ≤ d by omega) ⟨by omega, by omega⟩) (fun r146 M147 q148 => ?_)
          rcases q148 with ⟨e149, e150⟩ | ⟨e151, e152⟩
          · rw [e149, e150]
            show w_W _ _ _ (101, [(9, .int (Int32.ofInt (v88))), (8, .int (Int32.ofInt (v71))), (7, .int (Int32.ofInt (v62))), (6, .int (Int32.ofInt (v53))), (0, .ref 39), (1, .int (Int32.ofInt (n))), (2, .int (Int32.ofInt (x))), (3, .int (Int32.ofInt (y8_3))), (4, .int (Int32.ofInt (y8_4))), (5, .int (Int32.ofInt (y8_5)))], [.int (Int32.ofInt (1))], M132) _
            refine w_adv (n := 5) (F' := (119, [(4, .int (Int32.ofInt (v88))), (3, .int (Int32.ofInt (v62))), (9, .int (Int32.ofInt (v88))), (8, .int (Int32.ofInt (v71))), (7, .int (Int32.ofInt (v62))), (6, .int (Int32.ofInt (v53))), (0, .ref 39), (1, .int (Int32.ofInt (n))), (2, .int (Int32.ofInt (x))), (5, .int (Int32.ofInt (y8_5)))], [], M132)) rfl ?_
            refine w_inc (nL := 10) (a := y8_5) rfl rfl rfl (by decide) ?_
            refine w_adv (n := 1) (F' := (8, [(5, .int (Int32.ofInt (y8_5 + 1))), (4, .int (Int32.ofInt (v88))), (3, .int (Int32.ofInt (v62))), (9, .int (Int32.ofInt (v88))), (8, .int (Int32.ofInt (v71))), (7, .int (Int32.ofInt (v62))), (6, .int (Int32.ofInt (v53))), (0, .ref 39), (1, .int (Int32.ofInt (n))), (2, .int (Int32.ofInt (x)))], [], M132)) rfl ?_
            refine w_ls (ls := [(0, .ref 39), (1, .int (Int32.ofInt (n))), (2, .int (Int32.ofInt (x))), (3, .int (Int32.ofInt (v62))), (4, .int (Int32.ofInt (v88))), (5, .int (Int32.ofInt (y8_5 + 1)))]) (show List.Nodup [0, 1, 2, 3, 4, 5] by decide) (show List.Nodup [5, 4, 3, 9, 8, 7, 6, 0, 1, 2] by decide) (List.forall_mem_cons.mpr ⟨(List.Mem.tail _ (List.Mem.tail _ (List.Mem.tail _ (List.Mem.tail _ (List.Mem.tail _ (List.Mem.tail _ (List.Mem.tail _ (List.Mem.head _)))))))), (List.forall_mem_cons.mpr ⟨(List.Mem.tail _ (List.Mem.tail _ (List.Mem.tail _ (List.Mem.tail _ (List.Mem.tail _ (List.Mem.tail _ (List.Mem.tail _ (List.Mem.tail _ (List.Mem.head _))))))))), (List.forall_mem_cons.mpr ⟨(List.Mem.tail _ (List.Mem.tail _ (List.Mem.tail _ (List.Mem.tail _ (List.Mem.tail _ (List.Mem.tail _ (List.Mem.tail _ (List.Mem.tail _ (List.Mem.tail _ (List.Mem.head _)))))))))), (List.forall_mem_cons.mpr ⟨(List.Mem.tail _ (List.Mem.tail _ (List.Mem.head _))), (List.forall_mem_cons.mpr ⟨(List.Mem.tail _ (List.Mem.head _)), (List.forall_mem_cons.mpr ⟨(List.Mem.head _), (fun _ h => by cases h)⟩)⟩)⟩)⟩)⟩)⟩) ?_
            exact ih8 ((y8_3 + 1)) (v62) (v88) (y8_5 + 1) I133a A133a B133a C133a M132 hR133a ⟨by omega, by omega⟩ ⟨by omega, by omega⟩ ⟨by omega, by omega⟩ (show c_bz I A I133a A133a p q (I 2503) by exact bx143) (show (I133a 2503) = (I 2503) ∧ (0 ≤ (I133a 1035) ∧ (I133a 1035) ≤ 10000) ∧ (I133a 200) = (I 200) ∧ (I133a 202) = (I 202) by (repeat' apply And.intro) <;> first | assumption | omega) (show c_Pr (A133a 27) (A133a 28) (A133a 29) (c_W A133a j) v62 (y8_3 + 1) q by rw [ev62]; exact k145) (show p + 2 * (y8_5 + 1) ≤ (y8_3 + 1) by omega) (show 0 ≤ (y8_5 + 1) ∧ (y8_5 + 1) ≤ 1500 by omega) (show 1500 - (y8_5 + 1) < (fu8 : Int) by omega)
          · rw [e151, e152]
            show w_W _ _ _ (101, [(9, .int (Int32.ofInt (v88))), (8, .int (Int32.ofInt (v71))), (7, .int (Int32.ofInt (v62))), (6, .int (Int32.ofInt (v53))), (0, .ref 39), (1, .int (Int32.ofInt (n))), (2, .int (Int32.ofInt (x))), (3, .int (Int32.ofInt (y8_3))), (4, .int (Int32.ofInt (y8_4))), (5, .int (Int32.ofInt (y8_5)))], [.int (Int32.ofInt (0))], M132) _
            refine w_adv (n := 4) (F' := (109, [(9, .int (Int32.ofInt (v88))), (8, .int (Int32.ofInt (v71))), (7, .int (Int32.ofInt (v62))), (6, .int (Int32.ofInt (v53))), (0, .ref 39), (1, .int (Int32.ofInt (n))), (2, .int (Int32.ofInt (x))), (3, .int (Int32.ofInt (y8_3))), (4, .int (Int32.ofInt (y8_4))), (5, .int (Int32.ofInt (y8_5)))], [.int (Int32.ofInt (v71)), .int (Int32.ofInt (v53)), .ref 39], M132)) rfl ?_
            refine w_call (cm := 156) (as := [(0, .ref 39), (1, .int (Int32.ofInt (v53))), (2, .int (Int32.ofInt (v71)))]) (rest := []) (o := some (1, 39)) rfl (w_fitR hR133a rfl) ((hB0 d (Nat.lt_succ_self d)).1 (v53) (v71) (j) (w_8) (y8_3) hR133a (show 8 * j + 4 ≤ d by omega) ⟨by omega, by omega⟩ ⟨by omega, by omega⟩ (show 0 ≤ (I133a 1035) ∧ (I133a 1035) ≤ 10000 by (repeat' apply And.intro) <;> first | assumption | omega) (show c_ks A133a by exact (show c_bz I A I133a A133a p q (I 2503) from bx143).2.2.2.2 hKS) (show 36 ≤ (I133a 200) ∧ (I133a 200) ≤ 419 ∧ 0 ≤ (I133a 202) ∧ (I133a 202) ≤ 24 by (repeat' apply And.intro) <;> first | assumption | omega) (show ∀ i, (A133a 5) i ≤ 24 by rw [show (A133a 5) = (A 5) from (show c_bz I A I133a A133a p q (I 2503) from bx143).2.1 5 rfl]; exact hLN) (show 0 ≤ (I133a 2503) by omega) (show (I133a 2503) + 7000 * (j : Int) ≤ 1000000 by first | assumption | omega) (show c_W A133a j v53 w_8 y8_3 by rw [ev53]; exact k144) (show 0 ≤ w_8 ∧ y8_3 ≤ 3001 by first | assumption | omega)) (fun r153 M154 q155 => ?_)
            rcases q155 with ⟨I155a, A155a, B155a, C155a, e156, hR155a, f157, f158⟩
            rw [e156]
            replace hR155a : w_Rep w_TC fr X u l I155a A155a B155a C155a M154 := hR155a
            replace f157 : c_bz I133a A133a I155a A155a w_8 y8_3 (I133a 2503) := f157
            replace f158 : (I155a 2503) = (I133a 2503) ∧ (0 ≤ (I155a 1035) ∧ (I155a 1035) ≤ 10000) ∧ (I155a 200) = (I133a 200) ∧ (I155a 202) = (I133a 202) := f158
            obtain ⟨n159, ⟨n160, n161⟩, n162, n163⟩ := id f158
            clear f158
            have bx164 : c_bz I A I155a A155a p q (I 2503) := c_bz_trans (show c_bz I A I133a A133a p q (I 2503) from bx143) f157 (Int.le_refl _) (Int.le_refl _) (show p ≤ w_8 ∨ y8_3 ≤ w_8 by omega) (show y8_3 ≤ q ∨ y8_3 ≤ w_8 by omega) (Int.le_refl _) (show (I 2503) ≤ (I133a 2503) by omega)
            have k165 : c_Pr (A155a 27) (A155a 28) (A155a 29) (c_W A155a j) (A_8 29 y8_3) (y8_3 + 1) q := c_Pr_agr k145 (c_bz_r f157 (show q ≤ w_8 ∨ y8_3 ≤ (y8_3 + 1) ∨ y8_3 ≤ w_8 by omega))
            clear k145
            show w_W _ _ _ (112, [(9, .int (Int32.ofInt (v88))), (8, .int (Int32.ofInt (v71))), (7, .int (Int32.ofInt (v62))), (6, .int (Int32.ofInt (v53))), (0, .ref 39), (1, .int (Int32.ofInt (n))), (2, .int (Int32.ofInt (x))), (3, .int (Int32.ofInt (y8_3))), (4, .int (Int32.ofInt (y8_4))), (5, .int (Int32.ofInt (y8_5)))], [], M154) _
            refine w_adv (n := 4) (F' := (119, [(4, .int (Int32.ofInt (v88))), (3, .int (Int32.ofInt (v62))), (9, .int (Int32.ofInt (v88))), (8, .int (Int32.ofInt (v71))), (7, .int (Int32.ofInt (v62))), (6, .int (Int32.ofInt (v53))), (0, .ref 39), (1, .int (Int32.ofInt (n))), (2, .int (Int32.ofInt (x))), (5, .int (Int32.ofInt (y8_5)))], [], M154)) rfl ?_
            refine w_inc (nL := 10) (a := y8_5) rfl rfl rfl (by decide) ?_
            refine w_adv (n := 1) (F' := (8, [(5, .int (Int32.ofInt (y8_5 + 1))), (4, .int (Int32.ofInt (v88))), (3, .int (Int32.ofInt (v62))), (9, .int (Int32.ofInt (v88))), (8, .int (Int32.ofInt (v71))), (7, .int (Int32.ofInt (v62))), (6, .int (Int32.ofInt (v53))), (0, .ref 39), (1, .int (Int32.ofInt (n))), (2, .int (Int32.ofInt (x)))], [], M154)) rfl ?_
            refine w_ls (ls := [(0, .ref 39), (1, .int (Int32.ofInt (n))), (2, .int (Int32.ofInt (x))), (3, .int (Int32.ofInt (v62))), (4, .int (Int32.ofInt (v88))), (5, .int (Int32.ofInt (y8_5 + 1)))]) (show List.Nodup [0, 1, 2, 3, 4, 5] by decide) (show List.Nodup [5, 4, 3, 9, 8, 7, 6, 0, 1, 2] by decide) (List.forall_mem_cons.mpr ⟨(List.Mem.tail _ (List.Mem.tail _ (List.Mem.tail _ (List.Mem.tail _ (List.Mem.tail _ (List.Mem.tail _ (List.Mem.tail _ (List.Mem.head _)))))))), (List.forall_mem_cons.mpr ⟨(List.Mem.tail _ (List.Mem.tail _ (List.Mem.tail _ (List.Mem.tail _ (List.Mem.tail _ (List.Mem.tail _ (List.Mem.tail _ (List.Mem.tail _ (List.Mem.head _))))))))), (List.forall_mem_cons.mpr ⟨(List.Mem.tail _ (List.Mem.tail _ (List.Mem.tail _ (List.Mem.tail _ (List.Mem.tail _ (List.Mem.tail _ (List.Mem.tail _ (List.Mem.tail _ (List.Mem.tail _ (List.Mem.head _)))))))))), (List.forall_mem_cons.mpr ⟨(List.Mem.tail _ (List.Mem.tail _ (List.Mem.head _))), (List.forall_mem_cons.mpr ⟨(List.Mem.tail _ (List.Mem.head _)), (List.forall_mem_cons.mpr ⟨(List.Mem.head _), (fun _ h => by cases h)⟩)⟩)⟩)⟩)⟩)⟩) ?_
            exact ih8 ((y8_3 + 1)) (v62) (v88) (y8_5 + 1) I155a A155a B155a C155a M154 hR155a ⟨by omega, by omega⟩ ⟨by omega, by omega⟩ ⟨by omega, by omega⟩ (show c_bz I A I155a A155a p q (I 2503) by exact bx164) (show (I155a 2503) = (I 2503) ∧ (0 ≤ (I155a 1035) ∧ (I155a 1035) ≤ 10000) ∧ (I155a 200) = (I 200) ∧ (I155a 202) = (I 202) by (repeat' apply And.intro) <;> first | assumption | omega) (show c_Pr (A155a 27) (A155a 28) (A155a 29) (c_W A155a j) v62 (y8_3 + 1) q by rw [ev62]; exact k165) (show p + 2 * (y8_5 + 1) ≤ (y8_3 + 1) by omega) (show 0 ≤ (y8_5 + 1) ∧ (y8_5 + 1) ≤ 1500 by omega) (show 1500 - (y8_5 + 1) < (fu8 : Int) by omega)
  refine w_ls (ls := [(0, .ref 39), (1, .int (Int32.ofInt (n))), (2, .int (Int32.ofInt (x))), (3, .int (Int32.ofInt (n))), (4, .int (Int32.ofInt (x))), (5, .int (Int32.ofInt (0)))]) (show List.Nodup [0, 1, 2, 3, 4, 5] by decide) (show List.Nodup [5, 4, 3, 0, 1, 2] by decide) (List.forall_mem_cons.mpr ⟨(List.Mem.tail _ (List.Mem.tail _ (List.Mem.tail _ (List.Mem.head _)))), (List.forall_mem_cons.mpr ⟨(List.Mem.tail _ (List.Mem.tail _ (List.Mem.tail _ (List.Mem.tail _ (List.Mem.head _))))), (List.forall_mem_cons.mpr ⟨(List.Mem.tail _ (List.Mem.tail _ (List.Mem.tail _ (List.Mem.tail _ (List.Mem.tail _ (List.Mem.head _)))))), (List.forall_mem_cons.mpr ⟨(List.Mem.tail _ (List.Mem.tail _ (List.Mem.head _))), (List.forall_mem_cons.mpr ⟨(List.Mem.tail _ (List.Mem.head _)), (List.forall_mem_cons.mpr ⟨(List.Mem.head _), (fun _ h => by cases h)⟩)⟩)⟩)⟩)⟩)⟩) ?_
  exact lp8 ((1500 - 0 : Int).toNat + 1) (p) (n) (x) (0) I A B C M hR ⟨by omega, by omega⟩ ⟨by omega, by omega⟩ ⟨by omega, by omega⟩ (show c_bz I A I A p q (I 2503) by exact c_bz_refl) (show (I 2503) = (I 2503) ∧ (0 ≤ (I 1035) ∧ (I 1035) ≤ 10000) ∧ (I 200) = (I 200) ∧ (I 202) = (I 202) by (repeat' apply And.intro) <;> first | assumption | omega) (show c_Pr (A 27) (A 28) (A 29) (c_W A j) n p q by exact hR7) (show p + 2 * (0 : Int) ≤ p by omega) (show 0 ≤ (0 : Int) ∧ (0 : Int) ≤ 1500 by omega) (show 1500 - 0 < (((1500 - 0 : Int).toNat + 1 : Nat) : Int) by omega)
