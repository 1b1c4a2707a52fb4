def cb_apply_Q (fr : Nat → Bool) (X : Nat → Option (q_C (Nat → Int32))) (u l : Nat) (I : Nat → Int) (A : Nat → Int → Int) (B C : Nat → Nat) (M : w_M) (n : Int) (x : Int) (i : Nat) (p q : Int) : w_X → w_M → Prop := fun r M' => (∃ (I' : Nat → Int) (A' : Nat → Int → Int) (B' C' : Nat → Nat), (r = .inl none) ∧ (w_Rep w_TC fr X u l I' A' B' C' M') ∧ (c_bz I A I' A' p q (I 2503)) ∧ ((I' 2503) = (I 2503) ∧ (0 ≤ (I' 1035) ∧ (I' 1035) ≤ 10000) ∧ (I' 200) = (I 200) ∧ (I' 202) = (I 202)))
set_option maxHeartbeats 100000000 in
set_option maxRecDepth 100000 in
theorem cb_apply {L : Nat} {xs : Nat → Int32} {d : Nat} {fr : Nat → Bool} {X : Nat → Option (q_C (Nat → Int32))} {u l : Nat} {I : Nat → Int} {A : Nat → Int → Int} {B C : Nat → Nat} {M : w_M} (hB0 : c_BALL L xs d) (n : Int) (x : Int) (i : Nat) (p q : Int) (hR : w_Rep w_TC fr X u l I A B C M) (hd : 8 * i + 3 ≤ d) (r_n : w_in n) (r_x : w_in x) (hKI : 0 ≤ (I 1035) ∧ (I 1035) ≤ 10000) (hKS : c_ks A) (hNM : 36 ≤ (I 200) ∧ (I 200) ≤ 419 ∧ 0 ≤ (I 202) ∧ (I 202) ≤ 24) (hLN : ∀ i, (A 5) i ≤ 24) (hW0 : 0 ≤ (I 2503)) (hWB : (I 2503) + 7000 * (i : Int) ≤ 1000000) (hW : c_W A i n p q) (hk : (A 27) n = 10) (hpq : 0 ≤ p ∧ q ≤ 3001) : w_W (z_P L xs) d 176 (0, [(0, .ref 39), (1, .int (Int32.ofInt (n))), (2, .int (Int32.ofInt (x)))], [], M) (cb_apply_Q fr X u l I A B C M n x i p q) := by
  obtain ⟨ra_n, rb_n⟩ := r_n
  obtain ⟨ra_x, rb_x⟩ := r_x
  obtain ⟨d, rfl⟩ : ∃ d0, d = d0 + 1 := ⟨d - 1, by omega⟩
  obtain ⟨nb1, nb2⟩ := c_W_in hW
  obtain ⟨j, hj⟩ := c_W_succ hW
  have hW1 : c_W A (j + 1) n p q := by rw [← hj]; exact hW
  have hC : c_Ch (A 31) (c_P0 A j) (A 28 n) p n := hW1.2.2.k10 hk
  refine w_adv (n := 1) (F' := (1, [(0, .ref 39), (1, .int (Int32.ofInt (n))), (2, .int (Int32.ofInt (x)))], [.ref 39], M)) rfl ?_
  refine w_gf (v := .ref 26) hR rfl rfl rfl rfl ?_
  refine w_adv (n := 1) (F' := (5, [(0, .ref 39), (1, .int (Int32.ofInt (n))), (2, .int (Int32.ofInt (x)))], [.int (Int32.ofInt (n)), .ref 26], M)) rfl ?_
  refine w_call (cm := 145) (as := [(0, .ref 26), (1, .int (Int32.ofInt (n)))]) (rest := []) (o := some (8, 26)) rfl (w_fitR hR rfl) (c_Ta (n) hR (show 1 ≤ d by omega) ⟨by omega, by omega⟩) (fun r1 M2 q3 => ?_)
  rcases q3 with ⟨v4, e5, ⟨r6, r7⟩, e8, f9⟩
  rw [e5, e8]
  replace f9 : c_rd (A 28) n v4 := f9
  have ev4 : v4 = (A 28 n) := (c_rd_eq f9 (by omega) (by omega)).trans (congrFun (c_bz_ke (show c_bz I A I A p q (I 2503) from c_bz_refl)).2.1 _)
  show w_W _ _ _ (8, [(0, .ref 39), (1, .int (Int32.ofInt (n))), (2, .int (Int32.ofInt (x)))], [.int (Int32.ofInt (v4))], M) _
  refine w_adv (n := 5) (F' := (15, [(5, .int (Int32.ofInt (0))), (4, .int (Int32.ofInt (v4))), (3, .int (Int32.ofInt (v4))), (0, .ref 39), (1, .int (Int32.ofInt (n))), (2, .int (Int32.ofInt (x)))], [], M)) rfl ?_
  have lp15 : ∀ fu15 : Nat, ∀ (w_15 : Int) (y15_4 : Int) (y15_5 : Int) (I_15 : Nat → Int) (A_15 : Nat → Int → Int) (B_15 C_15 : Nat → Nat) (M_15 : w_M) (hR_15 : w_Rep w_TC fr X u l I_15 A_15 B_15 C_15 M_15), w_in y15_4 → w_in y15_5 → c_bz I A I_15 A_15 p q (I 2503) → (I_15 2503) = (I 2503) ∧ (0 ≤ (I_15 1035) ∧ (I_15 1035) ≤ 10000) ∧ (I_15 200) = (I 200) ∧ (I_15 202) = (I 202) → c_Ch (A_15 31) (c_P0 A_15 j) y15_4 w_15 n → p ≤ w_15 → 0 ≤ y15_5 ∧ y15_5 ≤ 1500 → 1500 - y15_5 < (fu15 : Int) → w_W (z_P L xs) (d + 1) 176 (15, [(0, .ref 39), (1, .int (Int32.ofInt (n))), (2, .int (Int32.ofInt (x))), (3, .int (Int32.ofInt (v4))), (4, .int (Int32.ofInt (y15_4))), (5, .int (Int32.ofInt (y15_5)))], [], M_15) (cb_apply_Q fr X u l I A B C M n x i p q) := by
    intro fu15
    induction fu15 with
    | zero =>
      intro w_15 y15_4 y15_5 I_15 A_15 B_15 C_15 M_15 hR_15 ⟨ra_y15_4, rb_y15_4⟩ ⟨ra_y15_5, rb_y15_5⟩ hi15_0 hi15_1 hi15_2 hi15_3 hi15_4 hn15
      exfalso
      omega
    | succ fu15 ih15 =>
      intro w_15 y15_4 y15_5 I_15 A_15 B_15 C_15 M_15 hR_15 ⟨ra_y15_4, rb_y15_4⟩ ⟨ra_y15_5, rb_y15_5⟩ hi15_0 hi15_1 hi15_2 hi15_3 hi15_4 hn15
      have jn53 : w_W (z_P L xs) (d + 1) 176 (53, [(0, .ref 39), (1, .int (Int32.ofInt (n))), (2, .int (Int32.ofInt (x))), (3, .int (Int32.ofInt (v4))), (4, .int (Int32.ofInt (y15_4))), (5, .int (Int32.ofInt (y15_5)))], [], M_15) (cb_apply_Q fr X u l I A B C M n x i p q) := by
        skip
        refine w_adv (n := 3) (F' := (57, [(0, .ref 39), (1, .int (Int32.ofInt (n))), (2, .int (Int32.ofInt (x))), (3, .int (Int32.ofInt (v4))), (4, .int (Int32.ofInt (y15_4))), (5, .int (Int32.ofInt (y15_5)))], [.ref 39, .int (Int32.ofInt (13)), .ref 39], M_15)) rfl ?_
        refine w_gf (v := .ref 26) hR_15 rfl rfl rfl rfl ?_
        refine w_adv (n := 1) (F' := (61, [(0, .ref 39), (1, .int (Int32.ofInt (n))), (2, .int (Int32.ofInt (x))), (3, .int (Int32.ofInt (v4))), (4, .int (Int32.ofInt (y15_4))), (5, .int (Int32.ofInt (y15_5)))], [.int (Int32.ofInt (v4)), .ref 26, .int (Int32.ofInt (13)), .ref 39], M_15)) rfl ?_
        refine w_call (cm := 162) (as := [(0, .ref 26), (1, .int (Int32.ofInt (v4)))]) (rest := [.int (Int32.ofInt (13)), .ref 39]) (o := some (8, 26)) rfl (w_fitR hR_15 rfl) (c_Tree_variable (v4) hR_15 (show 2 ≤ d by omega) ⟨by omega, by omega⟩) (fun r10 M11 q12 => ?_)
        rcases q12 with ⟨v13, e14, ⟨r15, r16⟩, e17⟩
        rw [e14, e17]
        show w_W _ _ _ (64, [(0, .ref 39), (1, .int (Int32.ofInt (n))), (2, .int (Int32.ofInt (x))), (3, .int (Int32.ofInt (v4))), (4, .int (Int32.ofInt (y15_4))), (5, .int (Int32.ofInt (y15_5)))], [.int (Int32.ofInt (v13)), .int (Int32.ofInt (13)), .ref 39], M_15) _
        refine w_adv (n := 2) (F' := (66, [(0, .ref 39), (1, .int (Int32.ofInt (n))), (2, .int (Int32.ofInt (x))), (3, .int (Int32.ofInt (v4))), (4, .int (Int32.ofInt (y15_4))), (5, .int (Int32.ofInt (y15_5)))], [.int (Int32.ofInt ((-1))), .int (Int32.ofInt ((-1))), .int (Int32.ofInt (v13)), .int (Int32.ofInt (13)), .ref 39], M_15)) rfl ?_
        refine w_call (cm := 148) (as := [(0, .ref 39), (1, .int (Int32.ofInt (13))), (2, .int (Int32.ofInt (v13))), (3, .int (Int32.ofInt ((-1)))), (4, .int (Int32.ofInt ((-1))))]) (rest := []) (o := some (1, 39)) rfl (w_fitR hR_15 rfl) (c_emit (13) (v13) ((-1)) ((-1)) hR_15 (show 4 ≤ d by omega) ⟨by omega, by omega⟩ ⟨by omega, by omega⟩ ⟨by omega, by omega⟩ ⟨by omega, by omega⟩ (show 0 ≤ (I_15 1035) ∧ (I_15 1035) ≤ 10000 by (repeat' apply And.intro) <;> first | assumption | omega) (show 0 ≤ (I_15 2503) by omega)) (fun r18 M19 q20 => ?_)
        rcases q20 with ⟨I20a, A20a, B20a, C20a, e21, hR20a, f22, f23⟩
        rw [e21]
        replace hR20a : w_Rep w_TC fr X u l I20a A20a B20a C20a M19 := hR20a
        replace f22 : c_bz I_15 A_15 I20a A20a 0 0 (I_15 2503) := f22
        replace f23 : (I20a 2503) = (I_15 2503) ∧ (0 ≤ (I20a 1035) ∧ (I20a 1035) ≤ 10000) ∧ (I20a 200) = (I_15 200) ∧ (I20a 202) = (I_15 202) := f23
        obtain ⟨n24, ⟨n25, n26⟩, n27, n28⟩ := id f23
        clear f23
        have bx29 : c_bz I A I20a A20a p q (I 2503) := c_bz_trans (show c_bz I A I_15 A_15 p q (I 2503) from hi15_0) f22 (Int.le_refl _) (Int.le_refl _) (show p ≤ 0 ∨ 0 ≤ 0 by omega) (show 0 ≤ q ∨ 0 ≤ 0 by omega) (Int.le_refl _) (show (I 2503) ≤ (I_15 2503) by omega)
        have k30 : c_Ch (A20a 31) (c_P0 A20a j) y15_4 w_15 n := c_Ch_agr c_P0_fam hi15_2 (c_bz_r f22 (show n ≤ 0 ∨ 0 ≤ w_15 ∨ 0 ≤ 0 by omega))
        clear hi15_2
        show w_W _ _ _ (69, [(0, .ref 39), (1, .int (Int32.ofInt (n))), (2, .int (Int32.ofInt (x))), (3, .int (Int32.ofInt (v4))), (4, .int (Int32.ofInt (y15_4))), (5, .int (Int32.ofInt (y15_5)))], [], M19) _
        refine w_adv (n := 1) (F' := (70, [(0, .ref 39), (1, .int (Int32.ofInt (n))), (2, .int (Int32.ofInt (x))), (3, .int (Int32.ofInt (v4))), (4, .int (Int32.ofInt (y15_4))), (5, .int (Int32.ofInt (y15_5)))], [.ref 39], M19)) rfl ?_
        refine w_gf (v := .ref 26) hR20a rfl rfl rfl rfl ?_
        refine w_adv (n := 1) (F' := (74, [(0, .ref 39), (1, .int (Int32.ofInt (n))), (2, .int (Int32.ofInt (x))), (3, .int (Int32.ofInt (v4))), (4, .int (Int32.ofInt (y15_4))), (5, .int (Int32.ofInt (y15_5)))], [.int (Int32.ofInt (v4)), .ref 26], M19)) rfl ?_
        refine w_call (cm := 161) (as := [(0, .ref 26), (1, .int (Int32.ofInt (v4)))]) (rest := []) (o := some (8, 26)) rfl (w_fitR hR20a rfl) (c_Tnext (v4) hR20a (show 1 ≤ d by omega) ⟨by omega, by omega⟩) (fun r31 M32 q33 => ?_)
        rcases q33 with ⟨v34, e35, ⟨r36, r37⟩, e38, f39⟩
        rw [e35, e38]
        replace f39 : c_rd (A20a 31) v4 v34 := f39
        show w_W _ _ _ (77, [(0, .ref 39), (1, .int (Int32.ofInt (n))), (2, .int (Int32.ofInt (x))), (3, .int (Int32.ofInt (v4))), (4, .int (Int32.ofInt (y15_4))), (5, .int (Int32.ofInt (y15_5)))], [.int (Int32.ofInt (v34))], M19) _
        refine w_adv (n := 3) (F' := (82, [(5, .int (Int32.ofInt (0))), (4, .int (Int32.ofInt (v34))), (0, .ref 39), (1, .int (Int32.ofInt (n))), (2, .int (Int32.ofInt (x))), (3, .int (Int32.ofInt (v4)))], [], M19)) rfl ?_
        have lp82 : ∀ fu82 : Nat, ∀ (y82_4 : Int) (y82_5 : Int) (I_82 : Nat → Int) (A_82 : Nat → Int → Int) (B_82 C_82 : Nat → Nat) (M_82 : w_M) (hR_82 : w_Rep w_TC fr X u l I_82 A_82 B_82 C_82 M_82), w_in y82_4 → w_in y82_5 → c_bz I A I_82 A_82 p q (I 2503) → (I_82 2503) = (I 2503) ∧ (0 ≤ (I_82 1035) ∧ (I_82 1035) ≤ 10000) ∧ (I_82 200) = (I 200) ∧ (I_82 202) = (I 202) → 0 ≤ y82_5 ∧ y82_5 ≤ 1500 → 1500 - y82_5 < (fu82 : Int) → w_W (z_P L xs) (d + 1) 176 (82, [(0, .ref 39), (1, .int (Int32.ofInt (n))), (2, .int (Int32.ofInt (x))), (3, .int (Int32.ofInt (v4))), (4, .int (Int32.ofInt (y82_4))), (5, .int (Int32.ofInt (y82_5)))], [], M_82) (cb_apply_Q fr X u l I A B C M n x i p q) := by
          intro fu82
          induction fu82 with
          | zero =>
            intro y82_4 y82_5 I_82 A_82 B_82 C_82 M_82 hR_82 ⟨ra_y82_4, rb_y82_4⟩ ⟨ra_y82_5, rb_y82_5⟩ hi82_0 hi82_1 hi82_2 hn82
            exfalso
            omega
          | succ fu82 ih82 =>
            intro y82_4 y82_5 I_82 A_82 B_82 C_82 M_82 hR_82 ⟨ra_y82_4, rb_y82_4⟩ ⟨ra_y82_5, rb_y82_5⟩ hi82_0 hi82_1 hi82_2 hn82
            have jn129 : w_W (z_P L xs) (d + 1) 176 (129, [(0, .ref 39), (1, .int (Int32.ofInt (n))), (2, .int (Int32.ofInt (x))), (3, .int (Int32.ofInt (v4))), (4, .int (Int32.ofInt (y82_4))), (5, .int (Int32.ofInt (y82_5)))], [], M_82) (cb_apply_Q fr X u l I A B C M n x i p q) := by
              skip
              refine w_adv (n := 2) (F' := (131, [(0, .ref 39), (1, .int (Int32.ofInt (n))), (2, .int (Int32.ofInt (x))), (3, .int (Int32.ofInt (v4))), (4, .int (Int32.ofInt (y82_4))), (5, .int (Int32.ofInt (y82_5)))], [.int (Int32.ofInt ((-1))), .int (Int32.ofInt (x))], M_82)) rfl ?_
              refine w_br2 (a := x) (b := (-1)) rfl rfl ⟨by omega, by omega⟩ ⟨by omega, by omega⟩ (fun h40 => ?_) (fun h40 => ?_)
              · have h40 : x = (-1) := h40
                show w_W _ _ _ (142, [(0, .ref 39), (1, .int (Int32.ofInt (n))), (2, .int (Int32.ofInt (x))), (3, .int (Int32.ofInt (v4))), (4, .int (Int32.ofInt (y82_4))), (5, .int (Int32.ofInt (y82_5)))], [], M_82) _
                refine w_fin (r := .inl none) (M' := M_82) rfl ?_
                exact ⟨I_82, A_82, B_82, C_82, rfl, hR_82, (show c_bz I A I_82 A_82 p q (I 2503) by exact hi82_0), (show (I_82 2503) = (I 2503) ∧ (0 ≤ (I_82 1035) ∧ (I_82 1035) ≤ 10000) ∧ (I_82 200) = (I 200) ∧ (I_82 202) = (I 202) by (repeat' apply And.intro) <;> first | assumption | omega)⟩
              · have h40 : ¬ (x = (-1)) := h40
                show w_W _ _ _ (134, [(0, .ref 39), (1, .int (Int32.ofInt (n))), (2, .int (Int32.ofInt (x))), (3, .int (Int32.ofInt (v4))), (4, .int (Int32.ofInt (y82_4))), (5, .int (Int32.ofInt (y82_5)))], [], M_82) _
                refine w_adv (n := 1) (F' := (135, [(0, .ref 39), (1, .int (Int32.ofInt (n))), (2, .int (Int32.ofInt (x))), (3, .int (Int32.ofInt (v4))), (4, .int (Int32.ofInt (y82_4))), (5, .int (Int32.ofInt (y82_5)))], [.ref 39], M_82)) rfl ?_
                refine w_gf (v := .ref 16) hR_82 rfl rfl rfl rfl ?_
                refine w_adv (n := 1) (F' := (139, [(0, .ref 39), (1, .int (Int32.ofInt (n))), (2, .int (Int32.ofInt (x))), (3, .int (Int32.ofInt (v4))), (4, .int (Int32.ofInt (y82_4))), (5, .int (Int32.ofInt (y82_5)))], [.int (Int32.ofInt (x)), .ref 16], M_82)) rfl ?_
                refine w_call (cm := 164) (as := [(0, .ref 16), (1, .int (Int32.ofInt (x)))]) (rest := []) (o := some (2, 16)) rfl (w_fitR hR_82 rfl) (c_kad (x) hR_82 (show 1 ≤ d by omega) ⟨by omega, by omega⟩ (show 0 ≤ (I_82 1035) ∧ (I_82 1035) ≤ 10000 by (repeat' apply And.intro) <;> first | assumption | omega) (show 0 ≤ (I_82 2503) by omega)) (fun r41 M42 q43 => ?_)
                rcases q43 with ⟨I43a, A43a, B43a, C43a, e44, hR43a, f45, f46, f47⟩
                rw [e44]
                replace hR43a : w_Rep w_TC fr X u l I43a A43a B43a C43a M42 := hR43a
                replace f45 : c_bz I_82 A_82 I43a A43a 0 0 (I_82 2503) := f45
                replace f46 : (I43a 2503) = (I_82 2503) ∧ (0 ≤ (I43a 1035) ∧ (I43a 1035) ≤ 10000) ∧ (I43a 200) = (I_82 200) ∧ (I43a 202) = (I_82 202) := f46
                obtain ⟨n48, ⟨n49, n50⟩, n51, n52⟩ := id f46
                clear f46
                replace f47 : (I43a 2502) = (I_82 2502) := f47
                have bx53 : c_bz I A I43a A43a p q (I 2503) := c_bz_trans (show c_bz I A I_82 A_82 p q (I 2503) from hi82_0) f45 (Int.le_refl _) (Int.le_refl _) (show p ≤ 0 ∨ 0 ≤ 0 by omega) (show 0 ≤ q ∨ 0 ≤ 0 by omega) (Int.le_refl _) (show (I 2503) ≤ (I_82 2503) by omega)
                show w_W _ _ _ (142, [(0, .ref 39), (1, .int (Int32.ofInt (n))), (2, .int (Int32.ofInt (x))), (3, .int (Int32.ofInt (v4))), (4, .int (Int32.ofInt (y82_4))), (5, .int (Int32.ofInt (y82_5)))], [], M42) _
                refine w_fin (r := .inl none) (M' := M42) rfl ?_
                exact ⟨I43a, A43a, B43a, C43a, rfl, hR43a, (show c_bz I A I43a A43a p q (I 2503) by exact bx53), (show (I43a 2503) = (I 2503) ∧ (0 ≤ (I43a 1035) ∧ (I43a 1035) ≤ 10000) ∧ (I43a 200) = (I 200) ∧ (I43a 202) = (I 202) by (repeat' apply And.intro) <;> first | assumption | omega)⟩
            refine w_adv (n := 2) (F' := (87, [(0, .ref 39), (1, .int (Int32.ofInt (n))), (2, .int (Int32.ofInt (x))), (3, .int (Int32.ofInt (v4))), (4, .int (Int32.ofInt (y82_4))), (5, .int (Int32.ofInt (y82_5)))], [.int (Int32.ofInt (1500)), .int (Int32.ofInt (y82_5))], M_82)) rfl ?_
            refine w_br2 (a := y82_5) (b := 1500) rfl rfl ⟨by omega, by omega⟩ ⟨by omega, by omega⟩ (fun h54 => ?_) (fun h54 => ?_)
            · have h54 : y82_5 ≥ 1500 := h54
              show w_W _ _ _ (129, [(0, .ref 39), (1, .int (Int32.ofInt (n))), (2, .int (Int32.ofInt (x))), (3, .int (Int32.ofInt (v4))), (4, .int (Int32.ofInt (y82_4))), (5, .int (Int32.ofInt (y82_5)))], [], M_82) _
              exact jn129   
            · have h54 : ¬ (y82_5 ≥ 1500) := h54
              show w_W _ _ _ (90, [(0, .ref 39), (1, .int (Int32.ofInt (n))), (2, .int (Int32.ofInt (x))), (3, .int (Int32.ofInt (v4))), (4, .int (Int32.ofInt (y82_4))), (5, .int (Int32.ofInt (y82_5)))], [], M_82) _
              refine w_adv (n := 2) (F' := (93, [(0, .ref 39), (1, .int (Int32.ofInt (n))), (2, .int (Int32.ofInt (x))), (3, .int (Int32.ofInt (v4))), (4, .int (Int32.ofInt (y82_4))), (5, .int (Int32.ofInt (y82_5)))], [.int (Int32.ofInt ((-1))), .int (Int32.ofInt (y82_4))], M_82)) rfl ?_
              refine w_br2 (a := y82_4) (b := (-1)) rfl rfl ⟨by omega, by omega⟩ ⟨by omega, by omega⟩ (fun h55 => ?_) (fun h55 => ?_)
              · have h55 : y82_4 = (-1) := h55
                show w_W _ _ _ (129, [(0, .ref 39), (1, .int (Int32.ofInt (n))), (2, .int (Int32.ofInt (x))), (3, .int (Int32.ofInt (v4))), (4, .int (Int32.ofInt (y82_4))), (5, .int (Int32.ofInt (y82_5)))], [], M_82) _
                exact jn129   
              · have h55 : ¬ (y82_4 = (-1)) := h55
                show w_W _ _ _ (96, [(0, .ref 39), (1, .int (Int32.ofInt (n))), (2, .int (Int32.ofInt (x))), (3, .int (Int32.ofInt (v4))), (4, .int (Int32.ofInt (y82_4))), (5, .int (Int32.ofInt (y82_5)))], [], M_82) _
                refine w_adv (n := 1) (F' := (97, [(0, .ref 39), (1, .int (Int32.ofInt (n))), (2, .int (Int32.ofInt (x))), (3, .int (Int32.ofInt (v4))), (4, .int (Int32.ofInt (y82_4))), (5, .int (Int32.ofInt (y82_5)))], [.ref 39], M_82)) rfl ?_
                refine w_gf (v := .ref 16) hR_82 rfl rfl rfl rfl ?_
                refine w_adv (n := 1) (F' := (101, [(0, .ref 39), (1, .int (Int32.ofInt (n))), (2, .int (Int32.ofInt (x))), (3, .int (Int32.ofInt (v4))), (4, .int (Int32.ofInt (y82_4))), (5, .int (Int32.ofInt (y82_5)))], [.ref 39, .ref 16], M_82)) rfl ?_
                refine w_gf (v := .ref 26) hR_82 rfl rfl rfl rfl ?_
                refine w_adv (n := 1) (F' := (106, [(0, .ref 39), (1, .int (Int32.ofInt (n))), (2, .int (Int32.ofInt (x))), (3, .int (Int32.ofInt (v4))), (4, .int (Int32.ofInt (y82_4))), (5, .int (Int32.ofInt (y82_5)))], [.int (Int32.ofInt (y82_4)), .ref 26, .ref 16], M_82)) rfl ?_
                refine w_call (cm := 162) (as := [(0, .ref 26), (1, .int (Int32.ofInt (y82_4)))]) (rest := [.ref 16]) (o := some (8, 26)) rfl (w_fitR hR_82 rfl) (c_Tree_variable (y82_4) hR_82 (show 2 ≤ d by omega) ⟨by omega, by omega⟩) (fun r56 M57 q58 => ?_)
                rcases q58 with ⟨v59, e60, ⟨r61, r62⟩, e63⟩
                rw [e60, e63]
                show w_W _ _ _ (109, [(0, .ref 39), (1, .int (Int32.ofInt (n))), (2, .int (Int32.ofInt (x))), (3, .int (Int32.ofInt (v4))), (4, .int (Int32.ofInt (y82_4))), (5, .int (Int32.ofInt (y82_5)))], [.int (Int32.ofInt (v59)), .ref 16], M_82) _
                refine w_call (cm := 164) (as := [(0, .ref 16), (1, .int (Int32.ofInt (v59)))]) (rest := []) (o := some (2, 16)) rfl (w_fitR hR_82 rfl) (c_kad (v59) hR_82 (show 1 ≤ d by omega) ⟨by omega, by omega⟩ (show 0 ≤ (I_82 1035) ∧ (I_82 1035) ≤ 10000 by (repeat' apply And.intro) <;> first | assumption | omega) (show 0 ≤ (I_82 2503) by omega)) (fun r64 M65 q66 => ?_)
                rcases q66 with ⟨I66a, A66a, B66a, C66a, e67, hR66a, f68, f69, f70⟩
                rw [e67]
                replace hR66a : w_Rep w_TC fr X u l I66a A66a B66a C66a M65 := hR66a
                replace f68 : c_bz I_82 A_82 I66a A66a 0 0 (I_82 2503) := f68
                replace f69 : (I66a 2503) = (I_82 2503) ∧ (0 ≤ (I66a 1035) ∧ (I66a 1035) ≤ 10000) ∧ (I66a 200) = (I_82 200) ∧ (I66a 202) = (I_82 202) := f69
                obtain ⟨n71, ⟨n72, n73⟩, n74, n75⟩ := id f69
                clear f69
                replace f70 : (I66a 2502) = (I_82 2502) := f70
                have bx76 : c_bz I A I66a A66a p q (I 2503) := c_bz_trans (show c_bz I A I_82 A_82 p q (I 2503) from hi82_0) f68 (Int.le_refl _) (Int.le_refl _) (show p ≤ 0 ∨ 0 ≤ 0 by omega) (show 0 ≤ q ∨ 0 ≤ 0 by omega) (Int.le_refl _) (show (I 2503) ≤ (I_82 2503) by omega)
                show w_W _ _ _ (112, [(0, .ref 39), (1, .int (Int32.ofInt (n))), (2, .int (Int32.ofInt (x))), (3, .int (Int32.ofInt (v4))), (4, .int (Int32.ofInt (y82_4))), (5, .int (Int32.ofInt (y82_5)))], [], M65) _
                refine w_adv (n := 1) (F' := (113, [(0, .ref 39), (1, .int (Int32.ofInt (n))), (2, .int (Int32.ofInt (x))), (3, .int (Int32.ofInt (v4))), (4, .int (Int32.ofInt (y82_4))), (5, .int (Int32.ofInt (y82_5)))], [.ref 39], M65)) rfl ?_
                refine w_gf (v := .ref 26) hR66a rfl rfl rfl rfl ?_
                refine w_adv (n := 1) (F' := (118, [(0, .ref 39), (1, .int (Int32.ofInt (n))), (2, .int (Int32.ofInt (x))), (3, .int (Int32.ofInt (v4))), (4, .int (Int32.ofInt (y82_4))), (5, .int (Int32.ofInt (y82_5)))], [.int (Int32.ofInt (y82_4)), .ref 26], M65)) rfl ?_
                refine w_call (cm := 161) (as := [(0, .ref 26), (1, .int (Int32.ofInt (y82_4)))]) (rest := []) (o := some (8, 26)) rfl (w_fitR hR66a rfl) (c_Tnext (y82_4) hR66a (show 1 ≤ d by omega) ⟨by omega, by omega⟩) (fun r77 M78 q79 => ?_)
                rcases q79 with ⟨v80, e81, ⟨r82, r83⟩, e84, f85⟩
                rw [e81, e84]
                replace f85 : c_rd (A66a 31) y82_4 v80 := f85
                show w_W _ _ _ (121, [(0, .ref 39), (1, .int (Int32.ofInt (n))), (2, .int (Int32.ofInt (x))), (3, .int (Int32.ofInt (v4))), (4, .int (Int32.ofInt (y82_4))), (5, .int (Int32.ofInt (y82_5)))], [.int (Int32.ofInt (v80))], M65) _
                refine w_adv (n := 1) (F' := (123, [(4, .int (Int32.ofInt (v80))), (0, .ref 39), (1, .int (Int32.ofInt (n))), (2, .int (Int32.ofInt (x))), (3, .int (Int32.ofInt (v4))), (5, .int (Int32.ofInt (y82_5)))], [], M65)) rfl ?_
                refine w_inc (nL := 6) (a := y82_5) rfl rfl rfl (by decide) ?_
                refine w_adv (n := 1) (F' := (82, [(5, .int (Int32.ofInt (y82_5 + 1))), (4, .int (Int32.ofInt (v80))), (0, .ref 39), (1, .int (Int32.ofInt (n))), (2, .int (Int32.ofInt (x))), (3, .int (Int32.ofInt (v4)))], [], M65)) rfl ?_
                refine w_ls (ls := [(0, .ref 39), (1, .int (Int32.ofInt (n))), (2, .int (Int32.ofInt (x))), (3, .int (Int32.ofInt (v4))), (4, .int (Int32.ofInt (v80))), (5, .int (Int32.ofInt (y82_5 + 1)))]) (show List.Nodup [0, 1, 2, 3, 4, 5] by decide) (show List.Nodup [5, 4, 0, 1, 2, 3] by decide) (List.forall_mem_cons.mpr ⟨(List.Mem.tail _ (List.Mem.tail _ (List.Mem.head _))), (List.forall_mem_cons.mpr ⟨(List.Mem.tail _ (List.Mem.tail _ (List.Mem.tail _ (List.Mem.head _)))), (List.forall_mem_cons.mpr ⟨(List.Mem.tail _ (List.Mem.tail _ (List.Mem.tail _ (List.Mem.tail _ (List.Mem.head _))))), (List.forall_mem_cons.mpr ⟨(List.Mem.tail _ (List.Mem.tail _ (List.Mem.tail _ (List.Mem.tail _ (List.Mem.tail _ (List.Mem.head _)))))), (List.forall_mem_cons.mpr ⟨(List.Mem.tail _ (List.Mem.head _)), (List.forall_mem_cons.mpr ⟨(List.Mem.head _), (fun _ h => by cases h)⟩)⟩)⟩)⟩)⟩)⟩) ?_
                exact ih82  (v80) (y82_5 + 1) I66a A66a B66a C66a M65 hR66a ⟨by omega, by omega⟩ ⟨by omega, by omega⟩ (show c_bz I A I66a A66a p q (I 2503) by exact bx76) (show (I66a 2503) = (I 2503) ∧ (0 ≤ (I66a 1035) ∧ (I66a 1035) ≤ 10000) ∧ (I66a 200) = (I 200) ∧ (I66a 202) = (I 202) by (repeat' apply And.intro) <;> first | assumption | omega) (show 0 ≤ (y82_5 + 1) ∧ (y82_5 + 1) ≤ 1500 by omega) (show 1500 - (y82_5 + 1) < (fu82 : Int) by omega)
        refine w_ls (ls := [(0, .ref 39), (1, .int (Int32.ofInt (n))), (2, .int (Int32.ofInt (x))), (3, .int (Int32.ofInt (v4))), (4, .int (Int32.ofInt (v34))), (5, .int (Int32.ofInt (0)))]) (show List.Nodup [0, 1, 2, 3, 4, 5] by decide) (show List.Nodup [5, 4, 0, 1, 2, 3] by decide) (List.forall_mem_cons.mpr ⟨(List.Mem.tail _ (List.Mem.tail _ (List.Mem.head _))), (List.forall_mem_cons.mpr ⟨(List.Mem.tail _ (List.Mem.tail _ (List.Mem.tail _ (List.Mem.head _)))), (List.forall_mem_cons.mpr ⟨(List.Mem.tail _ (List.Mem.tail _ (List.Mem.tail _ (List.Mem.tail _ (List.Mem.head _))))), (List.forall_mem_cons.mpr ⟨(List.Mem.tail _ (List.Mem.tail _ (List.Mem.tail _ (List.Mem.tail _ (List.Mem.tail _ (List.Mem.head _)))))), (List.forall_mem_cons.mpr ⟨(List.Mem.tail _ (List.Mem.head _)), (List.forall_mem_cons.mpr ⟨(List.Mem.head _), (fun _ h => by cases h)⟩)⟩)⟩)⟩)⟩)⟩) ?_
        exact lp82 ((1500 - 0 : Int).toNat + 1)  (v34) (0) I20a A20a B20a C20a M19 hR20a ⟨by omega, by omega⟩ ⟨by omega, by omega⟩ (show c_bz I A I20a A20a p q (I 2503) by exact bx29) (show (I20a 2503) = (I 2503) ∧ (0 ≤ (I20a 1035) ∧ (I20a 1035) ≤ 10000) ∧ (I20a 200) = (I 200) ∧ (I20a 202) = (I 202) by (repeat' apply And.intro) <;> first | assumption | omega) (show 0 ≤ (0 : Int) ∧ (0 : Int) ≤ 1500 by omega) (show 1500 - 0 < (((1500 - 0 : Int).toNat + 1 : Nat) : Int) by omega)
      refine w_adv (n := 2) (F' := (20, [(0, .ref 39), (1, .int (Int32.ofInt (n))), (2, .int (Int32.ofInt (x))), (3, .int (Int32.ofInt (v4))), (4, .int (Int32.ofInt (y15_4))), (5, .int (Int32.ofInt (y15_5)))], [.int (Int32.ofInt (1500)), .int (Int32.ofInt (y15_5))], M_15)) rfl ?_
      refine w_br2 (a := y15_5) (b := 1500) rfl rfl ⟨by omega, by omega⟩ ⟨by omega, by omega⟩ (fun h86 => ?_) (fun h86 => ?_)
      · have h86 : y15_5 ≥ 1500 := h86
        show w_W _ _ _ (53, [(0, .ref 39), (1, .int (Int32.ofInt (n))), (2, .int (Int32.ofInt (x))), (3, .int (Int32.ofInt (v4))), (4, .int (Int32.ofInt (y15_4))), (5, .int (Int32.ofInt (y15_5)))], [], M_15) _
        exact jn53   
      · have h86 : ¬ (y15_5 ≥ 1500) := h86
        show w_W _ _ _ (23, [(0, .ref 39), (1, .int (Int32.ofInt (n))), (2, .int (Int32.ofInt (x))), (3, .int (Int32.ofInt (v4))), (4, .int (Int32.ofInt (y15_4))), (5, .int (Int32.ofInt (y15_5)))], [], M_15) _
        refine w_adv (n := 2) (F' := (26, [(0, .ref 39), (1, .int (Int32.ofInt (n))), (2, .int (Int32.ofInt (x))), (3, .int (Int32.ofInt (v4))), (4, .int (Int32.ofInt (y15_4))), (5, .int (Int32.ofInt (y15_5)))], [.int (Int32.ofInt ((-1))), .int (Int32.ofInt (y15_4))], M_15)) rfl ?_
        refine w_br2 (a := y15_4) (b := (-1)) rfl rfl ⟨by omega, by omega⟩ ⟨by omega, by omega⟩ (fun h87 => ?_) (fun h87 => ?_)
        · have h87 : y15_4 = (-1) := h87
          show w_W _ _ _ (53, [(0, .ref 39), (1, .int (Int32.ofInt (n))), (2, .int (Int32.ofInt (x))), (3, .int (Int32.ofInt (v4))), (4, .int (Int32.ofInt (y15_4))), (5, .int (Int32.ofInt (y15_5)))], [], M_15) _
          exact jn53   
        · have h87 : ¬ (y15_4 = (-1)) := h87
          show w_W _ _ _ (29, [(0, .ref 39), (1, .int (Int32.ofInt (n))), (2, .int (Int32.ofInt (x))), (3, .int (Int32.ofInt (v4))), (4, .int (Int32.ofInt (y15_4))), (5, .int (Int32.ofInt (y15_5)))], [], M_15) _
          obtain ⟨cr, cg1, cg2, cg3, cg4, cg5⟩ := c_Ch_ne hi15_2 (by omega)
          skip
          skip
          refine w_adv (n := 2) (F' := (32, [(0, .ref 39), (1, .int (Int32.ofInt (n))), (2, .int (Int32.ofInt (x))), (3, .int (Int32.ofInt (v4))), (4, .int (Int32.ofInt (y15_4))), (5, .int (Int32.ofInt (y15_5)))], [.int (Int32.ofInt (y15_4)), .ref 39], M_15)) rfl ?_
          refine w_call (cm := 177) (as := [(0, .ref 39), (1, .int (Int32.ofInt (y15_4)))]) (rest := []) (o := some (1, 39)) rfl (w_fitR hR_15 rfl) (c_asVariable (c_BALL_dn hB0) (y15_4) (j) (w_15) (cr) hR_15 (show 8 * j + 5 ≤ d by omega) ⟨by omega, by omega⟩ (show 0 ≤ (I_15 1035) ∧ (I_15 1035) ≤ 10000 by (repeat' apply And.intro) <;> first | assumption | omega) (show c_ks A_15 by exact (show c_bz I A I_15 A_15 p q (I 2503) from hi15_0).2.2.2.2 hKS) (show 36 ≤ (I_15 200) ∧ (I_15 200) ≤ 419 ∧ 0 ≤ (I_15 202) ∧ (I_15 202) ≤ 24 by (repeat' apply And.intro) <;> first | assumption | omega) (show ∀ i, (A_15 5) i ≤ 24 by rw [show (A_15 5) = (A 5) from (show c_bz I A I_15 A_15 p q (I 2503) from hi15_0).2.1 5 rfl]; exact hLN) (show 0 ≤ (I_15 2503) by omega) (show (I_15 2503) + 7000 * (j : Int) ≤ 1000000 by first | assumption | omega) (show c_W A_15 j y15_4 w_15 cr by exact cg4) (show 0 ≤ w_15 ∧ cr ≤ 3001 by first | assumption | omega)) (fun r88 M89 q90 => ?_)
          rcases q90 with ⟨v91, I90a, A90a, B90a, C90a, e92, ⟨r93, r94⟩, hR90a, f95, f96⟩
          rw [e92]
          replace hR90a : w_Rep w_TC fr X u l I90a A90a B90a C90a M89 := hR90a
          replace f95 : c_bz I_15 A_15 I90a A90a w_15 cr (I_15 2503) := f95
          replace f96 : (I90a 2503) = (I_15 2503) ∧ (0 ≤ (I90a 1035) ∧ (I90a 1035) ≤ 10000) ∧ (I90a 200) = (I_15 200) ∧ (I90a 202) = (I_15 202) := f96
          obtain ⟨n97, ⟨n98, n99⟩, n100, n101⟩ := id f96
          clear f96
          have bx102 : c_bz I A I90a A90a p q (I 2503) := c_bz_trans (show c_bz I A I_15 A_15 p q (I 2503) from hi15_0) f95 (Int.le_refl _) (Int.le_refl _) (show p ≤ w_15 ∨ cr ≤ w_15 by omega) (show cr ≤ q ∨ cr ≤ w_15 by omega) (Int.le_refl _) (show (I 2503) ≤ (I_15 2503) by omega)
          have k103 : c_Ch (A90a 31) (c_P0 A90a j) (A_15 31 y15_4) cr n := c_Ch_agr c_P0_fam cg5 (c_bz_r f95 (show n ≤ w_15 ∨ cr ≤ cr ∨ cr ≤ w_15 by omega))
          clear cg5
          show w_W _ _ _ (35, [(0, .ref 39), (1, .int (Int32.ofInt (n))), (2, .int (Int32.ofInt (x))), (3, .int (Int32.ofInt (v4))), (4, .int (Int32.ofInt (y15_4))), (5, .int (Int32.ofInt (y15_5)))], [.int (Int32.ofInt (v91))], M89) _
          refine w_adv (n := 2) (F' := (37, [(0, .ref 39), (1, .int (Int32.ofInt (n))), (2, .int (Int32.ofInt (x))), (3, .int (Int32.ofInt (v4))), (4, .int (Int32.ofInt (y15_4))), (5, .int (Int32.ofInt (y15_5)))], [.ref 39], M89)) rfl ?_
          refine w_gf (v := .ref 26) hR90a rfl rfl rfl rfl ?_
          refine w_adv (n := 1) (F' := (42, [(0, .ref 39), (1, .int (Int32.ofInt (n))), (2, .int (Int32.ofInt (x))), (3, .int (Int32.ofInt (v4))), (4, .int (Int32.ofInt (y15_4))), (5, .int (Int32.ofInt (y15_5)))], [.int (Int32.ofInt (y15_4)), .ref 26], M89)) rfl ?_
          refine w_call (cm := 161) (as := [(0, .ref 26), (1, .int (Int32.ofInt (y15_4)))]) (rest := []) (o := some (8, 26)) rfl (w_fitR hR90a rfl) (c_Tnext (y15_4) hR90a (show 1 ≤ d by omega) ⟨by omega, by omega⟩) (fun r104 M105 q106 => ?_)
          rcases q106 with ⟨v107, e108, ⟨r109, r110⟩, e111, f112⟩
          rw [e108, e111]
          replace f112 : c_rd (A90a 31) y15_4 v107 := f112
          have ev107 : v107 = (A_15 31 y15_4) := (c_rd_eq f112 (by omega) (by omega)).trans (congrFun ((c_bz_ke (show c_bz I A I90a A90a p q (I 2503) from bx102)).2.2.trans (c_bz_ke (show c_bz I A I_15 A_15 p q (I 2503) from hi15_0)).2.2.symm) _)
          show w_W _ _ _ (45, [(0, .ref 39), (1, .int (Int32.ofInt (n))), (2, .int (Int32.ofInt (x))), (3, .int (Int32.ofInt (v4))), (4, .int (Int32.ofInt (y15_4))), (5, .int (Int32.ofInt (y15_5)))], [.int (Int32.ofInt (v107))], M89) _
          refine w_adv (n := 1) (F' := (47, [(4, .int (Int32.ofInt (v107))), (0, .ref 39), (1, .int (Int32.ofInt (n))), (2, .int (Int32.ofInt (x))), (3, .int (Int32.ofInt (v4))), (5, .int (Int32.ofInt (y15_5)))], [], M89)) rfl ?_
          refine w_inc (nL := 6) (a := y15_5) rfl rfl rfl (by decide) ?_
          refine w_adv (n := 1) (F' := (15, [(5, .int (Int32.ofInt (y15_5 + 1))), (4, .int (Int32.ofInt (v107))), (0, .ref 39), (1, .int (Int32.ofInt (n))), (2, .int (Int32.ofInt (x))), (3, .int (Int32.ofInt (v4)))], [], M89)) rfl ?_
          refine w_ls (ls := [(0, .ref 39), (1, .int (Int32.ofInt (n))), (2, .int (Int32.ofInt (x))), (3, .int (Int32.ofInt (v4))), (4, .int (Int32.ofInt (v107))), (5, .int (Int32.ofInt (y15_5 + 1)))]) (show List.Nodup [0, 1, 2, 3, 4, 5] by decide) (show List.Nodup [5, 4, 0, 1, 2, 3] by decide) (List.forall_mem_cons.mpr ⟨(List.Mem.tail _ (List.Mem.tail _ (List.Mem.head _))), (List.forall_mem_cons.mpr ⟨(List.Mem.tail _ (List.Mem.tail _ (List.Mem.tail _ (List.Mem.head _)))), (List.forall_mem_cons.mpr ⟨(List.Mem.tail _ (List.Mem.tail _ (List.Mem.tail _ (List.Mem.tail _ (List.Mem.head _))))), (List.forall_mem_cons.mpr ⟨(List.Mem.tail _ (List.Mem.tail _ (List.Mem.tail _ (List.Mem.tail _ (List.Mem.tail _ (List.Mem.head _)))))), (List.forall_mem_cons.mpr ⟨(List.Mem.tail _ (List.Mem.head _)), (List.forall_mem_cons.mpr ⟨(List.Mem.head _), (fun _ h => by cases h)⟩)⟩)⟩)⟩)⟩)⟩) ?_
          exact ih15 (cr) (v107) (y15_5 + 1) I90a A90a B90a C90a M89 hR90a ⟨by omega, by omega⟩ ⟨by omega, by omega⟩ (show c_bz I A I90a A90a p q (I 2503) by exact bx102) (show (I90a 2503) = (I 2503) ∧ (0 ≤ (I90a 1035) ∧ (I90a 1035) ≤ 10000) ∧ (I90a 200) = (I 200) ∧ (I90a 202) = (I 202) by (repeat' apply And.intro) <;> first | assumption | omega) (show c_Ch (A90a 31) (c_P0 A90a j) v107 cr n by rw [ev107]; exact k103) (show p ≤ cr by omega) (show 0 ≤ (y15_5 + 1) ∧ (y15_5 + 1) ≤ 1500 by omega) (show 1500 - (y15_5 + 1) < (fu15 : Int) by omega)
  refine w_ls (ls := [(0, .ref 39), (1, .int (Int32.ofInt (n))), (2, .int (Int32.ofInt (x))), (3, .int (Int32.ofInt (v4))), (4, .int (Int32.ofInt (v4))), (5, .int (Int32.ofInt (0)))]) (show List.Nodup [0, 1, 2, 3, 4, 5] by decide) (show List.Nodup [5, 4, 3, 0, 1, 2] by decide) (List.forall_mem_cons.mpr ⟨(List.Mem.tail _ (List.Mem.tail _ (List.Mem.tail _ (List.Mem.head _)))), (List.forall_mem_cons.mpr ⟨(List.Mem.tail _ (List.Mem.tail _ (List.Mem.tail _ (List.Mem.tail _ (List.Mem.head _))))), (List.forall_mem_cons.mpr ⟨(List.Mem.tail _ (List.Mem.tail _ (List.Mem.tail _ (List.Mem.tail _ (List.Mem.tail _ (List.Mem.head _)))))), (List.forall_mem_cons.mpr ⟨(List.Mem.tail _ (List.Mem.tail _ (List.Mem.head _))), (List.forall_mem_cons.mpr ⟨(List.Mem.tail _ (List.Mem.head _)), (List.forall_mem_cons.mpr ⟨(List.Mem.head _), (fun _ h => by cases h)⟩)⟩)⟩)⟩)⟩)⟩) ?_
  exact lp15 ((1500 - 0 : Int).toNat + 1) (p) (v4) (0) I A B C M hR ⟨by omega, by omega⟩ ⟨by omega, by omega⟩ (show c_bz I A I A p q (I 2503) by exact c_bz_refl) (show (I 2503) = (I 2503) ∧ (0 ≤ (I 1035) ∧ (I 1035) ≤ 10000) ∧ (I 200) = (I 200) ∧ (I 202) = (I 202) by (repeat' apply And.intro) <;> first | assumption | omega) (show c_Ch (A 31) (c_P0 A j) v4 p n by rw [ev4]; exact hC) (show p ≤ p by omega) (show 0 ≤ (0 : Int) ∧ (0 : Int) ≤ 1500 by omega) (show 1500 - 0 < (((1500 - 0 : Int).toNat + 1 : Nat) : Int) by omega)
