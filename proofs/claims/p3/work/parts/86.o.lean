/-! BUILDER of the class: bodies. -/
/-! c_body -/
set_option maxHeartbeats 100000000 in
set_option maxRecDepth 100000 in
theorem c_body {L : Nat} {xs : Nat → Int32} {d : Nat} {fr : Nat → Bool} {X : Nat → Option (q_C (Nat → Int32))} {u l : Nat} {I : Nat → Int} {A : Nat → Int → Int} {B C : Nat → Nat} {M : w_M} (hB0 : c_BALL L xs d) (n : Int) (x : Int) (i : Nat) (p q : Int) (hR : w_Rep w_TC fr X u l I A B C M) (hd : 8 * i + 7 ≤ d) (r_n : w_in n) (r_x : w_in x) (hKI : 0 ≤ (I 1035) ∧ (I 1035) ≤ 10000) (hKS : c_ks A) (hNM : 36 ≤ (I 200) ∧ (I 200) ≤ 419 ∧ 0 ≤ (I 202) ∧ (I 202) ≤ 24) (hLN : ∀ i, (A 5) i ≤ 24) (hW0 : 0 ≤ (I 2503)) (hWB : (I 2503) + 7000 * (i : Int) ≤ 1000000) (hB : c_Bd A (c_W A i) n p q) (hpq : 0 ≤ p ∧ q ≤ 3002) : w_W (z_P L xs) d 144 (0, [(0, .ref 39), (1, .int (Int32.ofInt (n))), (2, .int (Int32.ofInt (x)))], [], M) (c_body_Q fr X u l I A B C M n x i p q) := by
  obtain ⟨ra_n, rb_n⟩ := r_n
  obtain ⟨ra_x, rb_x⟩ := r_x
  obtain ⟨d, rfl⟩ : ∃ d0, d = d0 + 1 := ⟨d - 1, by omega⟩
  obtain ⟨nb1, nb2, nb3, r, nb4, nb5, nb6⟩ := hB
  have nb4 : c_Ch (A 31) (c_P0 A i) (A 28 n) p r := nb4
  have nb7 := c_Ch_le nb4
  refine w_adv (n := 1) (F' := (1, [(0, .ref 39), (1, .int (Int32.ofInt (n))), (2, .int (Int32.ofInt (x)))], [.ref 39], M)) rfl ?_
  refine w_gf (v := .int (Int32.ofInt ((I 2504)))) hR rfl rfl rfl rfl ?_
  obtain ⟨r1, r2⟩ : -2147483648 ≤ (I 2504) ∧ (I 2504) ≤ 2147483647 := hR.ri 2504
  refine w_adv (n := 2) (F' := (6, [(3, .int (Int32.ofInt ((I 2504)))), (0, .ref 39), (1, .int (Int32.ofInt (n))), (2, .int (Int32.ofInt (x)))], [.ref 39], M)) rfl ?_
  refine w_gf (v := .int (Int32.ofInt ((I 2505)))) hR rfl rfl rfl rfl ?_
  obtain ⟨r3, r4⟩ : -2147483648 ≤ (I 2505) ∧ (I 2505) ≤ 2147483647 := hR.ri 2505
  refine w_adv (n := 3) (F' := (13, [(4, .int (Int32.ofInt ((I 2505)))), (3, .int (Int32.ofInt ((I 2504)))), (0, .ref 39), (1, .int (Int32.ofInt (n))), (2, .int (Int32.ofInt (x)))], [.int (Int32.ofInt ((-1))), .ref 39], M)) rfl ?_
  refine w_pf hR rfl rfl rfl rfl (show w_in ((-1)) from ⟨by omega, by omega⟩) (fun h => absurd h (by decide)) (fun M5 hR6 => ?_)
  replace hR6 : w_Rep w_TC fr X u l (w_up I 2504 ((-1))) A B C M5 := hR6
  refine w_adv (n := 2) (F' := (18, [(4, .int (Int32.ofInt ((I 2505)))), (3, .int (Int32.ofInt ((I 2504)))), (0, .ref 39), (1, .int (Int32.ofInt (n))), (2, .int (Int32.ofInt (x)))], [.int (Int32.ofInt ((-1))), .ref 39], M5)) rfl ?_
  refine w_pf hR6 rfl rfl rfl rfl (show w_in ((-1)) from ⟨by omega, by omega⟩) (fun h => absurd h (by decide)) (fun M7 hR8 => ?_)
  replace hR8 : w_Rep w_TC fr X u l (w_up (w_up I 2504 ((-1))) 2505 ((-1))) A B C M7 := hR8
  refine w_adv (n := 1) (F' := (22, [(4, .int (Int32.ofInt ((I 2505)))), (3, .int (Int32.ofInt ((I 2504)))), (0, .ref 39), (1, .int (Int32.ofInt (n))), (2, .int (Int32.ofInt (x)))], [.ref 39], M7)) rfl ?_
  refine w_gf (v := .ref 26) hR8 rfl rfl rfl rfl ?_
  refine w_adv (n := 1) (F' := (26, [(4, .int (Int32.ofInt ((I 2505)))), (3, .int (Int32.ofInt ((I 2504)))), (0, .ref 39), (1, .int (Int32.ofInt (n))), (2, .int (Int32.ofInt (x)))], [.int (Int32.ofInt (n)), .ref 26], M7)) rfl ?_
  refine w_call (cm := 145) (as := [(0, .ref 26), (1, .int (Int32.ofInt (n)))]) (rest := []) (o := some (8, 26)) rfl (w_fitR hR8 rfl) (c_Ta (n) hR8 (show 1 ≤ d by omega) ⟨by omega, by omega⟩) (fun r9 M10 q11 => ?_)
  rcases q11 with ⟨v12, e13, ⟨r14, r15⟩, e16, f17⟩
  rw [e13, e16]
  replace f17 : c_rd (A 28) n v12 := f17
  have ev12 : v12 = (A 28 n) := (c_rd_eq f17 (by omega) (by omega)).trans (congrFun (c_bz_ke (show c_bz I A (w_up (w_up I 2504 ((-1))) 2505 ((-1))) A p q (I 2503) from (c_bz_up (c_bz_up c_bz_refl rfl) rfl))).2.1 _)
  show w_W _ _ _ (29, [(4, .int (Int32.ofInt ((I 2505)))), (3, .int (Int32.ofInt ((I 2504)))), (0, .ref 39), (1, .int (Int32.ofInt (n))), (2, .int (Int32.ofInt (x)))], [.int (Int32.ofInt (v12))], M7) _
  refine w_adv (n := 3) (F' := (34, [(6, .int (Int32.ofInt (0))), (5, .int (Int32.ofInt (v12))), (4, .int (Int32.ofInt ((I 2505)))), (3, .int (Int32.ofInt ((I 2504)))), (0, .ref 39), (1, .int (Int32.ofInt (n))), (2, .int (Int32.ofInt (x)))], [], M7)) rfl ?_
  have lp34 : ∀ fu34 : Nat, ∀ (w_34 : Int) (y34_5 : Int) (y34_6 : Int) (I_34 : Nat → Int) (A_34 : Nat → Int → Int) (B_34 C_34 : Nat → Nat) (M_34 : w_M) (hR_34 : w_Rep w_TC fr X u l I_34 A_34 B_34 C_34 M_34), w_in y34_5 → w_in y34_6 → c_bz I A I_34 A_34 p q (I 2503) → (I_34 2503) = (I 2503) ∧ (0 ≤ (I_34 1035) ∧ (I_34 1035) ≤ 10000) ∧ (I_34 200) = (I 200) ∧ (I_34 202) = (I 202) → c_Ch (A_34 31) (c_P0 A_34 i) y34_5 w_34 r → (A 29 n) = -1 ∨ c_W A_34 i (A 29 n) r n → p ≤ w_34 → 0 ≤ y34_6 ∧ y34_6 ≤ 1500 → 1500 - y34_6 < (fu34 : Int) → w_W (z_P L xs) (d + 1) 144 (34, [(0, .ref 39), (1, .int (Int32.ofInt (n))), (2, .int (Int32.ofInt (x))), (3, .int (Int32.ofInt ((I 2504)))), (4, .int (Int32.ofInt ((I 2505)))), (5, .int (Int32.ofInt (y34_5))), (6, .int (Int32.ofInt (y34_6)))], [], M_34) (c_body_Q fr X u l I A B C M n x i p q) := by
    intro fu34
    induction fu34 with
    | zero =>
      intro w_34 y34_5 y34_6 I_34 A_34 B_34 C_34 M_34 hR_34 ⟨ra_y34_5, rb_y34_5⟩ ⟨ra_y34_6, rb_y34_6⟩ hi34_0 hi34_1 hi34_2 hi34_3 hi34_4 hi34_5 hn34
      exfalso
      omega
    | succ fu34 ih34 =>
      intro w_34 y34_5 y34_6 I_34 A_34 B_34 C_34 M_34 hR_34 ⟨ra_y34_5, rb_y34_5⟩ ⟨ra_y34_6, rb_y34_6⟩ hi34_0 hi34_1 hi34_2 hi34_3 hi34_4 hi34_5 hn34
      have jn72 : w_W (z_P L xs) (d + 1) 144 (72, [(0, .ref 39), (1, .int (Int32.ofInt (n))), (2, .int (Int32.ofInt (x))), (3, .int (Int32.ofInt ((I 2504)))), (4, .int (Int32.ofInt ((I 2505)))), (5, .int (Int32.ofInt (y34_5))), (6, .int (Int32.ofInt (y34_6)))], [], M_34) (c_body_Q fr X u l I A B C M n x i p q) := by
        skip
        refine w_adv (n := 1) (F' := (73, [(0, .ref 39), (1, .int (Int32.ofInt (n))), (2, .int (Int32.ofInt (x))), (3, .int (Int32.ofInt ((I 2504)))), (4, .int (Int32.ofInt ((I 2505)))), (5, .int (Int32.ofInt (y34_5))), (6, .int (Int32.ofInt (y34_6)))], [.ref 39], M_34)) rfl ?_
        refine w_gf (v := .ref 26) hR_34 rfl rfl rfl rfl ?_
        refine w_adv (n := 1) (F' := (77, [(0, .ref 39), (1, .int (Int32.ofInt (n))), (2, .int (Int32.ofInt (x))), (3, .int (Int32.ofInt ((I 2504)))), (4, .int (Int32.ofInt ((I 2505)))), (5, .int (Int32.ofInt (y34_5))), (6, .int (Int32.ofInt (y34_6)))], [.int (Int32.ofInt (n)), .ref 26], M_34)) rfl ?_
        refine w_call (cm := 152) (as := [(0, .ref 26), (1, .int (Int32.ofInt (n)))]) (rest := []) (o := some (8, 26)) rfl (w_fitR hR_34 rfl) (c_Tb (n) hR_34 (show 1 ≤ d by omega) ⟨by omega, by omega⟩) (fun r18 M19 q20 => ?_)
        rcases q20 with ⟨v21, e22, ⟨r23, r24⟩, e25, f26⟩
        rw [e22, e25]
        replace f26 : c_rd (A_34 29) n v21 := f26
        have ev21 : v21 = (A 29 n) := (c_rd_eq f26 (by omega) (by omega)).trans (c_bz_n (show c_bz I A I_34 A_34 p q (I 2503) from hi34_0) (show A 27 n ≠ 16 from (by omega))).1
        show w_W _ _ _ (80, [(0, .ref 39), (1, .int (Int32.ofInt (n))), (2, .int (Int32.ofInt (x))), (3, .int (Int32.ofInt ((I 2504)))), (4, .int (Int32.ofInt ((I 2505)))), (5, .int (Int32.ofInt (y34_5))), (6, .int (Int32.ofInt (y34_6)))], [.int (Int32.ofInt (v21))], M_34) _
        refine w_adv (n := 1) (F' := (81, [(0, .ref 39), (1, .int (Int32.ofInt (n))), (2, .int (Int32.ofInt (x))), (3, .int (Int32.ofInt ((I 2504)))), (4, .int (Int32.ofInt ((I 2505)))), (5, .int (Int32.ofInt (y34_5))), (6, .int (Int32.ofInt (y34_6)))], [.int (Int32.ofInt ((-1))), .int (Int32.ofInt (v21))], M_34)) rfl ?_
        refine w_br2 (a := v21) (b := (-1)) rfl rfl ⟨by omega, by omega⟩ ⟨by omega, by omega⟩ (fun h27 => ?_) (fun h27 => ?_)
        · have h27 : v21 = (-1) := h27
          show w_W _ _ _ (97, [(0, .ref 39), (1, .int (Int32.ofInt (n))), (2, .int (Int32.ofInt (x))), (3, .int (Int32.ofInt ((I 2504)))), (4, .int (Int32.ofInt ((I 2505)))), (5, .int (Int32.ofInt (y34_5))), (6, .int (Int32.ofInt (y34_6)))], [], M_34) _
          refine w_adv (n := 1) (F' := (98, [(0, .ref 39), (1, .int (Int32.ofInt (n))), (2, .int (Int32.ofInt (x))), (3, .int (Int32.ofInt ((I 2504)))), (4, .int (Int32.ofInt ((I 2505)))), (5, .int (Int32.ofInt (y34_5))), (6, .int (Int32.ofInt (y34_6)))], [.ref 39], M_34)) rfl ?_
          refine w_gf (v := .int (Int32.ofInt ((I_34 2504)))) hR_34 rfl rfl rfl rfl ?_
          obtain ⟨r28, r29⟩ : -2147483648 ≤ (I_34 2504) ∧ (I_34 2504) ≤ 2147483647 := hR_34.ri 2504
          refine w_adv (n := 3) (F' := (105, [(6, .int (Int32.ofInt ((I_34 2504)))), (0, .ref 39), (1, .int (Int32.ofInt (n))), (2, .int (Int32.ofInt (x))), (3, .int (Int32.ofInt ((I 2504)))), (4, .int (Int32.ofInt ((I 2505)))), (5, .int (Int32.ofInt (y34_5)))], [.int (Int32.ofInt ((I 2504))), .ref 39], M_34)) rfl ?_
          refine w_pf hR_34 rfl rfl rfl rfl (show w_in ((I 2504)) from ⟨by omega, by omega⟩) (fun h => absurd h (by decide)) (fun M30 hR31 => ?_)
          replace hR31 : w_Rep w_TC fr X u l (w_up I_34 2504 ((I 2504))) A_34 B_34 C_34 M30 := hR31
          refine w_adv (n := 2) (F' := (111, [(6, .int (Int32.ofInt ((I_34 2504)))), (0, .ref 39), (1, .int (Int32.ofInt (n))), (2, .int (Int32.ofInt (x))), (3, .int (Int32.ofInt ((I 2504)))), (4, .int (Int32.ofInt ((I 2505)))), (5, .int (Int32.ofInt (y34_5)))], [.int (Int32.ofInt ((I 2505))), .ref 39], M30)) rfl ?_
          refine w_pf hR31 rfl rfl rfl rfl (show w_in ((I 2505)) from ⟨by omega, by omega⟩) (fun h => absurd h (by decide)) (fun M32 hR33 => ?_)
          replace hR33 : w_Rep w_TC fr X u l (w_up (w_up I_34 2504 ((I 2504))) 2505 ((I 2505))) A_34 B_34 C_34 M32 := hR33
          refine w_adv (n := 1) (F' := (116, [(6, .int (Int32.ofInt ((I_34 2504)))), (0, .ref 39), (1, .int (Int32.ofInt (n))), (2, .int (Int32.ofInt (x))), (3, .int (Int32.ofInt ((I 2504)))), (4, .int (Int32.ofInt ((I 2505)))), (5, .int (Int32.ofInt (y34_5)))], [.int (Int32.ofInt ((I_34 2504)))], M32)) rfl ?_
          refine w_fin (r := .inl (some ((I_34 2504)))) (M' := M32) rfl ?_
          exact ⟨(I_34 2504), (w_up (w_up I_34 2504 ((I 2504))) 2505 ((I 2505))), A_34, B_34, C_34, rfl, ⟨by omega, by omega⟩, hR33, (show c_bz I A (w_up (w_up I_34 2504 ((I 2504))) 2505 ((I 2505))) A_34 p q (I 2503) by exact (c_bz_up (c_bz_up hi34_0 rfl) rfl)), (show (I_34 2503) = (I 2503) ∧ (0 ≤ (I_34 1035) ∧ (I_34 1035) ≤ 10000) ∧ (I_34 200) = (I 200) ∧ (I_34 202) = (I 202) by (repeat' apply And.intro) <;> first | assumption | omega)⟩
        · have h27 : ¬ (v21 = (-1)) := h27
          show w_W _ _ _ (84, [(0, .ref 39), (1, .int (Int32.ofInt (n))), (2, .int (Int32.ofInt (x))), (3, .int (Int32.ofInt ((I 2504)))), (4, .int (Int32.ofInt ((I 2505)))), (5, .int (Int32.ofInt (y34_5))), (6, .int (Int32.ofInt (y34_6)))], [], M_34) _
          have yw : c_W A_34 i (A 29 n) r n := hi34_3.resolve_left (by omega)
          refine w_adv (n := 2) (F' := (86, [(0, .ref 39), (1, .int (Int32.ofInt (n))), (2, .int (Int32.ofInt (x))), (3, .int (Int32.ofInt ((I 2504)))), (4, .int (Int32.ofInt ((I 2505)))), (5, .int (Int32.ofInt (y34_5))), (6, .int (Int32.ofInt (y34_6)))], [.ref 39, .ref 39], M_34)) rfl ?_
          refine w_gf (v := .ref 26) hR_34 rfl rfl rfl rfl ?_
          refine w_adv (n := 1) (F' := (90, [(0, .ref 39), (1, .int (Int32.ofInt (n))), (2, .int (Int32.ofInt (x))), (3, .int (Int32.ofInt ((I 2504)))), (4, .int (Int32.ofInt ((I 2505)))), (5, .int (Int32.ofInt (y34_5))), (6, .int (Int32.ofInt (y34_6)))], [.int (Int32.ofInt (n)), .ref 26, .ref 39], M_34)) rfl ?_
          refine w_call (cm := 152) (as := [(0, .ref 26), (1, .int (Int32.ofInt (n)))]) (rest := [.ref 39]) (o := some (8, 26)) rfl (w_fitR hR_34 rfl) (c_Tb (n) hR_34 (show 1 ≤ d by omega) ⟨by omega, by omega⟩) (fun r34 M35 q36 => ?_)
          rcases q36 with ⟨v37, e38, ⟨r39, r40⟩, e41, f42⟩
          rw [e38, e41]
          replace f42 : c_rd (A_34 29) n v37 := f42
          have ev37 : v37 = (A 29 n) := (c_rd_eq f42 (by omega) (by omega)).trans (c_bz_n (show c_bz I A I_34 A_34 p q (I 2503) from hi34_0) (show A 27 n ≠ 16 from (by omega))).1
          show w_W _ _ _ (93, [(0, .ref 39), (1, .int (Int32.ofInt (n))), (2, .int (Int32.ofInt (x))), (3, .int (Int32.ofInt ((I 2504)))), (4, .int (Int32.ofInt ((I 2505)))), (5, .int (Int32.ofInt (y34_5))), (6, .int (Int32.ofInt (y34_6)))], [.int (Int32.ofInt (v37)), .ref 39], M_34) _
          refine w_adv (n := 1) (F' := (94, [(0, .ref 39), (1, .int (Int32.ofInt (n))), (2, .int (Int32.ofInt (x))), (3, .int (Int32.ofInt ((I 2504)))), (4, .int (Int32.ofInt ((I 2505)))), (5, .int (Int32.ofInt (y34_5))), (6, .int (Int32.ofInt (y34_6)))], [.int (Int32.ofInt (x)), .int (Int32.ofInt (v37)), .ref 39], M_34)) rfl ?_
          refine w_call (cm := 146) (as := [(0, .ref 39), (1, .int (Int32.ofInt (v37))), (2, .int (Int32.ofInt (x)))]) (rest := []) (o := some (1, 39)) rfl (w_fitR hR_34 rfl) (c_single (c_BALL_dn hB0) (v37) (x) (i) (r) (n) hR_34 (show 8 * i + 6 ≤ d by omega) ⟨by omega, by omega⟩ ⟨by omega, by omega⟩ (show 0 ≤ (I_34 1035) ∧ (I_34 1035) ≤ 10000 by (repeat' apply And.intro) <;> first | assumption | omega) (show c_ks A_34 by exact (show c_bz I A I_34 A_34 p q (I 2503) from hi34_0).2.2.2.2 hKS) (show 36 ≤ (I_34 200) ∧ (I_34 200) ≤ 419 ∧ 0 ≤ (I_34 202) ∧ (I_34 202) ≤ 24 by (repeat' apply And.intro) <;> first | assumption | omega) (show ∀ i, (A_34 5) i ≤ 24 by rw [show (A_34 5) = (A 5) from (show c_bz I A I_34 A_34 p q (I 2503) from hi34_0).2.1 5 rfl]; exact hLN) (show 0 ≤ (I_34 2503) by omega) (show (I_34 2503) + 7000 * (i : Int) ≤ 1000000 by first | assumption | omega) (show c_W A_34 i v37 r n by rw [ev37]; exact yw) (show 0 ≤ r ∧ n ≤ 3001 by first | assumption | omega)) (fun r43 M44 q45 => ?_)
          rcases q45 with ⟨I45a, A45a, B45a, C45a, e46, hR45a, f47, f48⟩
          rw [e46]
          replace hR45a : w_Rep w_TC fr X u l I45a A45a B45a C45a M44 := hR45a
          replace f47 : c_bz I_34 A_34 I45a A45a r n (I_34 2503) := f47
          replace f48 : (I45a 2503) = (I_34 2503) ∧ (0 ≤ (I45a 1035) ∧ (I45a 1035) ≤ 10000) ∧ (I45a 200) = (I_34 200) ∧ (I45a 202) = (I_34 202) := f48
          obtain ⟨n49, ⟨n50, n51⟩, n52, n53⟩ := id f48
          clear f48
          have bx54 : c_bz I A I45a A45a p q (I 2503) := c_bz_trans (show c_bz I A I_34 A_34 p q (I 2503) from hi34_0) f47 (Int.le_refl _) (Int.le_refl _) (show p ≤ r ∨ n ≤ r by omega) (show n ≤ q ∨ n ≤ r by omega) (Int.le_refl _) (show (I 2503) ≤ (I_34 2503) by omega)
          show w_W _ _ _ (97, [(0, .ref 39), (1, .int (Int32.ofInt (n))), (2, .int (Int32.ofInt (x))), (3, .int (Int32.ofInt ((I 2504)))), (4, .int (Int32.ofInt ((I 2505)))), (5, .int (Int32.ofInt (y34_5))), (6, .int (Int32.ofInt (y34_6)))], [], M44) _
          refine w_adv (n := 1) (F' := (98, [(0, .ref 39), (1, .int (Int32.ofInt (n))), (2, .int (Int32.ofInt (x))), (3, .int (Int32.ofInt ((I 2504)))), (4, .int (Int32.ofInt ((I 2505)))), (5, .int (Int32.ofInt (y34_5))), (6, .int (Int32.ofInt (y34_6)))], [.ref 39], M44)) rfl ?_
          refine w_gf (v := .int (Int32.ofInt ((I45a 2504)))) hR45a rfl rfl rfl rfl ?_
          obtain ⟨r55, r56⟩ : -2147483648 ≤ (I45a 2504) ∧ (I45a 2504) ≤ 2147483647 := hR45a.ri 2504
          refine w_adv (n := 3) (F' := (105, [(6, .int (Int32.ofInt ((I45a 2504)))), (0, .ref 39), (1, .int (Int32.ofInt (n))), (2, .int (Int32.ofInt (x))), (3, .int (Int32.ofInt ((I 2504)))), (4, .int (Int32.ofInt ((I 2505)))), (5, .int (Int32.ofInt (y34_5)))], [.int (Int32.ofInt ((I 2504))), .ref 39], M44)) rfl ?_
          refine w_pf hR45a rfl rfl rfl rfl (show w_in ((I 2504)) from ⟨by omega, by omega⟩) (fun h => absurd h (by decide)) (fun M57 hR58 => ?_)
          replace hR58 : w_Rep w_TC fr X u l (w_up I45a 2504 ((I 2504))) A45a B45a C45a M57 := hR58
          refine w_adv (n := 2) (F' := (111, [(6, .int (Int32.ofInt ((I45a 2504)))), (0, .ref 39), (1, .int (Int32.ofInt (n))), (2, .int (Int32.ofInt (x))), (3, .int (Int32.ofInt ((I 2504)))), (4, .int (Int32.ofInt ((I 2505)))), (5, .int (Int32.ofInt (y34_5)))], [.int (Int32.ofInt ((I 2505))), .ref 39], M57)) rfl ?_
          refine w_pf hR58 rfl rfl rfl rfl (show w_in ((I 2505)) from ⟨by omega, by omega⟩) (fun h => absurd h (by decide)) (fun M59 hR60 => ?_)
          replace hR60 : w_Rep w_TC fr X u l (w_up (w_up I45a 2504 ((I 2504))) 2505 ((I 2505))) A45a B45a C45a M59 := hR60
          refine w_adv (n := 1) (F' := (116, [(6, .int (Int32.ofInt ((I45a 2504)))), (0, .ref 39), (1, .int (Int32.ofInt (n))), (2, .int (Int32.ofInt (x))), (3, .int (Int32.ofInt ((I 2504)))), (4, .int (Int32.ofInt ((I 2505)))), (5, .int (Int32.ofInt (y34_5)))], [.int (Int32.ofInt ((I45a 2504)))], M59)) rfl ?_
          refine w_fin (r := .inl (some ((I45a 2504)))) (M' := M59) rfl ?_
          exact ⟨(I45a 2504), (w_up (w_up I45a 2504 ((I 2504))) 2505 ((I 2505))), A45a, B45a, C45a, rfl, ⟨by omega, by omega⟩, hR60, (show c_bz I A (w_up (w_up I45a 2504 ((I 2504))) 2505 ((I 2505))) A45a p q (I 2503) by exact (c_bz_up (c_bz_up bx54 rfl) rfl)), (show (I45a 2503) = (I 2503) ∧ (0 ≤ (I45a 1035) ∧ (I45a 1035) ≤ 10000) ∧ (I45a 200) = (I 200) ∧ (I45a 202) = (I 202) by (repeat' apply And.intro) <;> first | assumption | omega)⟩
      refine w_adv (n := 2) (F' := (39, [(0, .ref 39), (1, .int (Int32.ofInt (n))), (2, .int (Int32.ofInt (x))), (3, .int (Int32.ofInt ((I 2504)))), (4, .int (Int32.ofInt ((I 2505)))), (5, .int (Int32.ofInt (y34_5))), (6, .int (Int32.ofInt (y34_6)))], [.int (Int32.ofInt (1500)), .int (Int32.ofInt (y34_6))], M_34)) rfl ?_
      refine w_br2 (a := y34_6) (b := 1500) rfl rfl ⟨by omega, by omega⟩ ⟨by omega, by omega⟩ (fun h61 => ?_) (fun h61 => ?_)
      · have h61 : y34_6 ≥ 1500 := h61
        show w_W _ _ _ (72, [(0, .ref 39), (1, .int (Int32.ofInt (n))), (2, .int (Int32.ofInt (x))), (3, .int (Int32.ofInt ((I 2504)))), (4, .int (Int32.ofInt ((I 2505)))), (5, .int (Int32.ofInt (y34_5))), (6, .int (Int32.ofInt (y34_6)))], [], M_34) _
        exact jn72   
      · have h61 : ¬ (y34_6 ≥ 1500) := h61
        show w_W _ _ _ (42, [(0, .ref 39), (1, .int (Int32.ofInt (n))), (2, .int (Int32.ofInt (x))), (3, .int (Int32.ofInt ((I 2504)))), (4, .int (Int32.ofInt ((I 2505)))), (5, .int (Int32.ofInt (y34_5))), (6, .int (Int32.ofInt (y34_6)))], [], M_34) _
        refine w_adv (n := 2) (F' := (45, [(0, .ref 39), (1, .int (Int32.ofInt (n))), (2, .int (Int32.ofInt (x))), (3, .int (Int32.ofInt ((I 2504)))), (4, .int (Int32.ofInt ((I 2505)))), (5, .int (Int32.ofInt (y34_5))), (6, .int (Int32.ofInt (y34_6)))], [.int (Int32.ofInt ((-1))), .int (Int32.ofInt (y34_5))], M_34)) rfl ?_
        refine w_br2 (a := y34_5) (b := (-1)) rfl rfl ⟨by omega, by omega⟩ ⟨by omega, by omega⟩ (fun h62 => ?_) (fun h62 => ?_)
        · have h62 : y34_5 = (-1) := h62
          show w_W _ _ _ (72, [(0, .ref 39), (1, .int (Int32.ofInt (n))), (2, .int (Int32.ofInt (x))), (3, .int (Int32.ofInt ((I 2504)))), (4, .int (Int32.ofInt ((I 2505)))), (5, .int (Int32.ofInt (y34_5))), (6, .int (Int32.ofInt (y34_6)))], [], M_34) _
          exact jn72   
        · have h62 : ¬ (y34_5 = (-1)) := h62
          show w_W _ _ _ (48, [(0, .ref 39), (1, .int (Int32.ofInt (n))), (2, .int (Int32.ofInt (x))), (3, .int (Int32.ofInt ((I 2504)))), (4, .int (Int32.ofInt ((I 2505)))), (5, .int (Int32.ofInt (y34_5))), (6, .int (Int32.ofInt (y34_6)))], [], M_34) _
          obtain ⟨cr, cg1, cg2, cg3, cg4, cg5⟩ := c_Ch_ne hi34_2 (by omega)
          skip
          skip
          refine w_adv (n := 3) (F' := (52, [(0, .ref 39), (1, .int (Int32.ofInt (n))), (2, .int (Int32.ofInt (x))), (3, .int (Int32.ofInt ((I 2504)))), (4, .int (Int32.ofInt ((I 2505)))), (5, .int (Int32.ofInt (y34_5))), (6, .int (Int32.ofInt (y34_6)))], [.int (Int32.ofInt ((-1))), .int (Int32.ofInt (y34_5)), .ref 39], M_34)) rfl ?_
          refine w_call (cm := 146) (as := [(0, .ref 39), (1, .int (Int32.ofInt (y34_5))), (2, .int (Int32.ofInt ((-1))))]) (rest := []) (o := some (1, 39)) rfl (w_fitR hR_34 rfl) (c_single (c_BALL_dn hB0) (y34_5) ((-1)) (i) (w_34) (cr) hR_34 (show 8 * i + 6 ≤ d by omega) ⟨by omega, by omega⟩ ⟨by omega, by omega⟩ (show 0 ≤ (I_34 1035) ∧ (I_34 1035) ≤ 10000 by (repeat' apply And.intro) <;> first | assumption | omega) (show c_ks A_34 by exact (show c_bz I A I_34 A_34 p q (I 2503) from hi34_0).2.2.2.2 hKS) (show 36 ≤ (I_34 200) ∧ (I_34 200) ≤ 419 ∧ 0 ≤ (I_34 202) ∧ (I_34 202) ≤ 24 by (repeat' apply And.intro) <;> first | assumption | omega) (show ∀ i, (A_34 5) i ≤ 24 by rw [show (A_34 5) = (A 5) from (show c_bz I A I_34 A_34 p q (I 2503) from hi34_0).2.1 5 rfl]; exact hLN) (show 0 ≤ (I_34 2503) by omega) (show (I_34 2503) + 7000 * (i : Int) ≤ 1000000 by first | assumption | omega) (show c_W A_34 i y34_5 w_34 cr by exact cg4) (show 0 ≤ w_34 ∧ cr ≤ 3001 by first | assumption | omega)) (fun r63 M64 q65 => ?_)
          rcases q65 with ⟨I65a, A65a, B65a, C65a, e66, hR65a, f67, f68⟩
          rw [e66]
          replace hR65a : w_Rep w_TC fr X u l I65a A65a B65a C65a M64 := hR65a
          replace f67 : c_bz I_34 A_34 I65a A65a w_34 cr (I_34 2503) := f67
          replace f68 : (I65a 2503) = (I_34 2503) ∧ (0 ≤ (I65a 1035) ∧ (I65a 1035) ≤ 10000) ∧ (I65a 200) = (I_34 200) ∧ (I65a 202) = (I_34 202) := f68
          obtain ⟨n69, ⟨n70, n71⟩, n72, n73⟩ := id f68
          clear f68
          have bx74 : c_bz I A I65a A65a p q (I 2503) := c_bz_trans (show c_bz I A I_34 A_34 p q (I 2503) from hi34_0) f67 (Int.le_refl _) (Int.le_refl _) (show p ≤ w_34 ∨ cr ≤ w_34 by omega) (show cr ≤ q ∨ cr ≤ w_34 by omega) (Int.le_refl _) (show (I 2503) ≤ (I_34 2503) by omega)
          have k75 : (A 29 n) = -1 ∨ c_W A65a i (A 29 n) r n := hi34_3.imp_right (fun g => c_W_agr g (c_bz_r f67 (show n ≤ w_34 ∨ cr ≤ r ∨ cr ≤ w_34 by omega)))
          clear hi34_3
          have k76 : c_Ch (A65a 31) (c_P0 A65a i) (A_34 31 y34_5) cr r := c_Ch_agr c_P0_fam cg5 (c_bz_r f67 (show r ≤ w_34 ∨ cr ≤ cr ∨ cr ≤ w_34 by omega))
          clear cg5
          show w_W _ _ _ (55, [(0, .ref 39), (1, .int (Int32.ofInt (n))), (2, .int (Int32.ofInt (x))), (3, .int (Int32.ofInt ((I 2504)))), (4, .int (Int32.ofInt ((I 2505)))), (5, .int (Int32.ofInt (y34_5))), (6, .int (Int32.ofInt (y34_6)))], [], M64) _
          refine w_adv (n := 1) (F' := (56, [(0, .ref 39), (1, .int (Int32.ofInt (n))), (2, .int (Int32.ofInt (x))), (3, .int (Int32.ofInt ((I 2504)))), (4, .int (Int32.ofInt ((I 2505)))), (5, .int (Int32.ofInt (y34_5))), (6, .int (Int32.ofInt (y34_6)))], [.ref 39], M64)) rfl ?_
          refine w_gf (v := .ref 26) hR65a rfl rfl rfl rfl ?_
          refine w_adv (n := 1) (F' := (61, [(0, .ref 39), (1, .int (Int32.ofInt (n))), (2, .int (Int32.ofInt (x))), (3, .int (Int32.ofInt ((I 2504)))), (4, .int (Int32.ofInt ((I 2505)))), (5, .int (Int32.ofInt (y34_5))), (6, .int (Int32.ofInt (y34_6)))], [.int (Int32.ofInt (y34_5)), .ref 26], M64)) rfl ?_
          refine w_call (cm := 161) (as := [(0, .ref 26), (1, .int (Int32.ofInt (y34_5)))]) (rest := []) (o := some (8, 26)) rfl (w_fitR hR65a rfl) (c_Tnext (y34_5) hR65a (show 1 ≤ d by omega) ⟨by omega, by omega⟩) (fun r77 M78 q79 => ?_)
          rcases q79 with ⟨v80, e81, ⟨r82, r83⟩, e84, f85⟩
          rw [e81, e84]
          replace f85 : c_rd (A65a 31) y34_5 v80 := f85
          have ev80 : v80 = (A_34 31 y34_5) := (c_rd_eq f85 (by omega) (by omega)).trans (congrFun ((c_bz_ke (show c_bz I A I65a A65a p q (I 2503) from bx74)).2.2.trans (c_bz_ke (show c_bz I A I_34 A_34 p q (I 2503) from hi34_0)).2.2.symm) _)
          show w_W _ _ _ (64, [(0, .ref 39), (1, .int (Int32.ofInt (n))), (2, .int (Int32.ofInt (x))), (3, .int (Int32.ofInt ((I 2504)))), (4, .int (Int32.ofInt ((I 2505)))), (5, .int (Int32.ofInt (y34_5))), (6, .int (Int32.ofInt (y34_6)))], [.int (Int32.ofInt (v80))], M64) _
          refine w_adv (n := 1) (F' := (66, [(5, .int (Int32.ofInt (v80))), (0, .ref 39), (1, .int (Int32.ofInt (n))), (2, .int (Int32.ofInt (x))), (3, .int (Int32.ofInt ((I 2504)))), (4, .int (Int32.ofInt ((I 2505)))), (6, .int (Int32.ofInt (y34_6)))], [], M64)) rfl ?_
          refine w_inc (nL := 7) (a := y34_6) rfl rfl rfl (by decide) ?_
          refine w_adv (n := 1) (F' := (34, [(6, .int (Int32.ofInt (y34_6 + 1))), (5, .int (Int32.ofInt (v80))), (0, .ref 39), (1, .int (Int32.ofInt (n))), (2, .int (Int32.ofInt (x))), (3, .int (Int32.ofInt ((I 2504)))), (4, .int (Int32.ofInt ((I 2505))))], [], M64)) rfl ?_
          refine w_ls (ls := [(0, .ref 39), (1, .int (Int32.ofInt (n))), (2, .int (Int32.ofInt (x))), (3, .int (Int32.ofInt ((I 2504)))), (4, .int (Int32.ofInt ((I 2505)))), (5, .int (Int32.ofInt (v80))), (6, .int (Int32.ofInt (y34_6 + 1)))]) (show List.Nodup [0, 1, 2, 3, 4, 5, 6] by decide) (show List.Nodup [6, 5, 0, 1, 2, 3, 4] by decide) (List.forall_mem_cons.mpr ⟨(List.Mem.tail _ (List.Mem.tail _ (List.Mem.head _))), (List.forall_mem_cons.mpr ⟨(List.Mem.tail _ (List.Mem.tail _ (List.Mem.tail _ (List.Mem.head _)))), (List.forall_mem_cons.mpr ⟨(List.Mem.tail _ (List.Mem.tail _ (List.Mem.tail _ (List.Mem.tail _ (List.Mem.head _))))), (List.forall_mem_cons.mpr ⟨(List.Mem.tail _ (List.Mem.tail _ (List.Mem.tail _ (List.Mem.tail _ (List.Mem.tail _ (List.Mem.head _)))))), (List.forall_mem_cons.mpr ⟨(List.Mem.tail _ (List.Mem.tail _ (List.Mem.tail _ (List.Mem.tail _ (List.Mem.tail _ (List.Mem.tail _ (List.Mem.head _))))))), (List.forall_mem_cons.mpr ⟨(List.Mem.tail _ (List.Mem.head _)), (List.forall_mem_cons.mpr ⟨(List.Mem.head _), (fun _ h => by cases h)⟩)⟩)⟩)⟩)⟩)⟩)⟩) ?_
          exact ih34 (cr) (v80) (y34_6 + 1) I65a A65a B65a C65a M64 hR65a ⟨by omega, by omega⟩ ⟨by omega, by omega⟩ (show c_bz I A I65a A65a p q (I 2503) by exact bx74) (show (I65a 2503) = (I 2503) ∧ (0 ≤ (I65a 1035) ∧ (I65a 1035) ≤ 10000) ∧ (I65a 200) = (I 200) ∧ (I65a 202) = (I 202) by (repeat' apply And.intro) <;> first | assumption | omega) (show c_Ch (A65a 31) (c_P0 A65a i) v80 cr r by rw [ev80]; exact k76) (show (A 29 n) = -1 ∨ c_W A65a i (A 29 n) r n by exact k75) (show p ≤ cr by omega) (show 0 ≤ (y34_6 + 1) ∧ (y34_6 + 1) ≤ 1500 by omega) (show 1500 - (y34_6 + 1) < (fu34 : Int) by omega)
  refine w_ls (ls := [(0, .ref 39), (1, .int (Int32.ofInt (n))), (2, .int (Int32.ofInt (x))), (3, .int (Int32.ofInt ((I 2504)))), (4, .int (Int32.ofInt ((I 2505)))), (5, .int (Int32.ofInt (v12))), (6, .int (Int32.ofInt (0)))]) (show List.Nodup [0, 1, 2, 3, 4, 5, 6] by decide) (show List.Nodup [6, 5, 4, 3, 0, 1, 2] by decide) (List.forall_mem_cons.mpr ⟨(List.Mem.tail _ (List.Mem.tail _ (List.Mem.tail _ (List.Mem.tail _ (List.Mem.head _))))), (List.forall_mem_cons.mpr ⟨(List.Mem.tail _ (List.Mem.tail _ (List.Mem.tail _ (List.Mem.tail _ (List.Mem.tail _ (List.Mem.head _)))))), (List.forall_mem_cons.mpr ⟨(List.Mem.tail _ (List.Mem.tail _ (List.Mem.tail _ (List.Mem.tail _ (List.Mem.tail _ (List.Mem.tail _ (List.Mem.head _))))))), (List.forall_mem_cons.mpr ⟨(List.Mem.tail _ (List.Mem.tail _ (List.Mem.tail _ (List.Mem.head _)))), (List.forall_mem_cons.mpr ⟨(List.Mem.tail _ (List.Mem.tail _ (List.Mem.head _))), (List.forall_mem_cons.mpr ⟨(List.Mem.tail _ (List.Mem.head _)), (List.forall_mem_cons.mpr ⟨(List.Mem.head _), (fun _ h => by cases h)⟩)⟩)⟩)⟩)⟩)⟩)⟩) ?_
  exact lp34 ((1500 - 0 : Int).toNat + 1) (p) (v12) (0) (w_up (w_up I 2504 ((-1))) 2505 ((-1))) A B C M7 hR8 ⟨by omega, by omega⟩ ⟨by omega, by omega⟩ (show c_bz I A (w_up (w_up I 2504 ((-1))) 2505 ((-1))) A p q (I 2503) by exact (c_bz_up (c_bz_up c_bz_refl rfl) rfl)) (show (I 2503) = (I 2503) ∧ (0 ≤ (I 1035) ∧ (I 1035) ≤ 10000) ∧ (I 200) = (I 200) ∧ (I 202) = (I 202) by (repeat' apply And.intro) <;> first | assumption | omega) (show c_Ch (A 31) (c_P0 A i) v12 p r by rw [ev12]; exact nb4) (show (A 29 n) = -1 ∨ c_W A i (A 29 n) r n by exact nb6) (show p ≤ p by omega) (show 0 ≤ (0 : Int) ∧ (0 : Int) ≤ 1500 by omega) (show 1500 - 0 < (((1500 - 0 : Int).toNat + 1 : Nat) : Int) by omega)
