/-! BUILDER of the class: into. -/
/-! c_into -/
set_option maxHeartbeats 100000000 in
set_option maxRecDepth 100000 in
theorem c_into {L : Nat} {xs : Nat → Int32} {d : Nat} {fr : Nat → Bool} {X : Nat → Option (q_C (Nat → Int32))} {u l : Nat} {I : Nat → Int} {A : Nat → Int → Int} {B C : Nat → Nat} {M : w_M} (hB0 : c_BALL L xs d) (n : Int) (x : Int) (i : Nat) (p q : Int) (hR : w_Rep w_TC fr X u l I A B C M) (hd : 8 * i + 4 ≤ d) (r_n : w_in n) (r_x : w_in x) (hKI : 0 ≤ (I 1035) ∧ (I 1035) ≤ 10000) (hKS : c_ks A) (hNM : 36 ≤ (I 200) ∧ (I 200) ≤ 419 ∧ 0 ≤ (I 202) ∧ (I 202) ≤ 24) (hLN : ∀ i, (A 5) i ≤ 24) (hW0 : 0 ≤ (I 2503)) (hWB : (I 2503) + 7000 * (i : Int) ≤ 1000000) (hW : c_W A i n p q) (hpq : 0 ≤ p ∧ q ≤ 3001) : w_W (z_P L xs) d 156 (0, [(0, .ref 39), (1, .int (Int32.ofInt (n))), (2, .int (Int32.ofInt (x)))], [], M) (c_into_Q fr X u l I A B C M n x i p q) := by
  obtain ⟨ra_n, rb_n⟩ := r_n
  obtain ⟨ra_x, rb_x⟩ := r_x
  obtain ⟨d, rfl⟩ : ∃ d0, d = d0 + 1 := ⟨d - 1, by omega⟩
  obtain ⟨nb1, nb2⟩ := c_W_in hW
  obtain ⟨j, hj⟩ := c_W_succ hW
  have hW1 : c_W A (j + 1) n p q := by rw [← hj]; exact hW
  refine w_adv (n := 1) (F' := (1, [(0, .ref 39), (1, .int (Int32.ofInt (n))), (2, .int (Int32.ofInt (x)))], [.ref 39], M)) rfl ?_
  refine w_gf (v := .ref 26) hR rfl rfl rfl rfl ?_
  refine w_adv (n := 1) (F' := (5, [(0, .ref 39), (1, .int (Int32.ofInt (n))), (2, .int (Int32.ofInt (x)))], [.int (Int32.ofInt (n)), .ref 26], M)) rfl ?_
  refine w_call (cm := 145) (as := [(0, .ref 26), (1, .int (Int32.ofInt (n)))]) (rest := []) (o := some (8, 26)) rfl (w_fitR hR rfl) (c_Ta (n) hR (show 1 ≤ d by omega) ⟨by omega, by omega⟩) (fun r1 M2 q3 => ?_)
  rcases q3 with ⟨v4, e5, ⟨r6, r7⟩, e8, f9⟩
  rw [e5, e8]
  replace f9 : c_rd (A 28) n v4 := f9
  have ev4 : v4 = (A 28 n) := (c_rd_eq f9 (by omega) (by omega)).trans (congrFun (c_bz_ke (show c_bz I A I A p q (I 2503) from c_bz_refl)).2.1 _)
  show w_W _ _ _ (8, [(0, .ref 39), (1, .int (Int32.ofInt (n))), (2, .int (Int32.ofInt (x)))], [.int (Int32.ofInt (v4))], M) _
  refine w_adv (n := 2) (F' := (10, [(3, .int (Int32.ofInt (v4))), (0, .ref 39), (1, .int (Int32.ofInt (n))), (2, .int (Int32.ofInt (x)))], [.ref 39], M)) rfl ?_
  refine w_gf (v := .ref 26) hR rfl rfl rfl rfl ?_
  refine w_adv (n := 1) (F' := (14, [(3, .int (Int32.ofInt (v4))), (0, .ref 39), (1, .int (Int32.ofInt (n))), (2, .int (Int32.ofInt (x)))], [.int (Int32.ofInt (n)), .ref 26], M)) rfl ?_
  refine w_call (cm := 135) (as := [(0, .ref 26), (1, .int (Int32.ofInt (n)))]) (rest := []) (o := some (8, 26)) rfl (w_fitR hR rfl) (c_Tkind (n) hR (show 1 ≤ d by omega) ⟨by omega, by omega⟩) (fun r10 M11 q12 => ?_)
  rcases q12 with ⟨v13, e14, ⟨r15, r16⟩, e17, f18⟩
  rw [e14, e17]
  replace f18 : c_rd (A 27) n v13 := f18
  have ev13 : v13 = (A 27 n) := (c_rd_eq f18 (by omega) (by omega)).trans (congrFun (c_bz_ke (show c_bz I A I A p q (I 2503) from c_bz_refl)).1 _)
  show w_W _ _ _ (17, [(3, .int (Int32.ofInt (v4))), (0, .ref 39), (1, .int (Int32.ofInt (n))), (2, .int (Int32.ofInt (x)))], [.int (Int32.ofInt (v13))], M) _
  rcases (show (v13 < 1 ∨ 19 < v13) ∨ v13 = 1 ∨ v13 = 2 ∨ v13 = 3 ∨ v13 = 4 ∨ v13 = 5 ∨ v13 = 6 ∨ v13 = 7 ∨ v13 = 8 ∨ v13 = 9 ∨ v13 = 10 ∨ v13 = 11 ∨ v13 = 12 ∨ v13 = 13 ∨ v13 = 14 ∨ v13 = 15 ∨ v13 = 16 ∨ v13 = 17 ∨ v13 = 18 ∨ v13 = 19 by omega) with h19 | h19 | h19 | h19 | h19 | h19 | h19 | h19 | h19 | h19 | h19 | h19 | h19 | h19 | h19 | h19 | h19 | h19 | h19 | h19
  · refine w_swd rfl ⟨by omega, by omega⟩ h19 rfl ?_
    show w_W _ _ _ (237, [(3, .int (Int32.ofInt (v4))), (0, .ref 39), (1, .int (Int32.ofInt (n))), (2, .int (Int32.ofInt (x)))], [], M) _
    refine w_fin (r := .inl none) (M' := M) rfl ?_
    exact ⟨I, A, B, C, rfl, hR, (show c_bz I A I A p q (I 2503) by exact c_bz_refl), (show (I 2503) = (I 2503) ∧ (0 ≤ (I 1035) ∧ (I 1035) ≤ 10000) ∧ (I 200) = (I 200) ∧ (I 202) = (I 202) by (repeat' apply And.intro) <;> first | assumption | omega)⟩
  · refine w_sw (v := 1) (F' := (108, [(3, .int (Int32.ofInt (v4))), (0, .ref 39), (1, .int (Int32.ofInt (n))), (2, .int (Int32.ofInt (x)))], [], M)) h19 rfl rfl ?_
    refine w_adv (n := 4) (F' := (112, [(3, .int (Int32.ofInt (v4))), (0, .ref 39), (1, .int (Int32.ofInt (n))), (2, .int (Int32.ofInt (x)))], [.ref 39, .int (Int32.ofInt (x)), .int (Int32.ofInt (3)), .ref 39], M)) rfl ?_
    refine w_gf (v := .ref 33) hR rfl rfl rfl rfl ?_
    refine w_adv (n := 1) (F' := (116, [(3, .int (Int32.ofInt (v4))), (0, .ref 39), (1, .int (Int32.ofInt (n))), (2, .int (Int32.ofInt (x)))], [.int (Int32.ofInt (v4)), .ref 33, .int (Int32.ofInt (x)), .int (Int32.ofInt (3)), .ref 39], M)) rfl ?_
    refine w_call (cm := 155) (as := [(0, .ref 33), (1, .int (Int32.ofInt (v4)))]) (rest := [.int (Int32.ofInt (x)), .int (Int32.ofInt (3)), .ref 39]) (o := some (5, 33)) rfl (w_fitR hR rfl) (c_Scope_variable (v4) hR (show 2 ≤ d by omega) ⟨by omega, by omega⟩) (fun r20 M21 q22 => ?_)
    rcases q22 with ⟨v23, e24, ⟨r25, r26⟩, e27⟩
    rw [e24, e27]
    show w_W _ _ _ (119, [(3, .int (Int32.ofInt (v4))), (0, .ref 39), (1, .int (Int32.ofInt (n))), (2, .int (Int32.ofInt (x)))], [.int (Int32.ofInt (v23)), .int (Int32.ofInt (x)), .int (Int32.ofInt (3)), .ref 39], M) _
    refine w_adv (n := 1) (F' := (120, [(3, .int (Int32.ofInt (v4))), (0, .ref 39), (1, .int (Int32.ofInt (n))), (2, .int (Int32.ofInt (x)))], [.int (Int32.ofInt ((-1))), .int (Int32.ofInt (v23)), .int (Int32.ofInt (x)), .int (Int32.ofInt (3)), .ref 39], M)) rfl ?_
    refine w_call (cm := 148) (as := [(0, .ref 39), (1, .int (Int32.ofInt (3))), (2, .int (Int32.ofInt (x))), (3, .int (Int32.ofInt (v23))), (4, .int (Int32.ofInt ((-1))))]) (rest := []) (o := some (1, 39)) rfl (w_fitR hR rfl) (c_emit (3) (x) (v23) ((-1)) hR (show 4 ≤ d by omega) ⟨by omega, by omega⟩ ⟨by omega, by omega⟩ ⟨by omega, by omega⟩ ⟨by omega, by omega⟩ (show 0 ≤ (I 1035) ∧ (I 1035) ≤ 10000 by (repeat' apply And.intro) <;> first | assumption | omega) (show 0 ≤ (I 2503) by omega)) (fun r28 M29 q30 => ?_)
    rcases q30 with ⟨I30a, A30a, B30a, C30a, e31, hR30a, f32, f33⟩
    rw [e31]
    replace hR30a : w_Rep w_TC fr X u l I30a A30a B30a C30a M29 := hR30a
    replace f32 : c_bz I A I30a A30a 0 0 (I 2503) := f32
    replace f33 : (I30a 2503) = (I 2503) ∧ (0 ≤ (I30a 1035) ∧ (I30a 1035) ≤ 10000) ∧ (I30a 200) = (I 200) ∧ (I30a 202) = (I 202) := f33
    obtain ⟨n34, ⟨n35, n36⟩, n37, n38⟩ := id f33
    clear f33
    have bx39 : c_bz I A I30a A30a p q (I 2503) := c_bz_trans (show c_bz I A I A p q (I 2503) from c_bz_refl) f32 (Int.le_refl _) (Int.le_refl _) (show p ≤ 0 ∨ 0 ≤ 0 by omega) (show 0 ≤ q ∨ 0 ≤ 0 by omega) (Int.le_refl _) (show (I 2503) ≤ (I 2503) by omega)
    have k40 : c_W A30a i n p q := c_W_agr hW (c_bz_r f32 (show q ≤ 0 ∨ 0 ≤ p ∨ 0 ≤ 0 by omega))
    show w_W _ _ _ (123, [(3, .int (Int32.ofInt (v4))), (0, .ref 39), (1, .int (Int32.ofInt (n))), (2, .int (Int32.ofInt (x)))], [], M29) _
    refine w_adv (n := 1) (F' := (237, [(3, .int (Int32.ofInt (v4))), (0, .ref 39), (1, .int (Int32.ofInt (n))), (2, .int (Int32.ofInt (x)))], [], M29)) rfl ?_
    refine w_fin (r := .inl none) (M' := M29) rfl ?_
    exact ⟨I30a, A30a, B30a, C30a, rfl, hR30a, (show c_bz I A I30a A30a p q (I 2503) by exact bx39), (show (I30a 2503) = (I 2503) ∧ (0 ≤ (I30a 1035) ∧ (I30a 1035) ≤ 10000) ∧ (I30a 200) = (I 200) ∧ (I30a 202) = (I 202) by (repeat' apply And.intro) <;> first | assumption | omega)⟩
  · refine w_sw (v := 2) (F' := (237, [(3, .int (Int32.ofInt (v4))), (0, .ref 39), (1, .int (Int32.ofInt (n))), (2, .int (Int32.ofInt (x)))], [], M)) h19 rfl rfl ?_
    refine w_fin (r := .inl none) (M' := M) rfl ?_
    exact ⟨I, A, B, C, rfl, hR, (show c_bz I A I A p q (I 2503) by exact c_bz_refl), (show (I 2503) = (I 2503) ∧ (0 ≤ (I 1035) ∧ (I 1035) ≤ 10000) ∧ (I 200) = (I 200) ∧ (I 202) = (I 202) by (repeat' apply And.intro) <;> first | assumption | omega)⟩
  · refine w_sw (v := 3) (F' := (126, [(3, .int (Int32.ofInt (v4))), (0, .ref 39), (1, .int (Int32.ofInt (n))), (2, .int (Int32.ofInt (x)))], [], M)) h19 rfl rfl ?_
    refine w_adv (n := 5) (F' := (131, [(3, .int (Int32.ofInt (v4))), (0, .ref 39), (1, .int (Int32.ofInt (n))), (2, .int (Int32.ofInt (x)))], [.int (Int32.ofInt ((-1))), .int (Int32.ofInt (v4)), .int (Int32.ofInt (x)), .int (Int32.ofInt (4)), .ref 39], M)) rfl ?_
    refine w_call (cm := 148) (as := [(0, .ref 39), (1, .int (Int32.ofInt (4))), (2, .int (Int32.ofInt (x))), (3, .int (Int32.ofInt (v4))), (4, .int (Int32.ofInt ((-1))))]) (rest := []) (o := some (1, 39)) rfl (w_fitR hR rfl) (c_emit (4) (x) (v4) ((-1)) hR (show 4 ≤ d by omega) ⟨by omega, by omega⟩ ⟨by omega, by omega⟩ ⟨by omega, by omega⟩ ⟨by omega, by omega⟩ (show 0 ≤ (I 1035) ∧ (I 1035) ≤ 10000 by (repeat' apply And.intro) <;> first | assumption | omega) (show 0 ≤ (I 2503) by omega)) (fun r41 M42 q43 => ?_)
    rcases q43 with ⟨I43a, A43a, B43a, C43a, e44, hR43a, f45, f46⟩
    rw [e44]
    replace hR43a : w_Rep w_TC fr X u l I43a A43a B43a C43a M42 := hR43a
    replace f45 : c_bz I A I43a A43a 0 0 (I 2503) := f45
    replace f46 : (I43a 2503) = (I 2503) ∧ (0 ≤ (I43a 1035) ∧ (I43a 1035) ≤ 10000) ∧ (I43a 200) = (I 200) ∧ (I43a 202) = (I 202) := f46
    obtain ⟨n47, ⟨n48, n49⟩, n50, n51⟩ := id f46
    clear f46
    have bx52 : c_bz I A I43a A43a p q (I 2503) := c_bz_trans (show c_bz I A I A p q (I 2503) from c_bz_refl) f45 (Int.le_refl _) (Int.le_refl _) (show p ≤ 0 ∨ 0 ≤ 0 by omega) (show 0 ≤ q ∨ 0 ≤ 0 by omega) (Int.le_refl _) (show (I 2503) ≤ (I 2503) by omega)
    have k53 : c_W A43a i n p q := c_W_agr hW (c_bz_r f45 (show q ≤ 0 ∨ 0 ≤ p ∨ 0 ≤ 0 by omega))
    show w_W _ _ _ (134, [(3, .int (Int32.ofInt (v4))), (0, .ref 39), (1, .int (Int32.ofInt (n))), (2, .int (Int32.ofInt (x)))], [], M42) _
    refine w_adv (n := 1) (F' := (237, [(3, .int (Int32.ofInt (v4))), (0, .ref 39), (1, .int (Int32.ofInt (n))), (2, .int (Int32.ofInt (x)))], [], M42)) rfl ?_
    refine w_fin (r := .inl none) (M' := M42) rfl ?_
    exact ⟨I43a, A43a, B43a, C43a, rfl, hR43a, (show c_bz I A I43a A43a p q (I 2503) by exact bx52), (show (I43a 2503) = (I 2503) ∧ (0 ≤ (I43a 1035) ∧ (I43a 1035) ≤ 10000) ∧ (I43a 200) = (I 200) ∧ (I43a 202) = (I 202) by (repeat' apply And.intro) <;> first | assumption | omega)⟩
  · refine w_sw (v := 4) (F' := (137, [(3, .int (Int32.ofInt (v4))), (0, .ref 39), (1, .int (Int32.ofInt (n))), (2, .int (Int32.ofInt (x)))], [], M)) h19 rfl rfl ?_
    refine w_adv (n := 5) (F' := (142, [(3, .int (Int32.ofInt (v4))), (0, .ref 39), (1, .int (Int32.ofInt (n))), (2, .int (Int32.ofInt (x)))], [.int (Int32.ofInt ((-1))), .int (Int32.ofInt (v4)), .int (Int32.ofInt (x)), .int (Int32.ofInt (5)), .ref 39], M)) rfl ?_
    refine w_call (cm := 148) (as := [(0, .ref 39), (1, .int (Int32.ofInt (5))), (2, .int (Int32.ofInt (x))), (3, .int (Int32.ofInt (v4))), (4, .int (Int32.ofInt ((-1))))]) (rest := []) (o := some (1, 39)) rfl (w_fitR hR rfl) (c_emit (5) (x) (v4) ((-1)) hR (show 4 ≤ d by omega) ⟨by omega, by omega⟩ ⟨by omega, by omega⟩ ⟨by omega, by omega⟩ ⟨by omega, by omega⟩ (show 0 ≤ (I 1035) ∧ (I 1035) ≤ 10000 by (repeat' apply And.intro) <;> first | assumption | omega) (show 0 ≤ (I 2503) by omega)) (fun r54 M55 q56 => ?_)
    rcases q56 with ⟨I56a, A56a, B56a, C56a, e57, hR56a, f58, f59⟩
    rw [e57]
    replace hR56a : w_Rep w_TC fr X u l I56a A56a B56a C56a M55 := hR56a
    replace f58 : c_bz I A I56a A56a 0 0 (I 2503) := f58
    replace f59 : (I56a 2503) = (I 2503) ∧ (0 ≤ (I56a 1035) ∧ (I56a 1035) ≤ 10000) ∧ (I56a 200) = (I 200) ∧ (I56a 202) = (I 202) := f59
    obtain ⟨n60, ⟨n61, n62⟩, n63, n64⟩ := id f59
    clear f59
    have bx65 : c_bz I A I56a A56a p q (I 2503) := c_bz_trans (show c_bz I A I A p q (I 2503) from c_bz_refl) f58 (Int.le_refl _) (Int.le_refl _) (show p ≤ 0 ∨ 0 ≤ 0 by omega) (show 0 ≤ q ∨ 0 ≤ 0 by omega) (Int.le_refl _) (show (I 2503) ≤ (I 2503) by omega)
    have k66 : c_W A56a i n p q := c_W_agr hW (c_bz_r f58 (show q ≤ 0 ∨ 0 ≤ p ∨ 0 ≤ 0 by omega))
    show w_W _ _ _ (145, [(3, .int (Int32.ofInt (v4))), (0, .ref 39), (1, .int (Int32.ofInt (n))), (2, .int (Int32.ofInt (x)))], [], M55) _
    refine w_adv (n := 1) (F' := (237, [(3, .int (Int32.ofInt (v4))), (0, .ref 39), (1, .int (Int32.ofInt (n))), (2, .int (Int32.ofInt (x)))], [], M55)) rfl ?_
    refine w_fin (r := .inl none) (M' := M55) rfl ?_
    exact ⟨I56a, A56a, B56a, C56a, rfl, hR56a, (show c_bz I A I56a A56a p q (I 2503) by exact bx65), (show (I56a 2503) = (I 2503) ∧ (0 ≤ (I56a 1035) ∧ (I56a 1035) ≤ 10000) ∧ (I56a 200) = (I 200) ∧ (I56a 202) = (I 202) by (repeat' apply And.intro) <;> first | assumption | omega)⟩
  · refine w_sw (v := 5) (F' := (148, [(3, .int (Int32.ofInt (v4))), (0, .ref 39), (1, .int (Int32.ofInt (n))), (2, .int (Int32.ofInt (x)))], [], M)) h19 rfl rfl ?_
    refine w_adv (n := 3) (F' := (151, [(3, .int (Int32.ofInt (v4))), (0, .ref 39), (1, .int (Int32.ofInt (n))), (2, .int (Int32.ofInt (x)))], [.int (Int32.ofInt (x)), .int (Int32.ofInt (n)), .ref 39], M)) rfl ?_
    refine w_call (cm := 157) (as := [(0, .ref 39), (1, .int (Int32.ofInt (n))), (2, .int (Int32.ofInt (x)))]) (rest := []) (o := some (1, 39)) rfl (w_fitR hR rfl) (cb_record (c_BALL_dn hB0) (n) (x) (i) (p) (q) hR (show 8 * i + 3 ≤ d by omega) ⟨by omega, by omega⟩ ⟨by omega, by omega⟩ (show 0 ≤ (I 1035) ∧ (I 1035) ≤ 10000 by (repeat' apply And.intro) <;> first | assumption | omega) (show c_ks A by exact (show c_bz I A I A p q (I 2503) from c_bz_refl).2.2.2.2 hKS) (show 36 ≤ (I 200) ∧ (I 200) ≤ 419 ∧ 0 ≤ (I 202) ∧ (I 202) ≤ 24 by (repeat' apply And.intro) <;> first | assumption | omega) (show ∀ i, (A 5) i ≤ 24 by rw [show (A 5) = (A 5) from (show c_bz I A I A p q (I 2503) from c_bz_refl).2.1 5 rfl]; exact hLN) (show 0 ≤ (I 2503) by omega) (show (I 2503) + 7000 * (i : Int) ≤ 1000000 by first | assumption | omega) (show c_W A i n p q by exact hW) (show (A 27) n = 5 by omega) (show 0 ≤ p ∧ q ≤ 3001 by first | assumption | omega)) (fun r67 M68 q69 => ?_)
    rcases q69 with ⟨I69a, A69a, B69a, C69a, e70, hR69a, f71, f72⟩
    rw [e70]
    replace hR69a : w_Rep w_TC fr X u l I69a A69a B69a C69a M68 := hR69a
    replace f71 : c_bz I A I69a A69a p q (I 2503) := f71
    replace f72 : (I69a 2503) = (I 2503) ∧ (0 ≤ (I69a 1035) ∧ (I69a 1035) ≤ 10000) ∧ (I69a 200) = (I 200) ∧ (I69a 202) = (I 202) := f72
    obtain ⟨n73, ⟨n74, n75⟩, n76, n77⟩ := id f72
    clear f72
    have bx78 : c_bz I A I69a A69a p q (I 2503) := c_bz_trans (show c_bz I A I A p q (I 2503) from c_bz_refl) f71 (Int.le_refl _) (Int.le_refl _) (show p ≤ p ∨ q ≤ p by omega) (show q ≤ q ∨ q ≤ p by omega) (Int.le_refl _) (show (I 2503) ≤ (I 2503) by omega)
    show w_W _ _ _ (154, [(3, .int (Int32.ofInt (v4))), (0, .ref 39), (1, .int (Int32.ofInt (n))), (2, .int (Int32.ofInt (x)))], [], M68) _
    refine w_adv (n := 1) (F' := (237, [(3, .int (Int32.ofInt (v4))), (0, .ref 39), (1, .int (Int32.ofInt (n))), (2, .int (Int32.ofInt (x)))], [], M68)) rfl ?_
    refine w_fin (r := .inl none) (M' := M68) rfl ?_
    exact ⟨I69a, A69a, B69a, C69a, rfl, hR69a, (show c_bz I A I69a A69a p q (I 2503) by exact bx78), (show (I69a 2503) = (I 2503) ∧ (0 ≤ (I69a 1035) ∧ (I69a 1035) ≤ 10000) ∧ (I69a 200) = (I 200) ∧ (I69a 202) = (I 202) by (repeat' apply And.intro) <;> first | assumption | omega)⟩
  · refine w_sw (v := 6) (F' := (237, [(3, .int (Int32.ofInt (v4))), (0, .ref 39), (1, .int (Int32.ofInt (n))), (2, .int (Int32.ofInt (x)))], [], M)) h19 rfl rfl ?_
    refine w_fin (r := .inl none) (M' := M) rfl ?_
    exact ⟨I, A, B, C, rfl, hR, (show c_bz I A I A p q (I 2503) by exact c_bz_refl), (show (I 2503) = (I 2503) ∧ (0 ≤ (I 1035) ∧ (I 1035) ≤ 10000) ∧ (I 200) = (I 200) ∧ (I 202) = (I 202) by (repeat' apply And.intro) <;> first | assumption | omega)⟩
  · refine w_sw (v := 7) (F' := (157, [(3, .int (Int32.ofInt (v4))), (0, .ref 39), (1, .int (Int32.ofInt (n))), (2, .int (Int32.ofInt (x)))], [], M)) h19 rfl rfl ?_
    refine w_adv (n := 3) (F' := (160, [(3, .int (Int32.ofInt (v4))), (0, .ref 39), (1, .int (Int32.ofInt (n))), (2, .int (Int32.ofInt (x)))], [.int (Int32.ofInt (x)), .int (Int32.ofInt (n)), .ref 39], M)) rfl ?_
    refine w_call (cm := 169) (as := [(0, .ref 39), (1, .int (Int32.ofInt (n))), (2, .int (Int32.ofInt (x)))]) (rest := []) (o := some (1, 39)) rfl (w_fitR hR rfl) (cb_pairs (c_BALL_dn hB0) (n) (x) (i) (p) (q) hR (show 8 * i + 3 ≤ d by omega) ⟨by omega, by omega⟩ ⟨by omega, by omega⟩ (show 0 ≤ (I 1035) ∧ (I 1035) ≤ 10000 by (repeat' apply And.intro) <;> first | assumption | omega) (show c_ks A by exact (show c_bz I A I A p q (I 2503) from c_bz_refl).2.2.2.2 hKS) (show 36 ≤ (I 200) ∧ (I 200) ≤ 419 ∧ 0 ≤ (I 202) ∧ (I 202) ≤ 24 by (repeat' apply And.intro) <;> first | assumption | omega) (show ∀ i, (A 5) i ≤ 24 by rw [show (A 5) = (A 5) from (show c_bz I A I A p q (I 2503) from c_bz_refl).2.1 5 rfl]; exact hLN) (show 0 ≤ (I 2503) by omega) (show (I 2503) + 7000 * (i : Int) ≤ 1000000 by first | assumption | omega) (show c_W A i n p q by exact hW) (show (A 27) n = 7 by omega) (show 0 ≤ p ∧ q ≤ 3001 by first | assumption | omega)) (fun r79 M80 q81 => ?_)
    rcases q81 with ⟨I81a, A81a, B81a, C81a, e82, hR81a, f83, f84⟩
    rw [e82]
    replace hR81a : w_Rep w_TC fr X u l I81a A81a B81a C81a M80 := hR81a
    replace f83 : c_bz I A I81a A81a p q (I 2503) := f83
    replace f84 : (I81a 2503) = (I 2503) ∧ (0 ≤ (I81a 1035) ∧ (I81a 1035) ≤ 10000) ∧ (I81a 200) = (I 200) ∧ (I81a 202) = (I 202) := f84
    obtain ⟨n85, ⟨n86, n87⟩, n88, n89⟩ := id f84
    clear f84
    have bx90 : c_bz I A I81a A81a p q (I 2503) := c_bz_trans (show c_bz I A I A p q (I 2503) from c_bz_refl) f83 (Int.le_refl _) (Int.le_refl _) (show p ≤ p ∨ q ≤ p by omega) (show q ≤ q ∨ q ≤ p by omega) (Int.le_refl _) (show (I 2503) ≤ (I 2503) by omega)
    show w_W _ _ _ (163, [(3, .int (Int32.ofInt (v4))), (0, .ref 39), (1, .int (Int32.ofInt (n))), (2, .int (Int32.ofInt (x)))], [], M80) _
    refine w_adv (n := 1) (F' := (237, [(3, .int (Int32.ofInt (v4))), (0, .ref 39), (1, .int (Int32.ofInt (n))), (2, .int (Int32.ofInt (x)))], [], M80)) rfl ?_
    refine w_fin (r := .inl none) (M' := M80) rfl ?_
    exact ⟨I81a, A81a, B81a, C81a, rfl, hR81a, (show c_bz I A I81a A81a p q (I 2503) by exact bx90), (show (I81a 2503) = (I 2503) ∧ (0 ≤ (I81a 1035) ∧ (I81a 1035) ≤ 10000) ∧ (I81a 200) = (I 200) ∧ (I81a 202) = (I 202) by (repeat' apply And.intro) <;> first | assumption | omega)⟩
  · refine w_sw (v := 8) (F' := (166, [(3, .int (Int32.ofInt (v4))), (0, .ref 39), (1, .int (Int32.ofInt (n))), (2, .int (Int32.ofInt (x)))], [], M)) h19 rfl rfl ?_
    refine w_adv (n := 3) (F' := (169, [(3, .int (Int32.ofInt (v4))), (0, .ref 39), (1, .int (Int32.ofInt (n))), (2, .int (Int32.ofInt (x)))], [.int (Int32.ofInt (x)), .int (Int32.ofInt (n)), .ref 39], M)) rfl ?_
    refine w_call (cm := 170) (as := [(0, .ref 39), (1, .int (Int32.ofInt (n))), (2, .int (Int32.ofInt (x)))]) (rest := []) (o := some (1, 39)) rfl (w_fitR hR rfl) (cb_operations (c_BALL_dn hB0) (n) (x) (i) (p) (q) hR (show 8 * i + 3 ≤ d by omega) ⟨by omega, by omega⟩ ⟨by omega, by omega⟩ (show 0 ≤ (I 1035) ∧ (I 1035) ≤ 10000 by (repeat' apply And.intro) <;> first | assumption | omega) (show c_ks A by exact (show c_bz I A I A p q (I 2503) from c_bz_refl).2.2.2.2 hKS) (show 36 ≤ (I 200) ∧ (I 200) ≤ 419 ∧ 0 ≤ (I 202) ∧ (I 202) ≤ 24 by (repeat' apply And.intro) <;> first | assumption | omega) (show ∀ i, (A 5) i ≤ 24 by rw [show (A 5) = (A 5) from (show c_bz I A I A p q (I 2503) from c_bz_refl).2.1 5 rfl]; exact hLN) (show 0 ≤ (I 2503) by omega) (show (I 2503) + 7000 * (i : Int) ≤ 1000000 by first | assumption | omega) (show c_W A i n p q by exact hW) (show (A 27) n = 8 ∨ (A 27) n = 9 by omega) (show 0 ≤ p ∧ q ≤ 3001 by first | assumption | omega)) (fun r91 M92 q93 => ?_)
    rcases q93 with ⟨I93a, A93a, B93a, C93a, e94, hR93a, f95, f96⟩
    rw [e94]
    replace hR93a : w_Rep w_TC fr X u l I93a A93a B93a C93a M92 := hR93a
    replace f95 : c_bz I A I93a A93a p q (I 2503) := f95
    replace f96 : (I93a 2503) = (I 2503) ∧ (0 ≤ (I93a 1035) ∧ (I93a 1035) ≤ 10000) ∧ (I93a 200) = (I 200) ∧ (I93a 202) = (I 202) := f96
    obtain ⟨n97, ⟨n98, n99⟩, n100, n101⟩ := id f96
    clear f96
    have bx102 : c_bz I A I93a A93a p q (I 2503) := c_bz_trans (show c_bz I A I A p q (I 2503) from c_bz_refl) f95 (Int.le_refl _) (Int.le_refl _) (show p ≤ p ∨ q ≤ p by omega) (show q ≤ q ∨ q ≤ p by omega) (Int.le_refl _) (show (I 2503) ≤ (I 2503) by omega)
    show w_W _ _ _ (172, [(3, .int (Int32.ofInt (v4))), (0, .ref 39), (1, .int (Int32.ofInt (n))), (2, .int (Int32.ofInt (x)))], [], M92) _
    refine w_adv (n := 1) (F' := (237, [(3, .int (Int32.ofInt (v4))), (0, .ref 39), (1, .int (Int32.ofInt (n))), (2, .int (Int32.ofInt (x)))], [], M92)) rfl ?_
    refine w_fin (r := .inl none) (M' := M92) rfl ?_
    exact ⟨I93a, A93a, B93a, C93a, rfl, hR93a, (show c_bz I A I93a A93a p q (I 2503) by exact bx102), (show (I93a 2503) = (I 2503) ∧ (0 ≤ (I93a 1035) ∧ (I93a 1035) ≤ 10000) ∧ (I93a 200) = (I 200) ∧ (I93a 202) = (I 202) by (repeat' apply And.intro) <;> first | assumption | omega)⟩
  · refine w_sw (v := 9) (F' := (166, [(3, .int (Int32.ofInt (v4))), (0, .ref 39), (1, .int (Int32.ofInt (n))), (2, .int (Int32.ofInt (x)))], [], M)) h19 rfl rfl ?_
    refine w_adv (n := 3) (F' := (169, [(3, .int (Int32.ofInt (v4))), (0, .ref 39), (1, .int (Int32.ofInt (n))), (2, .int (Int32.ofInt (x)))], [.int (Int32.ofInt (x)), .int (Int32.ofInt (n)), .ref 39], M)) rfl ?_
    refine w_call (cm := 170) (as := [(0, .ref 39), (1, .int (Int32.ofInt (n))), (2, .int (Int32.ofInt (x)))]) (rest := []) (o := some (1, 39)) rfl (w_fitR hR rfl) (cb_operations (c_BALL_dn hB0) (n) (x) (i) (p) (q) hR (show 8 * i + 3 ≤ d by omega) ⟨by omega, by omega⟩ ⟨by omega, by omega⟩ (show 0 ≤ (I 1035) ∧ (I 1035) ≤ 10000 by (repeat' apply And.intro) <;> first | assumption | omega) (show c_ks A by exact (show c_bz I A I A p q (I 2503) from c_bz_refl).2.2.2.2 hKS) (show 36 ≤ (I 200) ∧ (I 200) ≤ 419 ∧ 0 ≤ (I 202) ∧ (I 202) ≤ 24 by (repeat' apply And.intro) <;> first | assumption | omega) (show ∀ i, (A 5) i ≤ 24 by rw [show (A 5) = (A 5) from (show c_bz I A I A p q (I 2503) from c_bz_refl).2.1 5 rfl]; exact hLN) (show 0 ≤ (I 2503) by omega) (show (I 2503) + 7000 * (i : Int) ≤ 1000000 by first | assumption | omega) (show c_W A i n p q by exact hW) (show (A 27) n = 8 ∨ (A 27) n = 9 by omega) (show 0 ≤ p ∧ q ≤ 3001 by first | assumption | omega)) (fun r103 M104 q105 => ?_)
    rcases q105 with ⟨I105a, A105a, B105a, C105a, e106, hR105a, f107, f108⟩
    rw [e106]
    replace hR105a : w_Rep w_TC fr X u l I105a A105a B105a C105a M104 := hR105a
    replace f107 : c_bz I A I105a A105a p q (I 2503) := f107
    replace f108 : (I105a 2503) = (I 2503) ∧ (0 ≤ (I105a 1035) ∧ (I105a 1035) ≤ 10000) ∧ (I105a 200) = (I 200) ∧ (I105a 202) = (I 202) := f108
    obtain ⟨n109, ⟨n110, n111⟩, n112, n113⟩ := id f108
    clear f108
    have bx114 : c_bz I A I105a A105a p q (I 2503) := c_bz_trans (show c_bz I A I A p q (I 2503) from c_bz_refl) f107 (Int.le_refl _) (Int.le_refl _) (show p ≤ p ∨ q ≤ p by omega) (show q ≤ q ∨ q ≤ p by omega) (Int.le_refl _) (show (I 2503) ≤ (I 2503) by omega)
    show w_W _ _ _ (172, [(3, .int (Int32.ofInt (v4))), (0, .ref 39), (1, .int (Int32.ofInt (n))), (2, .int (Int32.ofInt (x)))], [], M104) _
    refine w_adv (n := 1) (F' := (237, [(3, .int (Int32.ofInt (v4))), (0, .ref 39), (1, .int (Int32.ofInt (n))), (2, .int (Int32.ofInt (x)))], [], M104)) rfl ?_
    refine w_fin (r := .inl none) (M' := M104) rfl ?_
    exact ⟨I105a, A105a, B105a, C105a, rfl, hR105a, (show c_bz I A I105a A105a p q (I 2503) by exact bx114), (show (I105a 2503) = (I 2503) ∧ (0 ≤ (I105a 1035) ∧ (I105a 1035) ≤ 10000) ∧ (I105a 200) = (I 200) ∧ (I105a 202) = (I 202) by (repeat' apply And.intro) <;> first | assumption | omega)⟩
  · refine w_sw (v := 10) (F' := (175, [(3, .int (Int32.ofInt (v4))), (0, .ref 39), (1, .int (Int32.ofInt (n))), (2, .int (Int32.ofInt (x)))], [], M)) h19 rfl rfl ?_
    refine w_adv (n := 3) (F' := (178, [(3, .int (Int32.ofInt (v4))), (0, .ref 39), (1, .int (Int32.ofInt (n))), (2, .int (Int32.ofInt (x)))], [.int (Int32.ofInt (x)), .int (Int32.ofInt (n)), .ref 39], M)) rfl ?_
    refine w_call (cm := 176) (as := [(0, .ref 39), (1, .int (Int32.ofInt (n))), (2, .int (Int32.ofInt (x)))]) (rest := []) (o := some (1, 39)) rfl (w_fitR hR rfl) (cb_apply (c_BALL_dn hB0) (n) (x) (i) (p) (q) hR (show 8 * i + 3 ≤ d by omega) ⟨by omega, by omega⟩ ⟨by omega, by omega⟩ (show 0 ≤ (I 1035) ∧ (I 1035) ≤ 10000 by (repeat' apply And.intro) <;> first | assumption | omega) (show c_ks A by exact (show c_bz I A I A p q (I 2503) from c_bz_refl).2.2.2.2 hKS) (show 36 ≤ (I 200) ∧ (I 200) ≤ 419 ∧ 0 ≤ (I 202) ∧ (I 202) ≤ 24 by (repeat' apply And.intro) <;> first | assumption | omega) (show ∀ i, (A 5) i ≤ 24 by rw [show (A 5) = (A 5) from (show c_bz I A I A p q (I 2503) from c_bz_refl).2.1 5 rfl]; exact hLN) (show 0 ≤ (I 2503) by omega) (show (I 2503) + 7000 * (i : Int) ≤ 1000000 by first | assumption | omega) (show c_W A i n p q by exact hW) (show (A 27) n = 10 by omega) (show 0 ≤ p ∧ q ≤ 3001 by first | assumption | omega)) (fun r115 M116 q117 => ?_)
    rcases q117 with ⟨I117a, A117a, B117a, C117a, e118, hR117a, f119, f120⟩
    rw [e118]
    replace hR117a : w_Rep w_TC fr X u l I117a A117a B117a C117a M116 := hR117a
    replace f119 : c_bz I A I117a A117a p q (I 2503) := f119
    replace f120 : (I117a 2503) = (I 2503) ∧ (0 ≤ (I117a 1035) ∧ (I117a 1035) ≤ 10000) ∧ (I117a 200) = (I 200) ∧ (I117a 202) = (I 202) := f120
    obtain ⟨n121, ⟨n122, n123⟩, n124, n125⟩ := id f120
    clear f120
    have bx126 : c_bz I A I117a A117a p q (I 2503) := c_bz_trans (show c_bz I A I A p q (I 2503) from c_bz_refl) f119 (Int.le_refl _) (Int.le_refl _) (show p ≤ p ∨ q ≤ p by omega) (show q ≤ q ∨ q ≤ p by omega) (Int.le_refl _) (show (I 2503) ≤ (I 2503) by omega)
    show w_W _ _ _ (181, [(3, .int (Int32.ofInt (v4))), (0, .ref 39), (1, .int (Int32.ofInt (n))), (2, .int (Int32.ofInt (x)))], [], M116) _
    refine w_adv (n := 1) (F' := (237, [(3, .int (Int32.ofInt (v4))), (0, .ref 39), (1, .int (Int32.ofInt (n))), (2, .int (Int32.ofInt (x)))], [], M116)) rfl ?_
    refine w_fin (r := .inl none) (M' := M116) rfl ?_
    exact ⟨I117a, A117a, B117a, C117a, rfl, hR117a, (show c_bz I A I117a A117a p q (I 2503) by exact bx126), (show (I117a 2503) = (I 2503) ∧ (0 ≤ (I117a 1035) ∧ (I117a 1035) ≤ 10000) ∧ (I117a 200) = (I 200) ∧ (I117a 202) = (I 202) by (repeat' apply And.intro) <;> first | assumption | omega)⟩
  · refine w_sw (v := 11) (F' := (184, [(3, .int (Int32.ofInt (v4))), (0, .ref 39), (1, .int (Int32.ofInt (n))), (2, .int (Int32.ofInt (x)))], [], M)) h19 rfl rfl ?_
    refine w_adv (n := 3) (F' := (187, [(3, .int (Int32.ofInt (v4))), (0, .ref 39), (1, .int (Int32.ofInt (n))), (2, .int (Int32.ofInt (x)))], [.int (Int32.ofInt (x)), .int (Int32.ofInt (n)), .ref 39], M)) rfl ?_
    refine w_call (cm := 178) (as := [(0, .ref 39), (1, .int (Int32.ofInt (n))), (2, .int (Int32.ofInt (x)))]) (rest := []) (o := some (1, 39)) rfl (w_fitR hR rfl) (cb_procedure (c_BALL_dn hB0) (n) (x) (i) (p) (q) hR (show 8 * i + 3 ≤ d by omega) ⟨by omega, by omega⟩ ⟨by omega, by omega⟩ (show 0 ≤ (I 1035) ∧ (I 1035) ≤ 10000 by (repeat' apply And.intro) <;> first | assumption | omega) (show c_ks A by exact (show c_bz I A I A p q (I 2503) from c_bz_refl).2.2.2.2 hKS) (show 36 ≤ (I 200) ∧ (I 200) ≤ 419 ∧ 0 ≤ (I 202) ∧ (I 202) ≤ 24 by (repeat' apply And.intro) <;> first | assumption | omega) (show ∀ i, (A 5) i ≤ 24 by rw [show (A 5) = (A 5) from (show c_bz I A I A p q (I 2503) from c_bz_refl).2.1 5 rfl]; exact hLN) (show 0 ≤ (I 2503) by omega) (show (I 2503) + 7000 * (i : Int) ≤ 1000000 by first | assumption | omega) (show c_W A i n p q by exact hW) (show (A 27) n = 11 ∨ (A 27) n = 12 by omega) (show 0 ≤ p ∧ q ≤ 3001 by first | assumption | omega)) (fun r127 M128 q129 => ?_)
    rcases q129 with ⟨I129a, A129a, B129a, C129a, e130, hR129a, f131, f132⟩
    rw [e130]
    replace hR129a : w_Rep w_TC fr X u l I129a A129a B129a C129a M128 := hR129a
    replace f131 : c_bz I A I129a A129a p q (I 2503) := f131
    replace f132 : (I129a 2503) = (I 2503) ∧ (0 ≤ (I129a 1035) ∧ (I129a 1035) ≤ 10000) ∧ (I129a 200) = (I 200) ∧ (I129a 202) = (I 202) := f132
    obtain ⟨n133, ⟨n134, n135⟩, n136, n137⟩ := id f132
    clear f132
    have bx138 : c_bz I A I129a A129a p q (I 2503) := c_bz_trans (show c_bz I A I A p q (I 2503) from c_bz_refl) f131 (Int.le_refl _) (Int.le_refl _) (show p ≤ p ∨ q ≤ p by omega) (show q ≤ q ∨ q ≤ p by omega) (Int.le_refl _) (show (I 2503) ≤ (I 2503) by omega)
    show w_W _ _ _ (190, [(3, .int (Int32.ofInt (v4))), (0, .ref 39), (1, .int (Int32.ofInt (n))), (2, .int (Int32.ofInt (x)))], [], M128) _
    refine w_adv (n := 1) (F' := (237, [(3, .int (Int32.ofInt (v4))), (0, .ref 39), (1, .int (Int32.ofInt (n))), (2, .int (Int32.ofInt (x)))], [], M128)) rfl ?_
    refine w_fin (r := .inl none) (M' := M128) rfl ?_
    exact ⟨I129a, A129a, B129a, C129a, rfl, hR129a, (show c_bz I A I129a A129a p q (I 2503) by exact bx138), (show (I129a 2503) = (I 2503) ∧ (0 ≤ (I129a 1035) ∧ (I129a 1035) ≤ 10000) ∧ (I129a 200) = (I 200) ∧ (I129a 202) = (I 202) by (repeat' apply And.intro) <;> first | assumption | omega)⟩
  · refine w_sw (v := 12) (F' := (184, [(3, .int (Int32.ofInt (v4))), (0, .ref 39), (1, .int (Int32.ofInt (n))), (2, .int (Int32.ofInt (x)))], [], M)) h19 rfl rfl ?_
    refine w_adv (n := 3) (F' := (187, [(3, .int (Int32.ofInt (v4))), (0, .ref 39), (1, .int (Int32.ofInt (n))), (2, .int (Int32.ofInt (x)))], [.int (Int32.ofInt (x)), .int (Int32.ofInt (n)), .ref 39], M)) rfl ?_
    refine w_call (cm := 178) (as := [(0, .ref 39), (1, .int (Int32.ofInt (n))), (2, .int (Int32.ofInt (x)))]) (rest := []) (o := some (1, 39)) rfl (w_fitR hR rfl) (cb_procedure (c_BALL_dn hB0) (n) (x) (i) (p) (q) hR (show 8 * i + 3 ≤ d by omega) ⟨by omega, by omega⟩ ⟨by omega, by omega⟩ (show 0 ≤ (I 1035) ∧ (I 1035) ≤ 10000 by (repeat' apply And.intro) <;> first | assumption | omega) (show c_ks A by exact (show c_bz I A I A p q (I 2503) from c_bz_refl).2.2.2.2 hKS) (show 36 ≤ (I 200) ∧ (I 200) ≤ 419 ∧ 0 ≤ (I 202) ∧ (I 202) ≤ 24 by (repeat' apply And.intro) <;> first | assumption | omega) (show ∀ i, (A 5) i ≤ 24 by rw [show (A 5) = (A 5) from (show c_bz I A I A p q (I 2503) from c_bz_refl).2.1 5 rfl]; exact hLN) (show 0 ≤ (I 2503) by omega) (show (I 2503) + 7000 * (i : Int) ≤ 1000000 by first | assumption | omega) (show c_W A i n p q by exact hW) (show (A 27) n = 11 ∨ (A 27) n = 12 by omega) (show 0 ≤ p ∧ q ≤ 3001 by first | assumption | omega)) (fun r139 M140 q141 => ?_)
    rcases q141 with ⟨I141a, A141a, B141a, C141a, e142, hR141a, f143, f144⟩
    rw [e142]
    replace hR141a : w_Rep w_TC fr X u l I141a A141a B141a C141a M140 := hR141a
    replace f143 : c_bz I A I141a A141a p q (I 2503) := f143
    replace f144 : (I141a 2503) = (I 2503) ∧ (0 ≤ (I141a 1035) ∧ (I141a 1035) ≤ 10000) ∧ (I141a 200) = (I 200) ∧ (I141a 202) = (I 202) := f144
    obtain ⟨n145, ⟨n146, n147⟩, n148, n149⟩ := id f144
    clear f144
    have bx150 : c_bz I A I141a A141a p q (I 2503) := c_bz_trans (show c_bz I A I A p q (I 2503) from c_bz_refl) f143 (Int.le_refl _) (Int.le_refl _) (show p ≤ p ∨ q ≤ p by omega) (show q ≤ q ∨ q ≤ p by omega) (Int.le_refl _) (show (I 2503) ≤ (I 2503) by omega)
    show w_W _ _ _ (190, [(3, .int (Int32.ofInt (v4))), (0, .ref 39), (1, .int (Int32.ofInt (n))), (2, .int (Int32.ofInt (x)))], [], M140) _
    refine w_adv (n := 1) (F' := (237, [(3, .int (Int32.ofInt (v4))), (0, .ref 39), (1, .int (Int32.ofInt (n))), (2, .int (Int32.ofInt (x)))], [], M140)) rfl ?_
    refine w_fin (r := .inl none) (M' := M140) rfl ?_
    exact ⟨I141a, A141a, B141a, C141a, rfl, hR141a, (show c_bz I A I141a A141a p q (I 2503) by exact bx150), (show (I141a 2503) = (I 2503) ∧ (0 ≤ (I141a 1035) ∧ (I141a 1035) ≤ 10000) ∧ (I141a 200) = (I 200) ∧ (I141a 202) = (I 202) by (repeat' apply And.intro) <;> first | assumption | omega)⟩
  · refine w_sw (v := 13) (F' := (193, [(3, .int (Int32.ofInt (v4))), (0, .ref 39), (1, .int (Int32.ofInt (n))), (2, .int (Int32.ofInt (x)))], [], M)) h19 rfl rfl ?_
    refine w_adv (n := 3) (F' := (196, [(3, .int (Int32.ofInt (v4))), (0, .ref 39), (1, .int (Int32.ofInt (n))), (2, .int (Int32.ofInt (x)))], [.int (Int32.ofInt (x)), .int (Int32.ofInt (n)), .ref 39], M)) rfl ?_
    refine w_call (cm := 182) (as := [(0, .ref 39), (1, .int (Int32.ofInt (n))), (2, .int (Int32.ofInt (x)))]) (rest := []) (o := some (1, 39)) rfl (w_fitR hR rfl) (cb_local (c_BALL_dn hB0) (n) (x) (i) (p) (q) hR (show 8 * i + 3 ≤ d by omega) ⟨by omega, by omega⟩ ⟨by omega, by omega⟩ (show 0 ≤ (I 1035) ∧ (I 1035) ≤ 10000 by (repeat' apply And.intro) <;> first | assumption | omega) (show c_ks A by exact (show c_bz I A I A p q (I 2503) from c_bz_refl).2.2.2.2 hKS) (show 36 ≤ (I 200) ∧ (I 200) ≤ 419 ∧ 0 ≤ (I 202) ∧ (I 202) ≤ 24 by (repeat' apply And.intro) <;> first | assumption | omega) (show ∀ i, (A 5) i ≤ 24 by rw [show (A 5) = (A 5) from (show c_bz I A I A p q (I 2503) from c_bz_refl).2.1 5 rfl]; exact hLN) (show 0 ≤ (I 2503) by omega) (show (I 2503) + 7000 * (i : Int) ≤ 1000000 by first | assumption | omega) (show c_W A i n p q by exact hW) (show (A 27) n = 13 by omega) (show 0 ≤ p ∧ q ≤ 3001 by first | assumption | omega)) (fun r151 M152 q153 => ?_)
    rcases q153 with ⟨I153a, A153a, B153a, C153a, e154, hR153a, f155, f156⟩
    rw [e154]
    replace hR153a : w_Rep w_TC fr X u l I153a A153a B153a C153a M152 := hR153a
    replace f155 : c_bz I A I153a A153a p q (I 2503) := f155
    replace f156 : (I153a 2503) = (I 2503) ∧ (0 ≤ (I153a 1035) ∧ (I153a 1035) ≤ 10000) ∧ (I153a 200) = (I 200) ∧ (I153a 202) = (I 202) := f156
    obtain ⟨n157, ⟨n158, n159⟩, n160, n161⟩ := id f156
    clear f156
    have bx162 : c_bz I A I153a A153a p q (I 2503) := c_bz_trans (show c_bz I A I A p q (I 2503) from c_bz_refl) f155 (Int.le_refl _) (Int.le_refl _) (show p ≤ p ∨ q ≤ p by omega) (show q ≤ q ∨ q ≤ p by omega) (Int.le_refl _) (show (I 2503) ≤ (I 2503) by omega)
    show w_W _ _ _ (199, [(3, .int (Int32.ofInt (v4))), (0, .ref 39), (1, .int (Int32.ofInt (n))), (2, .int (Int32.ofInt (x)))], [], M152) _
    refine w_adv (n := 1) (F' := (237, [(3, .int (Int32.ofInt (v4))), (0, .ref 39), (1, .int (Int32.ofInt (n))), (2, .int (Int32.ofInt (x)))], [], M152)) rfl ?_
    refine w_fin (r := .inl none) (M' := M152) rfl ?_
    exact ⟨I153a, A153a, B153a, C153a, rfl, hR153a, (show c_bz I A I153a A153a p q (I 2503) by exact bx162), (show (I153a 2503) = (I 2503) ∧ (0 ≤ (I153a 1035) ∧ (I153a 1035) ≤ 10000) ∧ (I153a 200) = (I 200) ∧ (I153a 202) = (I 202) by (repeat' apply And.intro) <;> first | assumption | omega)⟩
  · refine w_sw (v := 14) (F' := (202, [(3, .int (Int32.ofInt (v4))), (0, .ref 39), (1, .int (Int32.ofInt (n))), (2, .int (Int32.ofInt (x)))], [], M)) h19 rfl rfl ?_
    refine w_adv (n := 3) (F' := (205, [(3, .int (Int32.ofInt (v4))), (0, .ref 39), (1, .int (Int32.ofInt (n))), (2, .int (Int32.ofInt (x)))], [.int (Int32.ofInt (x)), .int (Int32.ofInt (n)), .ref 39], M)) rfl ?_
    refine w_call (cm := 183) (as := [(0, .ref 39), (1, .int (Int32.ofInt (n))), (2, .int (Int32.ofInt (x)))]) (rest := []) (o := some (1, 39)) rfl (w_fitR hR rfl) (cb_choice (c_BALL_dn hB0) (n) (x) (i) (p) (q) hR (show 8 * i + 3 ≤ d by omega) ⟨by omega, by omega⟩ ⟨by omega, by omega⟩ (show 0 ≤ (I 1035) ∧ (I 1035) ≤ 10000 by (repeat' apply And.intro) <;> first | assumption | omega) (show c_ks A by exact (show c_bz I A I A p q (I 2503) from c_bz_refl).2.2.2.2 hKS) (show 36 ≤ (I 200) ∧ (I 200) ≤ 419 ∧ 0 ≤ (I 202) ∧ (I 202) ≤ 24 by (repeat' apply And.intro) <;> first | assumption | omega) (show ∀ i, (A 5) i ≤ 24 by rw [show (A 5) = (A 5) from (show c_bz I A I A p q (I 2503) from c_bz_refl).2.1 5 rfl]; exact hLN) (show 0 ≤ (I 2503) by omega) (show (I 2503) + 7000 * (i : Int) ≤ 1000000 by first | assumption | omega) (show c_W A i n p q by exact hW) (show (A 27) n = 14 by omega) (show 0 ≤ p ∧ q ≤ 3001 by first | assumption | omega)) (fun r163 M164 q165 => ?_)
    rcases q165 with ⟨I165a, A165a, B165a, C165a, e166, hR165a, f167, f168⟩
    rw [e166]
    replace hR165a : w_Rep w_TC fr X u l I165a A165a B165a C165a M164 := hR165a
    replace f167 : c_bz I A I165a A165a p q (I 2503) := f167
    replace f168 : (I165a 2503) = (I 2503) ∧ (0 ≤ (I165a 1035) ∧ (I165a 1035) ≤ 10000) ∧ (I165a 200) = (I 200) ∧ (I165a 202) = (I 202) := f168
    obtain ⟨n169, ⟨n170, n171⟩, n172, n173⟩ := id f168
    clear f168
    have bx174 : c_bz I A I165a A165a p q (I 2503) := c_bz_trans (show c_bz I A I A p q (I 2503) from c_bz_refl) f167 (Int.le_refl _) (Int.le_refl _) (show p ≤ p ∨ q ≤ p by omega) (show q ≤ q ∨ q ≤ p by omega) (Int.le_refl _) (show (I 2503) ≤ (I 2503) by omega)
    show w_W _ _ _ (208, [(3, .int (Int32.ofInt (v4))), (0, .ref 39), (1, .int (Int32.ofInt (n))), (2, .int (Int32.ofInt (x)))], [], M164) _
    refine w_adv (n := 1) (F' := (237, [(3, .int (Int32.ofInt (v4))), (0, .ref 39), (1, .int (Int32.ofInt (n))), (2, .int (Int32.ofInt (x)))], [], M164)) rfl ?_
    refine w_fin (r := .inl none) (M' := M164) rfl ?_
    exact ⟨I165a, A165a, B165a, C165a, rfl, hR165a, (show c_bz I A I165a A165a p q (I 2503) by exact bx174), (show (I165a 2503) = (I 2503) ∧ (0 ≤ (I165a 1035) ∧ (I165a 1035) ≤ 10000) ∧ (I165a 200) = (I 200) ∧ (I165a 202) = (I 202) by (repeat' apply And.intro) <;> first | assumption | omega)⟩
  · refine w_sw (v := 15) (F' := (211, [(3, .int (Int32.ofInt (v4))), (0, .ref 39), (1, .int (Int32.ofInt (n))), (2, .int (Int32.ofInt (x)))], [], M)) h19 rfl rfl ?_
    refine w_adv (n := 3) (F' := (214, [(3, .int (Int32.ofInt (v4))), (0, .ref 39), (1, .int (Int32.ofInt (n))), (2, .int (Int32.ofInt (x)))], [.int (Int32.ofInt (x)), .int (Int32.ofInt (n)), .ref 39], M)) rfl ?_
    refine w_call (cm := 184) (as := [(0, .ref 39), (1, .int (Int32.ofInt (n))), (2, .int (Int32.ofInt (x)))]) (rest := []) (o := some (1, 39)) rfl (w_fitR hR rfl) (cb_cases (c_BALL_dn hB0) (n) (x) (i) (p) (q) hR (show 8 * i + 3 ≤ d by omega) ⟨by omega, by omega⟩ ⟨by omega, by omega⟩ (show 0 ≤ (I 1035) ∧ (I 1035) ≤ 10000 by (repeat' apply And.intro) <;> first | assumption | omega) (show c_ks A by exact (show c_bz I A I A p q (I 2503) from c_bz_refl).2.2.2.2 hKS) (show 36 ≤ (I 200) ∧ (I 200) ≤ 419 ∧ 0 ≤ (I 202) ∧ (I 202) ≤ 24 by (repeat' apply And.intro) <;> first | assumption | omega) (show ∀ i, (A 5) i ≤ 24 by rw [show (A 5) = (A 5) from (show c_bz I A I A p q (I 2503) from c_bz_refl).2.1 5 rfl]; exact hLN) (show 0 ≤ (I 2503) by omega) (show (I 2503) + 7000 * (i : Int) ≤ 1000000 by first | assumption | omega) (show c_W A i n p q by exact hW) (show (A 27) n = 15 by omega) (show 0 ≤ p ∧ q ≤ 3001 by first | assumption | omega)) (fun r175 M176 q177 => ?_)
    rcases q177 with ⟨I177a, A177a, B177a, C177a, e178, hR177a, f179, f180⟩
    rw [e178]
    replace hR177a : w_Rep w_TC fr X u l I177a A177a B177a C177a M176 := hR177a
    replace f179 : c_bz I A I177a A177a p q (I 2503) := f179
    replace f180 : (I177a 2503) = (I 2503) ∧ (0 ≤ (I177a 1035) ∧ (I177a 1035) ≤ 10000) ∧ (I177a 200) = (I 200) ∧ (I177a 202) = (I 202) := f180
    obtain ⟨n181, ⟨n182, n183⟩, n184, n185⟩ := id f180
    clear f180
    have bx186 : c_bz I A I177a A177a p q (I 2503) := c_bz_trans (show c_bz I A I A p q (I 2503) from c_bz_refl) f179 (Int.le_refl _) (Int.le_refl _) (show p ≤ p ∨ q ≤ p by omega) (show q ≤ q ∨ q ≤ p by omega) (Int.le_refl _) (show (I 2503) ≤ (I 2503) by omega)
    show w_W _ _ _ (217, [(3, .int (Int32.ofInt (v4))), (0, .ref 39), (1, .int (Int32.ofInt (n))), (2, .int (Int32.ofInt (x)))], [], M176) _
    refine w_adv (n := 1) (F' := (237, [(3, .int (Int32.ofInt (v4))), (0, .ref 39), (1, .int (Int32.ofInt (n))), (2, .int (Int32.ofInt (x)))], [], M176)) rfl ?_
    refine w_fin (r := .inl none) (M' := M176) rfl ?_
    exact ⟨I177a, A177a, B177a, C177a, rfl, hR177a, (show c_bz I A I177a A177a p q (I 2503) by exact bx186), (show (I177a 2503) = (I 2503) ∧ (0 ≤ (I177a 1035) ∧ (I177a 1035) ≤ 10000) ∧ (I177a 200) = (I 200) ∧ (I177a 202) = (I 202) by (repeat' apply And.intro) <;> first | assumption | omega)⟩
  · refine w_sw (v := 16) (F' := (237, [(3, .int (Int32.ofInt (v4))), (0, .ref 39), (1, .int (Int32.ofInt (n))), (2, .int (Int32.ofInt (x)))], [], M)) h19 rfl rfl ?_
    refine w_fin (r := .inl none) (M' := M) rfl ?_
    exact ⟨I, A, B, C, rfl, hR, (show c_bz I A I A p q (I 2503) by exact c_bz_refl), (show (I 2503) = (I 2503) ∧ (0 ≤ (I 1035) ∧ (I 1035) ≤ 10000) ∧ (I 200) = (I 200) ∧ (I 202) = (I 202) by (repeat' apply And.intro) <;> first | assumption | omega)⟩
  · refine w_sw (v := 17) (F' := (237, [(3, .int (Int32.ofInt (v4))), (0, .ref 39), (1, .int (Int32.ofInt (n))), (2, .int (Int32.ofInt (x)))], [], M)) h19 rfl rfl ?_
    refine w_fin (r := .inl none) (M' := M) rfl ?_
    exact ⟨I, A, B, C, rfl, hR, (show c_bz I A I A p q (I 2503) by exact c_bz_refl), (show (I 2503) = (I 2503) ∧ (0 ≤ (I 1035) ∧ (I 1035) ≤ 10000) ∧ (I 200) = (I 200) ∧ (I 202) = (I 202) by (repeat' apply And.intro) <;> first | assumption | omega)⟩
  · refine w_sw (v := 18) (F' := (237, [(3, .int (Int32.ofInt (v4))), (0, .ref 39), (1, .int (Int32.ofInt (n))), (2, .int (Int32.ofInt (x)))], [], M)) h19 rfl rfl ?_
    refine w_fin (r := .inl none) (M' := M) rfl ?_
    exact ⟨I, A, B, C, rfl, hR, (show c_bz I A I A p q (I 2503) by exact c_bz_refl), (show (I 2503) = (I 2503) ∧ (0 ≤ (I 1035) ∧ (I 1035) ≤ 10000) ∧ (I 200) = (I 200) ∧ (I 202) = (I 202) by (repeat' apply And.intro) <;> first | assumption | omega)⟩
  · refine w_sw (v := 19) (F' := (220, [(3, .int (Int32.ofInt (v4))), (0, .ref 39), (1, .int (Int32.ofInt (n))), (2, .int (Int32.ofInt (x)))], [], M)) h19 rfl rfl ?_
    have hbt : c_Bd A (c_W A j) (A 28 n) p n := hW1.2.2.k19 (by omega)
    refine w_adv (n := 6) (F' := (227, [(3, .int (Int32.ofInt (v4))), (0, .ref 39), (1, .int (Int32.ofInt (n))), (2, .int (Int32.ofInt (x)))], [.int (Int32.ofInt (x)), .int (Int32.ofInt (v4)), .ref 39, .int (Int32.ofInt ((-1))), .int (Int32.ofInt (14)), .ref 39], M)) rfl ?_
    refine w_call (cm := 144) (as := [(0, .ref 39), (1, .int (Int32.ofInt (v4))), (2, .int (Int32.ofInt (x)))]) (rest := [.int (Int32.ofInt ((-1))), .int (Int32.ofInt (14)), .ref 39]) (o := some (1, 39)) rfl (w_fitR hR rfl) (c_body (c_BALL_dn hB0) (v4) (x) (j) (p) (n) hR (show 8 * j + 7 ≤ d by omega) ⟨by omega, by omega⟩ ⟨by omega, by omega⟩ (show 0 ≤ (I 1035) ∧ (I 1035) ≤ 10000 by (repeat' apply And.intro) <;> first | assumption | omega) (show c_ks A by exact (show c_bz I A I A p q (I 2503) from c_bz_refl).2.2.2.2 hKS) (show 36 ≤ (I 200) ∧ (I 200) ≤ 419 ∧ 0 ≤ (I 202) ∧ (I 202) ≤ 24 by (repeat' apply And.intro) <;> first | assumption | omega) (show ∀ i, (A 5) i ≤ 24 by rw [show (A 5) = (A 5) from (show c_bz I A I A p q (I 2503) from c_bz_refl).2.1 5 rfl]; exact hLN) (show 0 ≤ (I 2503) by omega) (show (I 2503) + 7000 * (j : Int) ≤ 1000000 by first | assumption | omega) (show c_Bd A (c_W A j) v4 p n by rw [ev4]; exact hbt) (show 0 ≤ p ∧ n ≤ 3002 by first | assumption | omega)) (fun r187 M188 q189 => ?_)
    rcases q189 with ⟨v190, I189a, A189a, B189a, C189a, e191, ⟨r192, r193⟩, hR189a, f194, f195⟩
    rw [e191]
    replace hR189a : w_Rep w_TC fr X u l I189a A189a B189a C189a M188 := hR189a
    replace f194 : c_bz I A I189a A189a p n (I 2503) := f194
    replace f195 : (I189a 2503) = (I 2503) ∧ (0 ≤ (I189a 1035) ∧ (I189a 1035) ≤ 10000) ∧ (I189a 200) = (I 200) ∧ (I189a 202) = (I 202) := f195
    obtain ⟨n196, ⟨n197, n198⟩, n199, n200⟩ := id f195
    clear f195
    have bx201 : c_bz I A I189a A189a p q (I 2503) := c_bz_trans (show c_bz I A I A p q (I 2503) from c_bz_refl) f194 (Int.le_refl _) (Int.le_refl _) (show p ≤ p ∨ n ≤ p by omega) (show n ≤ q ∨ n ≤ p by omega) (Int.le_refl _) (show (I 2503) ≤ (I 2503) by omega)
    show w_W _ _ _ (230, [(3, .int (Int32.ofInt (v4))), (0, .ref 39), (1, .int (Int32.ofInt (n))), (2, .int (Int32.ofInt (x)))], [.int (Int32.ofInt (v190)), .int (Int32.ofInt ((-1))), .int (Int32.ofInt (14)), .ref 39], M188) _
    refine w_adv (n := 1) (F' := (231, [(3, .int (Int32.ofInt (v4))), (0, .ref 39), (1, .int (Int32.ofInt (n))), (2, .int (Int32.ofInt (x)))], [.int (Int32.ofInt ((-1))), .int (Int32.ofInt (v190)), .int (Int32.ofInt ((-1))), .int (Int32.ofInt (14)), .ref 39], M188)) rfl ?_
    refine w_call (cm := 148) (as := [(0, .ref 39), (1, .int (Int32.ofInt (14))), (2, .int (Int32.ofInt ((-1)))), (3, .int (Int32.ofInt (v190))), (4, .int (Int32.ofInt ((-1))))]) (rest := []) (o := some (1, 39)) rfl (w_fitR hR189a rfl) (c_emit (14) ((-1)) (v190) ((-1)) hR189a (show 4 ≤ d by omega) ⟨by omega, by omega⟩ ⟨by omega, by omega⟩ ⟨by omega, by omega⟩ ⟨by omega, by omega⟩ (show 0 ≤ (I189a 1035) ∧ (I189a 1035) ≤ 10000 by (repeat' apply And.intro) <;> first | assumption | omega) (show 0 ≤ (I189a 2503) by omega)) (fun r202 M203 q204 => ?_)
    rcases q204 with ⟨I204a, A204a, B204a, C204a, e205, hR204a, f206, f207⟩
    rw [e205]
    replace hR204a : w_Rep w_TC fr X u l I204a A204a B204a C204a M203 := hR204a
    replace f206 : c_bz I189a A189a I204a A204a 0 0 (I189a 2503) := f206
    replace f207 : (I204a 2503) = (I189a 2503) ∧ (0 ≤ (I204a 1035) ∧ (I204a 1035) ≤ 10000) ∧ (I204a 200) = (I189a 200) ∧ (I204a 202) = (I189a 202) := f207
    obtain ⟨n208, ⟨n209, n210⟩, n211, n212⟩ := id f207
    clear f207
    have bx213 : c_bz I A I204a A204a p q (I 2503) := c_bz_trans (show c_bz I A I189a A189a p q (I 2503) from bx201) f206 (Int.le_refl _) (Int.le_refl _) (show p ≤ 0 ∨ 0 ≤ 0 by omega) (show 0 ≤ q ∨ 0 ≤ 0 by omega) (Int.le_refl _) (show (I 2503) ≤ (I189a 2503) by omega)
    show w_W _ _ _ (234, [(3, .int (Int32.ofInt (v4))), (0, .ref 39), (1, .int (Int32.ofInt (n))), (2, .int (Int32.ofInt (x)))], [], M203) _
    refine w_adv (n := 1) (F' := (237, [(3, .int (Int32.ofInt (v4))), (0, .ref 39), (1, .int (Int32.ofInt (n))), (2, .int (Int32.ofInt (x)))], [], M203)) rfl ?_
    refine w_fin (r := .inl none) (M' := M203) rfl ?_
    exact ⟨I204a, A204a, B204a, C204a, rfl, hR204a, (show c_bz I A I204a A204a p q (I 2503) by exact bx213), (show (I204a 2503) = (I 2503) ∧ (0 ≤ (I204a 1035) ∧ (I204a 1035) ≤ 10000) ∧ (I204a 200) = (I 200) ∧ (I204a 202) = (I 202) by (repeat' apply And.intro) <;> first | assumption | omega)⟩
theorem c_ball (L : Nat) (xs : Nat → Int32) : ∀ d, c_BALL L xs d
  | 0 => fun _ h => absurd h (Nat.not_lt_zero _)
  | d + 1 => fun d' h => by
    by_cases e : d' < d
    · exact c_ball L xs d d' e
    · have e2 : d' = d := by omega
      subst e2
      exact ⟨c_into (c_ball L xs d'), c_body (c_ball L xs d')⟩
