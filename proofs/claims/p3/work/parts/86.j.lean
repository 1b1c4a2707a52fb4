def cb_choice_Q (fr : Nat → Bool) (X : Nat → Option (q_C (Nat → Int32))) (u l : Nat) (I : Nat → Int) (A : Nat → Int → Int) (B C : Nat → Nat) (M : w_M) (n : Int) (x : Int) (i : Nat) (p q : Int) : w_X → w_M → Prop := fun r M' => (∃ (I' : Nat → Int) (A' : Nat → Int → Int) (B' C' : Nat → Nat), (r = .inl none) ∧ (w_Rep w_TC fr X u l I' A' B' C' M') ∧ (c_bz I A I' A' p q (I 2503)) ∧ ((I' 2503) = (I 2503) ∧ (0 ≤ (I' 1035) ∧ (I' 1035) ≤ 10000) ∧ (I' 200) = (I 200) ∧ (I' 202) = (I 202)))
set_option maxHeartbeats 100000000 in
set_option maxRecDepth 100000 in
theorem cb_choice {L : Nat} {xs : Nat → Int32} {d : Nat} {fr : Nat → Bool} {X : Nat → Option (q_C (Nat → Int32))} {u l : Nat} {I : Nat → Int} {A : Nat → Int → Int} {B C : Nat → Nat} {M : w_M} (hB0 : c_BALL L xs d) (n : Int) (x : Int) (i : Nat) (p q : Int) (hR : w_Rep w_TC fr X u l I A B C M) (hd : 8 * i + 3 ≤ d) (r_n : w_in n) (r_x : w_in x) (hKI : 0 ≤ (I 1035) ∧ (I 1035) ≤ 10000) (hKS : c_ks A) (hNM : 36 ≤ (I 200) ∧ (I 200) ≤ 419 ∧ 0 ≤ (I 202) ∧ (I 202) ≤ 24) (hLN : ∀ i, (A 5) i ≤ 24) (hW0 : 0 ≤ (I 2503)) (hWB : (I 2503) + 7000 * (i : Int) ≤ 1000000) (hW : c_W A i n p q) (hk : (A 27) n = 14) (hpq : 0 ≤ p ∧ q ≤ 3001) : w_W (z_P L xs) d 183 (0, [(0, .ref 39), (1, .int (Int32.ofInt (n))), (2, .int (Int32.ofInt (x)))], [], M) (cb_choice_Q fr X u l I A B C M n x i p q) := by
  obtain ⟨ra_n, rb_n⟩ := r_n
  obtain ⟨ra_x, rb_x⟩ := r_x
  obtain ⟨d, rfl⟩ : ∃ d0, d = d0 + 1 := ⟨d - 1, by omega⟩
  obtain ⟨nb1, nb2⟩ := c_W_in hW
  obtain ⟨j, hj⟩ := c_W_succ hW
  have hW1 : c_W A (j + 1) n p q := by rw [← hj]; exact hW
  obtain ⟨r, s, cr1, cr2, cw1, cw2, cw3⟩ := hW1.2.2.k14 hk
  obtain ⟨cr3, cr4⟩ := c_W_in cw1
  refine w_adv (n := 2) (F' := (2, [(0, .ref 39), (1, .int (Int32.ofInt (n))), (2, .int (Int32.ofInt (x)))], [.ref 39, .ref 39], M)) rfl ?_
  refine w_gf (v := .ref 26) hR rfl rfl rfl rfl ?_
  refine w_adv (n := 1) (F' := (6, [(0, .ref 39), (1, .int (Int32.ofInt (n))), (2, .int (Int32.ofInt (x)))], [.int (Int32.ofInt (n)), .ref 26, .ref 39], M)) rfl ?_
  refine w_call (cm := 145) (as := [(0, .ref 26), (1, .int (Int32.ofInt (n)))]) (rest := [.ref 39]) (o := some (8, 26)) rfl (w_fitR hR rfl) (c_Ta (n) hR (show 1 ≤ d by omega) ⟨by omega, by omega⟩) (fun r1 M2 q3 => ?_)
  rcases q3 with ⟨v4, e5, ⟨r6, r7⟩, e8, f9⟩
  rw [e5, e8]
  replace f9 : c_rd (A 28) n v4 := f9
  have ev4 : v4 = (A 28 n) := (c_rd_eq f9 (by omega) (by omega)).trans (congrFun (c_bz_ke (show c_bz I A I A p q (I 2503) from c_bz_refl)).2.1 _)
  show w_W _ _ _ (9, [(0, .ref 39), (1, .int (Int32.ofInt (n))), (2, .int (Int32.ofInt (x)))], [.int (Int32.ofInt (v4)), .ref 39], M) _
  refine w_call (cm := 177) (as := [(0, .ref 39), (1, .int (Int32.ofInt (v4)))]) (rest := []) (o := some (1, 39)) rfl (w_fitR hR rfl) (c_asVariable (c_BALL_dn hB0) (v4) (j) (p) (r) hR (show 8 * j + 5 ≤ d by omega) ⟨by omega, by omega⟩ (show 0 ≤ (I 1035) ∧ (I 1035) ≤ 10000 by (repeat' apply And.intro) <;> first | assumption | omega) (show c_ks A by exact (show c_bz I A I A p q (I 2503) from c_bz_refl).2.2.2.2 hKS) (show 36 ≤ (I 200) ∧ (I 200) ≤ 419 ∧ 0 ≤ (I 202) ∧ (I 202) ≤ 24 by (repeat' apply And.intro) <;> first | assumption | omega) (show ∀ i, (A 5) i ≤ 24 by rw [show (A 5) = (A 5) from (show c_bz I A I A p q (I 2503) from c_bz_refl).2.1 5 rfl]; exact hLN) (show 0 ≤ (I 2503) by omega) (show (I 2503) + 7000 * (j : Int) ≤ 1000000 by first | assumption | omega) (show c_W A j v4 p r by rw [ev4]; exact cw1) (show 0 ≤ p ∧ r ≤ 3001 by first | assumption | omega)) (fun r10 M11 q12 => ?_)
  rcases q12 with ⟨v13, I12a, A12a, B12a, C12a, e14, ⟨r15, r16⟩, hR12a, f17, f18⟩
  rw [e14]
  replace hR12a : w_Rep w_TC fr X u l I12a A12a B12a C12a M11 := hR12a
  replace f17 : c_bz I A I12a A12a p r (I 2503) := f17
  replace f18 : (I12a 2503) = (I 2503) ∧ (0 ≤ (I12a 1035) ∧ (I12a 1035) ≤ 10000) ∧ (I12a 200) = (I 200) ∧ (I12a 202) = (I 202) := f18
  obtain ⟨n19, ⟨n20, n21⟩, n22, n23⟩ := id f18
  clear f18
  have bx24 : c_bz I A I12a A12a p q (I 2503) := c_bz_trans (show c_bz I A I A p q (I 2503) from c_bz_refl) f17 (Int.le_refl _) (Int.le_refl _) (show p ≤ p ∨ r ≤ p by omega) (show r ≤ q ∨ r ≤ p by omega) (Int.le_refl _) (show (I 2503) ≤ (I 2503) by omega)
  have k25 : c_Bd A12a (c_W A12a j) (A 29 n) r s := c_Bd_agr cw2 (c_bz_r f17 (show s ≤ p ∨ r ≤ r ∨ r ≤ p by omega))
  have k26 : (A 30 n) = -1 ∨ c_Bd A12a (c_W A12a j) (A 30 n) s n := cw3.imp_right (fun g => c_Bd_agr g (c_bz_r f17 (show n ≤ p ∨ r ≤ s ∨ r ≤ p by omega)))
  show w_W _ _ _ (12, [(0, .ref 39), (1, .int (Int32.ofInt (n))), (2, .int (Int32.ofInt (x)))], [.int (Int32.ofInt (v13))], M11) _
  refine w_adv (n := 3) (F' := (15, [(3, .int (Int32.ofInt (v13))), (0, .ref 39), (1, .int (Int32.ofInt (n))), (2, .int (Int32.ofInt (x)))], [.ref 39, .ref 39], M11)) rfl ?_
  refine w_gf (v := .ref 26) hR12a rfl rfl rfl rfl ?_
  refine w_adv (n := 1) (F' := (19, [(3, .int (Int32.ofInt (v13))), (0, .ref 39), (1, .int (Int32.ofInt (n))), (2, .int (Int32.ofInt (x)))], [.int (Int32.ofInt (n)), .ref 26, .ref 39], M11)) rfl ?_
  refine w_call (cm := 152) (as := [(0, .ref 26), (1, .int (Int32.ofInt (n)))]) (rest := [.ref 39]) (o := some (8, 26)) rfl (w_fitR hR12a rfl) (c_Tb (n) hR12a (show 1 ≤ d by omega) ⟨by omega, by omega⟩) (fun r27 M28 q29 => ?_)
  rcases q29 with ⟨v30, e31, ⟨r32, r33⟩, e34, f35⟩
  rw [e31, e34]
  replace f35 : c_rd (A12a 29) n v30 := f35
  have ev30 : v30 = (A 29 n) := (c_rd_eq f35 (by omega) (by omega)).trans (c_bz_n (show c_bz I A I12a A12a p q (I 2503) from bx24) (show A 27 n ≠ 16 from (by omega))).1
  show w_W _ _ _ (22, [(3, .int (Int32.ofInt (v13))), (0, .ref 39), (1, .int (Int32.ofInt (n))), (2, .int (Int32.ofInt (x)))], [.int (Int32.ofInt (v30)), .ref 39], M11) _
  refine w_adv (n := 1) (F' := (23, [(3, .int (Int32.ofInt (v13))), (0, .ref 39), (1, .int (Int32.ofInt (n))), (2, .int (Int32.ofInt (x)))], [.int (Int32.ofInt (x)), .int (Int32.ofInt (v30)), .ref 39], M11)) rfl ?_
  refine w_call (cm := 144) (as := [(0, .ref 39), (1, .int (Int32.ofInt (v30))), (2, .int (Int32.ofInt (x)))]) (rest := []) (o := some (1, 39)) rfl (w_fitR hR12a rfl) ((hB0 d (Nat.lt_succ_self d)).2 (v30) (x) (j) (r) (s) hR12a (show 8 * j + 7 ≤ d by omega) ⟨by omega, by omega⟩ ⟨by omega, by omega⟩ (show 0 ≤ (I12a 1035) ∧ (I12a 1035) ≤ 10000 by (repeat' apply And.intro) <;> first | assumption | omega) (show c_ks A12a by exact (show c_bz I A I12a A12a p q (I 2503) from bx24).2.2.2.2 hKS) (show 36 ≤ (I12a 200) ∧ (I12a 200) ≤ 419 ∧ 0 ≤ (I12a 202) ∧ (I12a 202) ≤ 24 by (repeat' apply And.intro) <;> first | assumption | omega) (show ∀ i, (A12a 5) i ≤ 24 by rw [show (A12a 5) = (A 5) from (show c_bz I A I12a A12a p q (I 2503) from bx24).2.1 5 rfl]; exact hLN) (show 0 ≤ (I12a 2503) by omega) (show (I12a 2503) + 7000 * (j : Int) ≤ 1000000 by first | assumption | omega) (show c_Bd A12a (c_W A12a j) v30 r s by rw [ev30]; exact k25) (show 0 ≤ r ∧ s ≤ 3002 by first | assumption | omega)) (fun r36 M37 q38 => ?_)
  rcases q38 with ⟨v39, I38a, A38a, B38a, C38a, e40, ⟨r41, r42⟩, hR38a, f43, f44⟩
  rw [e40]
  replace hR38a : w_Rep w_TC fr X u l I38a A38a B38a C38a M37 := hR38a
  replace f43 : c_bz I12a A12a I38a A38a r s (I12a 2503) := f43
  replace f44 : (I38a 2503) = (I12a 2503) ∧ (0 ≤ (I38a 1035) ∧ (I38a 1035) ≤ 10000) ∧ (I38a 200) = (I12a 200) ∧ (I38a 202) = (I12a 202) := f44
  obtain ⟨n45, ⟨n46, n47⟩, n48, n49⟩ := id f44
  clear f44
  have bx50 : c_bz I A I38a A38a p q (I 2503) := c_bz_trans (show c_bz I A I12a A12a p q (I 2503) from bx24) f43 (Int.le_refl _) (Int.le_refl _) (show p ≤ r ∨ s ≤ r by omega) (show s ≤ q ∨ s ≤ r by omega) (Int.le_refl _) (show (I 2503) ≤ (I12a 2503) by omega)
  have k51 : (A 30 n) = -1 ∨ c_Bd A38a (c_W A38a j) (A 30 n) s n := k26.imp_right (fun g => c_Bd_agr g (c_bz_r f43 (show n ≤ r ∨ s ≤ s ∨ s ≤ r by omega)))
  show w_W _ _ _ (26, [(3, .int (Int32.ofInt (v13))), (0, .ref 39), (1, .int (Int32.ofInt (n))), (2, .int (Int32.ofInt (x)))], [.int (Int32.ofInt (v39))], M37) _
  refine w_adv (n := 2) (F' := (29, [(4, .int (Int32.ofInt (v39))), (3, .int (Int32.ofInt (v13))), (0, .ref 39), (1, .int (Int32.ofInt (n))), (2, .int (Int32.ofInt (x)))], [.ref 39], M37)) rfl ?_
  refine w_gf (v := .ref 26) hR38a rfl rfl rfl rfl ?_
  refine w_adv (n := 1) (F' := (33, [(4, .int (Int32.ofInt (v39))), (3, .int (Int32.ofInt (v13))), (0, .ref 39), (1, .int (Int32.ofInt (n))), (2, .int (Int32.ofInt (x)))], [.int (Int32.ofInt (n)), .ref 26], M37)) rfl ?_
  refine w_call (cm := 174) (as := [(0, .ref 26), (1, .int (Int32.ofInt (n)))]) (rest := []) (o := some (8, 26)) rfl (w_fitR hR38a rfl) (c_Tc (n) hR38a (show 1 ≤ d by omega) ⟨by omega, by omega⟩) (fun r52 M53 q54 => ?_)
  rcases q54 with ⟨v55, e56, ⟨r57, r58⟩, e59, f60⟩
  rw [e56, e59]
  replace f60 : c_rd (A38a 30) n v55 := f60
  have ev55 : v55 = (A 30 n) := (c_rd_eq f60 (by omega) (by omega)).trans (c_bz_n (show c_bz I A I38a A38a p q (I 2503) from bx50) (show A 27 n ≠ 16 from (by omega))).2
  show w_W _ _ _ (36, [(4, .int (Int32.ofInt (v39))), (3, .int (Int32.ofInt (v13))), (0, .ref 39), (1, .int (Int32.ofInt (n))), (2, .int (Int32.ofInt (x)))], [.int (Int32.ofInt (v55))], M37) _
  refine w_adv (n := 1) (F' := (37, [(4, .int (Int32.ofInt (v39))), (3, .int (Int32.ofInt (v13))), (0, .ref 39), (1, .int (Int32.ofInt (n))), (2, .int (Int32.ofInt (x)))], [.int (Int32.ofInt ((-1))), .int (Int32.ofInt (v55))], M37)) rfl ?_
  refine w_br2 (a := v55) (b := (-1)) rfl rfl ⟨by omega, by omega⟩ ⟨by omega, by omega⟩ (fun h61 => ?_) (fun h61 => ?_)
  · have h61 : ¬ v55 = (-1) := h61
    show w_W _ _ _ (44, [(4, .int (Int32.ofInt (v39))), (3, .int (Int32.ofInt (v13))), (0, .ref 39), (1, .int (Int32.ofInt (n))), (2, .int (Int32.ofInt (x)))], [], M37) _
    have cwb : c_Bd A38a (c_W A38a j) (A 30 n) s n := k51.resolve_left (by omega)
    refine w_adv (n := 2) (F' := (46, [(4, .int (Int32.ofInt (v39))), (3, .int (Int32.ofInt (v13))), (0, .ref 39), (1, .int (Int32.ofInt (n))), (2, .int (Int32.ofInt (x)))], [.ref 39, .ref 39], M37)) rfl ?_
    refine w_gf (v := .ref 26) hR38a rfl rfl rfl rfl ?_
    refine w_adv (n := 1) (F' := (50, [(4, .int (Int32.ofInt (v39))), (3, .int (Int32.ofInt (v13))), (0, .ref 39), (1, .int (Int32.ofInt (n))), (2, .int (Int32.ofInt (x)))], [.int (Int32.ofInt (n)), .ref 26, .ref 39], M37)) rfl ?_
    refine w_call (cm := 174) (as := [(0, .ref 26), (1, .int (Int32.ofInt (n)))]) (rest := [.ref 39]) (o := some (8, 26)) rfl (w_fitR hR38a rfl) (c_Tc (n) hR38a (show 1 ≤ d by omega) ⟨by omega, by omega⟩) (fun r62 M63 q64 => ?_)
    rcases q64 with ⟨v65, e66, ⟨r67, r68⟩, e69, f70⟩
    rw [e66, e69]
    replace f70 : c_rd (A38a 30) n v65 := f70
    have ev65 : v65 = (A 30 n) := (c_rd_eq f70 (by omega) (by omega)).trans (c_bz_n (show c_bz I A I38a A38a p q (I 2503) from bx50) (show A 27 n ≠ 16 from (by omega))).2
    show w_W _ _ _ (53, [(4, .int (Int32.ofInt (v39))), (3, .int (Int32.ofInt (v13))), (0, .ref 39), (1, .int (Int32.ofInt (n))), (2, .int (Int32.ofInt (x)))], [.int (Int32.ofInt (v65)), .ref 39], M37) _
    refine w_adv (n := 1) (F' := (54, [(4, .int (Int32.ofInt (v39))), (3, .int (Int32.ofInt (v13))), (0, .ref 39), (1, .int (Int32.ofInt (n))), (2, .int (Int32.ofInt (x)))], [.int (Int32.ofInt (x)), .int (Int32.ofInt (v65)), .ref 39], M37)) rfl ?_
    refine w_call (cm := 144) (as := [(0, .ref 39), (1, .int (Int32.ofInt (v65))), (2, .int (Int32.ofInt (x)))]) (rest := []) (o := some (1, 39)) rfl (w_fitR hR38a rfl) ((hB0 d (Nat.lt_succ_self d)).2 (v65) (x) (j) (s) (n) hR38a (show 8 * j + 7 ≤ d by omega) ⟨by omega, by omega⟩ ⟨by omega, by omega⟩ (show 0 ≤ (I38a 1035) ∧ (I38a 1035) ≤ 10000 by (repeat' apply And.intro) <;> first | assumption | omega) (show c_ks A38a by exact (show c_bz I A I38a A38a p q (I 2503) from bx50).2.2.2.2 hKS) (show 36 ≤ (I38a 200) ∧ (I38a 200) ≤ 419 ∧ 0 ≤ (I38a 202) ∧ (I38a 202) ≤ 24 by (repeat' apply And.intro) <;> first | assumption | omega) (show ∀ i, (A38a 5) i ≤ 24 by rw [show (A38a 5) = (A 5) from (show c_bz I A I38a A38a p q (I 2503) from bx50).2.1 5 rfl]; exact hLN) (show 0 ≤ (I38a 2503) by omega) (show (I38a 2503) + 7000 * (j : Int) ≤ 1000000 by first | assumption | omega) (show c_Bd A38a (c_W A38a j) v65 s n by rw [ev65]; exact cwb) (show 0 ≤ s ∧ n ≤ 3002 by first | assumption | omega)) (fun r71 M72 q73 => ?_)
    rcases q73 with ⟨v74, I73a, A73a, B73a, C73a, e75, ⟨r76, r77⟩, hR73a, f78, f79⟩
    rw [e75]
    replace hR73a : w_Rep w_TC fr X u l I73a A73a B73a C73a M72 := hR73a
    replace f78 : c_bz I38a A38a I73a A73a s n (I38a 2503) := f78
    replace f79 : (I73a 2503) = (I38a 2503) ∧ (0 ≤ (I73a 1035) ∧ (I73a 1035) ≤ 10000) ∧ (I73a 200) = (I38a 200) ∧ (I73a 202) = (I38a 202) := f79
    obtain ⟨n80, ⟨n81, n82⟩, n83, n84⟩ := id f79
    clear f79
    have bx85 : c_bz I A I73a A73a p q (I 2503) := c_bz_trans (show c_bz I A I38a A38a p q (I 2503) from bx50) f78 (Int.le_refl _) (Int.le_refl _) (show p ≤ s ∨ n ≤ s by omega) (show n ≤ q ∨ n ≤ s by omega) (Int.le_refl _) (show (I 2503) ≤ (I38a 2503) by omega)
    show w_W _ _ _ (57, [(4, .int (Int32.ofInt (v39))), (3, .int (Int32.ofInt (v13))), (0, .ref 39), (1, .int (Int32.ofInt (n))), (2, .int (Int32.ofInt (x)))], [.int (Int32.ofInt (v74))], M72) _
    refine w_adv (n := 6) (F' := (67, [(5, .int (Int32.ofInt (v74))), (4, .int (Int32.ofInt (v39))), (3, .int (Int32.ofInt (v13))), (0, .ref 39), (1, .int (Int32.ofInt (n))), (2, .int (Int32.ofInt (x)))], [.int (Int32.ofInt (v74)), .int (Int32.ofInt (v39)), .int (Int32.ofInt (v13)), .int (Int32.ofInt (11)), .ref 39], M72)) rfl ?_
    refine w_call (cm := 148) (as := [(0, .ref 39), (1, .int (Int32.ofInt (11))), (2, .int (Int32.ofInt (v13))), (3, .int (Int32.ofInt (v39))), (4, .int (Int32.ofInt (v74)))]) (rest := []) (o := some (1, 39)) rfl (w_fitR hR73a rfl) (c_emit (11) (v13) (v39) (v74) hR73a (show 4 ≤ d by omega) ⟨by omega, by omega⟩ ⟨by omega, by omega⟩ ⟨by omega, by omega⟩ ⟨by omega, by omega⟩ (show 0 ≤ (I73a 1035) ∧ (I73a 1035) ≤ 10000 by (repeat' apply And.intro) <;> first | assumption | omega) (show 0 ≤ (I73a 2503) by omega)) (fun r86 M87 q88 => ?_)
    rcases q88 with ⟨I88a, A88a, B88a, C88a, e89, hR88a, f90, f91⟩
    rw [e89]
    replace hR88a : w_Rep w_TC fr X u l I88a A88a B88a C88a M87 := hR88a
    replace f90 : c_bz I73a A73a I88a A88a 0 0 (I73a 2503) := f90
    replace f91 : (I88a 2503) = (I73a 2503) ∧ (0 ≤ (I88a 1035) ∧ (I88a 1035) ≤ 10000) ∧ (I88a 200) = (I73a 200) ∧ (I88a 202) = (I73a 202) := f91
    obtain ⟨n92, ⟨n93, n94⟩, n95, n96⟩ := id f91
    clear f91
    have bx97 : c_bz I A I88a A88a p q (I 2503) := c_bz_trans (show c_bz I A I73a A73a p q (I 2503) from bx85) f90 (Int.le_refl _) (Int.le_refl _) (show p ≤ 0 ∨ 0 ≤ 0 by omega) (show 0 ≤ q ∨ 0 ≤ 0 by omega) (Int.le_refl _) (show (I 2503) ≤ (I73a 2503) by omega)
    show w_W _ _ _ (70, [(5, .int (Int32.ofInt (v74))), (4, .int (Int32.ofInt (v39))), (3, .int (Int32.ofInt (v13))), (0, .ref 39), (1, .int (Int32.ofInt (n))), (2, .int (Int32.ofInt (x)))], [], M87) _
    refine w_fin (r := .inl none) (M' := M87) rfl ?_
    exact ⟨I88a, A88a, B88a, C88a, rfl, hR88a, (show c_bz I A I88a A88a p q (I 2503) by exact bx97), (show (I88a 2503) = (I 2503) ∧ (0 ≤ (I88a 1035) ∧ (I88a 1035) ≤ 10000) ∧ (I88a 200) = (I 200) ∧ (I88a 202) = (I 202) by (repeat' apply And.intro) <;> first | assumption | omega)⟩
  · have h61 : ¬ (¬ v55 = (-1)) := h61
    show w_W _ _ _ (40, [(4, .int (Int32.ofInt (v39))), (3, .int (Int32.ofInt (v13))), (0, .ref 39), (1, .int (Int32.ofInt (n))), (2, .int (Int32.ofInt (x)))], [], M37) _
    refine w_adv (n := 8) (F' := (67, [(5, .int (Int32.ofInt ((-1)))), (4, .int (Int32.ofInt (v39))), (3, .int (Int32.ofInt (v13))), (0, .ref 39), (1, .int (Int32.ofInt (n))), (2, .int (Int32.ofInt (x)))], [.int (Int32.ofInt ((-1))), .int (Int32.ofInt (v39)), .int (Int32.ofInt (v13)), .int (Int32.ofInt (11)), .ref 39], M37)) rfl ?_
    refine w_call (cm := 148) (as := [(0, .ref 39), (1, .int (Int32.ofInt (11))), (2, .int (Int32.ofInt (v13))), (3, .int (Int32.ofInt (v39))), (4, .int (Int32.ofInt ((-1))))]) (rest := []) (o := some (1, 39)) rfl (w_fitR hR38a rfl) (c_emit (11) (v13) (v39) ((-1)) hR38a (show 4 ≤ d by omega) ⟨by omega, by omega⟩ ⟨by omega, by omega⟩ ⟨by omega, by omega⟩ ⟨by omega, by omega⟩ (show 0 ≤ (I38a 1035) ∧ (I38a 1035) ≤ 10000 by (repeat' apply And.intro) <;> first | assumption | omega) (show 0 ≤ (I38a 2503) by omega)) (fun r98 M99 q100 => ?_)
    rcases q100 with ⟨I100a, A100a, B100a, C100a, e101, hR100a, f102, f103⟩
    rw [e101]
    replace hR100a : w_Rep w_TC fr X u l I100a A100a B100a C100a M99 := hR100a
    replace f102 : c_bz I38a A38a I100a A100a 0 0 (I38a 2503) := f102
    replace f103 : (I100a 2503) = (I38a 2503) ∧ (0 ≤ (I100a 1035) ∧ (I100a 1035) ≤ 10000) ∧ (I100a 200) = (I38a 200) ∧ (I100a 202) = (I38a 202) := f103
    obtain ⟨n104, ⟨n105, n106⟩, n107, n108⟩ := id f103
    clear f103
    have bx109 : c_bz I A I100a A100a p q (I 2503) := c_bz_trans (show c_bz I A I38a A38a p q (I 2503) from bx50) f102 (Int.le_refl _) (Int.le_refl _) (show p ≤ 0 ∨ 0 ≤ 0 by omega) (show 0 ≤ q ∨ 0 ≤ 0 by omega) (Int.le_refl _) (show (I 2503) ≤ (I38a 2503) by omega)
    have k110 : (A 30 n) = -1 ∨ c_Bd A100a (c_W A100a j) (A 30 n) s n := k51.imp_right (fun g => c_Bd_agr g (c_bz_r f102 (show n ≤ 0 ∨ 0 ≤ s ∨ 0 ≤ 0 by omega)))
    show w_W _ _ _ (70, [(5, .int (Int32.ofInt ((-1)))), (4, .int (Int32.ofInt (v39))), (3, .int (Int32.ofInt (v13))), (0, .ref 39), (1, .int (Int32.ofInt (n))), (2, .int (Int32.ofInt (x)))], [], M99) _
    refine w_fin (r := .inl none) (M' := M99) rfl ?_
    exact ⟨I100a, A100a, B100a, C100a, rfl, hR100a, (show c_bz I A I100a A100a p q (I 2503) by exact bx109), (show (I100a 2503) = (I 2503) ∧ (0 ≤ (I100a 1035) ∧ (I100a 1035) ≤ 10000) ∧ (I100a 200) = (I 200) ∧ (I100a 202) = (I 202) by (repeat' apply And.intro) <;> first | assumption | omega)⟩
