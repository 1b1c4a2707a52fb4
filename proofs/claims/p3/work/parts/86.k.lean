/-! BUILDER of the class: attempts, cases. -/
def cb_attempt_Q (fr : Nat → Bool) (X : Nat → Option (q_C (Nat → Int32))) (u l : Nat) (I : Nat → Int) (A : Nat → Int → Int) (B C : Nat → Nat) (M : w_M) (n : Int) (i : Nat) (p q : Int) : w_X → w_M → Prop := fun r M' => (∃ (I' : Nat → Int) (A' : Nat → Int → Int) (B' C' : Nat → Nat), (r = .inl none) ∧ (w_Rep w_TC fr X u l I' A' B' C' M') ∧ (c_bz I A I' A' p q (I 2503)) ∧ ((I' 2503) = (I 2503) ∧ (0 ≤ (I' 1035) ∧ (I' 1035) ≤ 10000) ∧ (I' 200) = (I 200) ∧ (I' 202) = (I 202)))
set_option maxHeartbeats 100000000 in
set_option maxRecDepth 100000 in
theorem cb_attempt {L : Nat} {xs : Nat → Int32} {d : Nat} {fr : Nat → Bool} {X : Nat → Option (q_C (Nat → Int32))} {u l : Nat} {I : Nat → Int} {A : Nat → Int → Int} {B C : Nat → Nat} {M : w_M} (hB0 : c_BALL L xs d) (n : Int) (i : Nat) (p q : Int) (hR : w_Rep w_TC fr X u l I A B C M) (hd : 8 * i + 4 ≤ d) (r_n : w_in n) (hKI : 0 ≤ (I 1035) ∧ (I 1035) ≤ 10000) (hKS : c_ks A) (hNM : 36 ≤ (I 200) ∧ (I 200) ≤ 419 ∧ 0 ≤ (I 202) ∧ (I 202) ≤ 24) (hLN : ∀ i, (A 5) i ≤ 24) (hW0 : 0 ≤ (I 2503)) (hWB : (I 2503) + 7000 * (i : Int) ≤ 1000000) (hW : c_W A i n p q) (hk : (A 27) n = 20) (hpq : 0 ≤ p ∧ q ≤ 3001) : w_W (z_P L xs) d 189 (0, [(0, .ref 39), (1, .int (Int32.ofInt (n)))], [], M) (cb_attempt_Q fr X u l I A B C M n i p q) := by
  obtain ⟨ra_n, rb_n⟩ := r_n
  obtain ⟨d, rfl⟩ : ∃ d0, d = d0 + 1 := ⟨d - 1, by omega⟩
  obtain ⟨nb1, nb2⟩ := c_W_in hW
  obtain ⟨j, hj⟩ := c_W_succ hW
  have hW1 : c_W A (j + 1) n p q := by rw [← hj]; exact hW
  obtain ⟨r, cr1, ca1, ca2⟩ := hW1.2.2.k20 hk
  obtain ⟨cr3, cr4, -⟩ := id ca1
  refine w_adv (n := 2) (F' := (2, [(0, .ref 39), (1, .int (Int32.ofInt (n)))], [.ref 39, .ref 39], M)) rfl ?_
  refine w_gf (v := .ref 26) hR rfl rfl rfl rfl ?_
  refine w_adv (n := 1) (F' := (6, [(0, .ref 39), (1, .int (Int32.ofInt (n)))], [.int (Int32.ofInt (n)), .ref 26, .ref 39], M)) rfl ?_
  refine w_call (cm := 145) (as := [(0, .ref 26), (1, .int (Int32.ofInt (n)))]) (rest := [.ref 39]) (o := some (8, 26)) rfl (w_fitR hR rfl) (c_Ta (n) hR (show 1 ≤ d by omega) ⟨by omega, by omega⟩) (fun r1 M2 q3 => ?_)
  rcases q3 with ⟨v4, e5, ⟨r6, r7⟩, e8, f9⟩
  rw [e5, e8]
  replace f9 : c_rd (A 28) n v4 := f9
  have ev4 : v4 = (A 28 n) := (c_rd_eq f9 (by omega) (by omega)).trans (congrFun (c_bz_ke (show c_bz I A I A p q (I 2503) from c_bz_refl)).2.1 _)
  show w_W _ _ _ (9, [(0, .ref 39), (1, .int (Int32.ofInt (n)))], [.int (Int32.ofInt (v4)), .ref 39], M) _
  refine w_adv (n := 1) (F' := (10, [(0, .ref 39), (1, .int (Int32.ofInt (n)))], [.int (Int32.ofInt ((-1))), .int (Int32.ofInt (v4)), .ref 39], M)) rfl ?_
  refine w_call (cm := 144) (as := [(0, .ref 39), (1, .int (Int32.ofInt (v4))), (2, .int (Int32.ofInt ((-1))))]) (rest := []) (o := some (1, 39)) rfl (w_fitR hR rfl) ((hB0 d (Nat.lt_succ_self d)).2 (v4) ((-1)) (j) (p) (r) hR (show 8 * j + 7 ≤ d by omega) ⟨by omega, by omega⟩ ⟨by omega, by omega⟩ (show 0 ≤ (I 1035) ∧ (I 1035) ≤ 10000 by (repeat' apply And.intro) <;> first | assumption | omega) (show c_ks A by exact (show c_bz I A I A p q (I 2503) from c_bz_refl).2.2.2.2 hKS) (show 36 ≤ (I 200) ∧ (I 200) ≤ 419 ∧ 0 ≤ (I 202) ∧ (I 202) ≤ 24 by (repeat' apply And.intro) <;> first | assumption | omega) (show ∀ i, (A 5) i ≤ 24 by rw [show (A 5) = (A 5) from (show c_bz I A I A p q (I 2503) from c_bz_refl).2.1 5 rfl]; exact hLN) (show 0 ≤ (I 2503) by omega) (show (I 2503) + 7000 * (j : Int) ≤ 1000000 by first | assumption | omega) (show c_Bd A (c_W A j) v4 p r by rw [ev4]; exact ca1) (show 0 ≤ p ∧ r ≤ 3002 by first | assumption | omega)) (fun r10 M11 q12 => ?_)
  rcases q12 with ⟨v13, I12a, A12a, B12a, C12a, e14, ⟨r15, r16⟩, hR12a, f17, f18⟩
  rw [e14]
  replace hR12a : w_Rep w_TC fr X u l I12a A12a B12a C12a M11 := hR12a
  replace f17 : c_bz I A I12a A12a p r (I 2503) := f17
  replace f18 : (I12a 2503) = (I 2503) ∧ (0 ≤ (I12a 1035) ∧ (I12a 1035) ≤ 10000) ∧ (I12a 200) = (I 200) ∧ (I12a 202) = (I 202) := f18
  obtain ⟨n19, ⟨n20, n21⟩, n22, n23⟩ := id f18
  clear f18
  have bx24 : c_bz I A I12a A12a p q (I 2503) := c_bz_trans (show c_bz I A I A p q (I 2503) from c_bz_refl) f17 (Int.le_refl _) (Int.le_refl _) (show p ≤ p ∨ r ≤ p by omega) (show r ≤ q ∨ r ≤ p by omega) (Int.le_refl _) (show (I 2503) ≤ (I 2503) by omega)
  have k25 : c_Bd A12a (c_W A12a j) (A 29 n) r n := c_Bd_agr ca2 (c_bz_r f17 (show n ≤ p ∨ r ≤ r ∨ r ≤ p by omega))
  show w_W _ _ _ (13, [(0, .ref 39), (1, .int (Int32.ofInt (n)))], [.int (Int32.ofInt (v13))], M11) _
  refine w_adv (n := 3) (F' := (16, [(2, .int (Int32.ofInt (v13))), (0, .ref 39), (1, .int (Int32.ofInt (n)))], [.ref 39, .ref 39], M11)) rfl ?_
  refine w_gf (v := .ref 26) hR12a rfl rfl rfl rfl ?_
  refine w_adv (n := 1) (F' := (20, [(2, .int (Int32.ofInt (v13))), (0, .ref 39), (1, .int (Int32.ofInt (n)))], [.int (Int32.ofInt (n)), .ref 26, .ref 39], M11)) rfl ?_
  refine w_call (cm := 174) (as := [(0, .ref 26), (1, .int (Int32.ofInt (n)))]) (rest := [.ref 39]) (o := some (8, 26)) rfl (w_fitR hR12a rfl) (c_Tc (n) hR12a (show 1 ≤ d by omega) ⟨by omega, by omega⟩) (fun r26 M27 q28 => ?_)
  rcases q28 with ⟨v29, e30, ⟨r31, r32⟩, e33, f34⟩
  rw [e30, e33]
  replace f34 : c_rd (A12a 30) n v29 := f34
  show w_W _ _ _ (23, [(2, .int (Int32.ofInt (v13))), (0, .ref 39), (1, .int (Int32.ofInt (n)))], [.int (Int32.ofInt (v29)), .ref 39], M11) _
  refine w_adv (n := 1) (F' := (24, [(2, .int (Int32.ofInt (v13))), (0, .ref 39), (1, .int (Int32.ofInt (n)))], [.int (Int32.ofInt (1)), .int (Int32.ofInt (v29)), .ref 39], M11)) rfl ?_
  refine w_call (cm := 179) (as := [(0, .ref 39), (1, .int (Int32.ofInt (v29))), (2, .int (Int32.ofInt (1)))]) (rest := []) (o := some (1, 39)) rfl (w_fitR hR12a rfl) (c_bear (v29) (1) hR12a (show 4 ≤ d by omega) ⟨by omega, by omega⟩ ⟨by omega, by omega⟩ (show 0 ≤ (I12a 1035) ∧ (I12a 1035) ≤ 10000 by (repeat' apply And.intro) <;> first | assumption | omega) (show 0 ≤ (I12a 2503) by omega)) (fun r35 M36 q37 => ?_)
  rcases q37 with ⟨I37a, A37a, B37a, C37a, e38, hR37a, f39, f40⟩
  rw [e38]
  replace hR37a : w_Rep w_TC fr X u l I37a A37a B37a C37a M36 := hR37a
  replace f39 : c_bz I12a A12a I37a A37a 0 0 (I12a 2503) := f39
  replace f40 : (I37a 2503) = (I12a 2503) ∧ (0 ≤ (I37a 1035) ∧ (I37a 1035) ≤ 10000) ∧ (I37a 200) = (I12a 200) ∧ (I37a 202) = (I12a 202) := f40
  obtain ⟨n41, ⟨n42, n43⟩, n44, n45⟩ := id f40
  clear f40
  have bx46 : c_bz I A I37a A37a p q (I 2503) := c_bz_trans (show c_bz I A I12a A12a p q (I 2503) from bx24) f39 (Int.le_refl _) (Int.le_refl _) (show p ≤ 0 ∨ 0 ≤ 0 by omega) (show 0 ≤ q ∨ 0 ≤ 0 by omega) (Int.le_refl _) (show (I 2503) ≤ (I12a 2503) by omega)
  have k47 : c_Bd A37a (c_W A37a j) (A 29 n) r n := c_Bd_agr k25 (c_bz_r f39 (show n ≤ 0 ∨ 0 ≤ r ∨ 0 ≤ 0 by omega))
  show w_W _ _ _ (27, [(2, .int (Int32.ofInt (v13))), (0, .ref 39), (1, .int (Int32.ofInt (n)))], [], M36) _
  refine w_adv (n := 2) (F' := (29, [(2, .int (Int32.ofInt (v13))), (0, .ref 39), (1, .int (Int32.ofInt (n)))], [.ref 39, .ref 39], M36)) rfl ?_
  refine w_gf (v := .ref 26) hR37a rfl rfl rfl rfl ?_
  refine w_adv (n := 1) (F' := (33, [(2, .int (Int32.ofInt (v13))), (0, .ref 39), (1, .int (Int32.ofInt (n)))], [.int (Int32.ofInt (n)), .ref 26, .ref 39], M36)) rfl ?_
  refine w_call (cm := 152) (as := [(0, .ref 26), (1, .int (Int32.ofInt (n)))]) (rest := [.ref 39]) (o := some (8, 26)) rfl (w_fitR hR37a rfl) (c_Tb (n) hR37a (show 1 ≤ d by omega) ⟨by omega, by omega⟩) (fun r48 M49 q50 => ?_)
  rcases q50 with ⟨v51, e52, ⟨r53, r54⟩, e55, f56⟩
  rw [e52, e55]
  replace f56 : c_rd (A37a 29) n v51 := f56
  have ev51 : v51 = (A 29 n) := (c_rd_eq f56 (by omega) (by omega)).trans (c_bz_n (show c_bz I A I37a A37a p q (I 2503) from bx46) (show A 27 n ≠ 16 from (by omega))).1
  show w_W _ _ _ (36, [(2, .int (Int32.ofInt (v13))), (0, .ref 39), (1, .int (Int32.ofInt (n)))], [.int (Int32.ofInt (v51)), .ref 39], M36) _
  refine w_adv (n := 1) (F' := (37, [(2, .int (Int32.ofInt (v13))), (0, .ref 39), (1, .int (Int32.ofInt (n)))], [.int (Int32.ofInt ((-1))), .int (Int32.ofInt (v51)), .ref 39], M36)) rfl ?_
  refine w_call (cm := 144) (as := [(0, .ref 39), (1, .int (Int32.ofInt (v51))), (2, .int (Int32.ofInt ((-1))))]) (rest := []) (o := some (1, 39)) rfl (w_fitR hR37a rfl) ((hB0 d (Nat.lt_succ_self d)).2 (v51) ((-1)) (j) (r) (n) hR37a (show 8 * j + 7 ≤ d by omega) ⟨by omega, by omega⟩ ⟨by omega, by omega⟩ (show 0 ≤ (I37a 1035) ∧ (I37a 1035) ≤ 10000 by (repeat' apply And.intro) <;> first | assumption | omega) (show c_ks A37a by exact (show c_bz I A I37a A37a p q (I 2503) from bx46).2.2.2.2 hKS) (show 36 ≤ (I37a 200) ∧ (I37a 200) ≤ 419 ∧ 0 ≤ (I37a 202) ∧ (I37a 202) ≤ 24 by (repeat' apply And.intro) <;> first | assumption | omega) (show ∀ i, (A37a 5) i ≤ 24 by rw [show (A37a 5) = (A 5) from (show c_bz I A I37a A37a p q (I 2503) from bx46).2.1 5 rfl]; exact hLN) (show 0 ≤ (I37a 2503) by omega) (show (I37a 2503) + 7000 * (j : Int) ≤ 1000000 by first | assumption | omega) (show c_Bd A37a (c_W A37a j) v51 r n by rw [ev51]; exact k47) (show 0 ≤ r ∧ n ≤ 3002 by first | assumption | omega)) (fun r57 M58 q59 => ?_)
  rcases q59 with ⟨v60, I59a, A59a, B59a, C59a, e61, ⟨r62, r63⟩, hR59a, f64, f65⟩
  rw [e61]
  replace hR59a : w_Rep w_TC fr X u l I59a A59a B59a C59a M58 := hR59a
  replace f64 : c_bz I37a A37a I59a A59a r n (I37a 2503) := f64
  replace f65 : (I59a 2503) = (I37a 2503) ∧ (0 ≤ (I59a 1035) ∧ (I59a 1035) ≤ 10000) ∧ (I59a 200) = (I37a 200) ∧ (I59a 202) = (I37a 202) := f65
  obtain ⟨n66, ⟨n67, n68⟩, n69, n70⟩ := id f65
  clear f65
  have bx71 : c_bz I A I59a A59a p q (I 2503) := c_bz_trans (show c_bz I A I37a A37a p q (I 2503) from bx46) f64 (Int.le_refl _) (Int.le_refl _) (show p ≤ r ∨ n ≤ r by omega) (show n ≤ q ∨ n ≤ r by omega) (Int.le_refl _) (show (I 2503) ≤ (I37a 2503) by omega)
  show w_W _ _ _ (40, [(2, .int (Int32.ofInt (v13))), (0, .ref 39), (1, .int (Int32.ofInt (n)))], [.int (Int32.ofInt (v60))], M58) _
  refine w_adv (n := 4) (F' := (45, [(3, .int (Int32.ofInt (v60))), (2, .int (Int32.ofInt (v13))), (0, .ref 39), (1, .int (Int32.ofInt (n)))], [.ref 39, .int (Int32.ofInt (15)), .ref 39], M58)) rfl ?_
  refine w_gf (v := .ref 33) hR59a rfl rfl rfl rfl ?_
  refine w_adv (n := 1) (F' := (49, [(3, .int (Int32.ofInt (v60))), (2, .int (Int32.ofInt (v13))), (0, .ref 39), (1, .int (Int32.ofInt (n)))], [.ref 39, .ref 33, .int (Int32.ofInt (15)), .ref 39], M58)) rfl ?_
  refine w_gf (v := .ref 26) hR59a rfl rfl rfl rfl ?_
  refine w_adv (n := 1) (F' := (53, [(3, .int (Int32.ofInt (v60))), (2, .int (Int32.ofInt (v13))), (0, .ref 39), (1, .int (Int32.ofInt (n)))], [.int (Int32.ofInt (n)), .ref 26, .ref 33, .int (Int32.ofInt (15)), .ref 39], M58)) rfl ?_
  refine w_call (cm := 174) (as := [(0, .ref 26), (1, .int (Int32.ofInt (n)))]) (rest := [.ref 33, .int (Int32.ofInt (15)), .ref 39]) (o := some (8, 26)) rfl (w_fitR hR59a rfl) (c_Tc (n) hR59a (show 1 ≤ d by omega) ⟨by omega, by omega⟩) (fun r72 M73 q74 => ?_)
  rcases q74 with ⟨v75, e76, ⟨r77, r78⟩, e79, f80⟩
  rw [e76, e79]
  replace f80 : c_rd (A59a 30) n v75 := f80
  show w_W _ _ _ (56, [(3, .int (Int32.ofInt (v60))), (2, .int (Int32.ofInt (v13))), (0, .ref 39), (1, .int (Int32.ofInt (n)))], [.int (Int32.ofInt (v75)), .ref 33, .int (Int32.ofInt (15)), .ref 39], M58) _
  refine w_call (cm := 155) (as := [(0, .ref 33), (1, .int (Int32.ofInt (v75)))]) (rest := [.int (Int32.ofInt (15)), .ref 39]) (o := some (5, 33)) rfl (w_fitR hR59a rfl) (c_Scope_variable (v75) hR59a (show 2 ≤ d by omega) ⟨by omega, by omega⟩) (fun r81 M82 q83 => ?_)
  rcases q83 with ⟨v84, e85, ⟨r86, r87⟩, e88⟩
  rw [e85, e88]
  show w_W _ _ _ (59, [(3, .int (Int32.ofInt (v60))), (2, .int (Int32.ofInt (v13))), (0, .ref 39), (1, .int (Int32.ofInt (n)))], [.int (Int32.ofInt (v84)), .int (Int32.ofInt (15)), .ref 39], M58) _
  refine w_adv (n := 2) (F' := (61, [(3, .int (Int32.ofInt (v60))), (2, .int (Int32.ofInt (v13))), (0, .ref 39), (1, .int (Int32.ofInt (n)))], [.int (Int32.ofInt (v60)), .int (Int32.ofInt (v13)), .int (Int32.ofInt (v84)), .int (Int32.ofInt (15)), .ref 39], M58)) rfl ?_
  refine w_call (cm := 148) (as := [(0, .ref 39), (1, .int (Int32.ofInt (15))), (2, .int (Int32.ofInt (v84))), (3, .int (Int32.ofInt (v13))), (4, .int (Int32.ofInt (v60)))]) (rest := []) (o := some (1, 39)) rfl (w_fitR hR59a rfl) (c_emit (15) (v84) (v13) (v60) hR59a (show 4 ≤ d by omega) ⟨by omega, by omega⟩ ⟨by omega, by omega⟩ ⟨by omega, by omega⟩ ⟨by omega, by omega⟩ (show 0 ≤ (I59a 1035) ∧ (I59a 1035) ≤ 10000 by (repeat' apply And.intro) <;> first | assumption | omega) (show 0 ≤ (I59a 2503) by omega)) (fun r89 M90 q91 => ?_)
  rcases q91 with ⟨I91a, A91a, B91a, C91a, e92, hR91a, f93, f94⟩
  rw [e92]
  replace hR91a : w_Rep w_TC fr X u l I91a A91a B91a C91a M90 := hR91a
  replace f93 : c_bz I59a A59a I91a A91a 0 0 (I59a 2503) := f93
  replace f94 : (I91a 2503) = (I59a 2503) ∧ (0 ≤ (I91a 1035) ∧ (I91a 1035) ≤ 10000) ∧ (I91a 200) = (I59a 200) ∧ (I91a 202) = (I59a 202) := f94
  obtain ⟨n95, ⟨n96, n97⟩, n98, n99⟩ := id f94
  clear f94
  have bx100 : c_bz I A I91a A91a p q (I 2503) := c_bz_trans (show c_bz I A I59a A59a p q (I 2503) from bx71) f93 (Int.le_refl _) (Int.le_refl _) (show p ≤ 0 ∨ 0 ≤ 0 by omega) (show 0 ≤ q ∨ 0 ≤ 0 by omega) (Int.le_refl _) (show (I 2503) ≤ (I59a 2503) by omega)
  show w_W _ _ _ (64, [(3, .int (Int32.ofInt (v60))), (2, .int (Int32.ofInt (v13))), (0, .ref 39), (1, .int (Int32.ofInt (n)))], [], M90) _
  refine w_fin (r := .inl none) (M' := M90) rfl ?_
  exact ⟨I91a, A91a, B91a, C91a, rfl, hR91a, (show c_bz I A I91a A91a p q (I 2503) by exact bx100), (show (I91a 2503) = (I 2503) ∧ (0 ≤ (I91a 1035) ∧ (I91a 1035) ≤ 10000) ∧ (I91a 200) = (I 200) ∧ (I91a 202) = (I 202) by (repeat' apply And.intro) <;> first | assumption | omega)⟩
def cb_setB_Q (fr : Nat → Bool) (X : Nat → Option (q_C (Nat → Int32))) (u l : Nat) (I : Nat → Int) (A : Nat → Int → Int) (B C : Nat → Nat) (M : w_M) (m : Int) (v : Int) (p q : Int) : w_X → w_M → Prop := fun r M' => (∃ (I' : Nat → Int) (A' : Nat → Int → Int) (B' C' : Nat → Nat), (r = .inl none) ∧ (w_Rep w_TC fr X u l I' A' B' C' M') ∧ (c_bz I A I' A' p q (I 2503)) ∧ ((I' 2503) = (I 2503) ∧ (0 ≤ (I' 1035) ∧ (I' 1035) ≤ 10000) ∧ (I' 200) = (I 200) ∧ (I' 202) = (I 202)))
set_option maxHeartbeats 100000000 in
set_option maxRecDepth 100000 in
theorem cb_setB {L : Nat} {xs : Nat → Int32} {d : Nat} {fr : Nat → Bool} {X : Nat → Option (q_C (Nat → Int32))} {u l : Nat} {I : Nat → Int} {A : Nat → Int → Int} {B C : Nat → Nat} {M : w_M} (m : Int) (v : Int) (p q : Int) (hR : w_Rep w_TC fr X u l I A B C M) (hd : 2 ≤ d) (r_m : w_in m) (r_v : w_in v) (hKI : 0 ≤ (I 1035) ∧ (I 1035) ≤ 10000) (hW0 : 0 ≤ (I 2503)) (h16 : A 27 m = 16) (hm : p ≤ m ∧ m < q) : w_W (z_P L xs) d 115 (0, [(0, .ref 26), (1, .int (Int32.ofInt (m))), (2, .int (Int32.ofInt (v)))], [], M) (cb_setB_Q fr X u l I A B C M m v p q) := by
  obtain ⟨ra_m, rb_m⟩ := r_m
  obtain ⟨ra_v, rb_v⟩ := r_v
  obtain ⟨d, rfl⟩ : ∃ d0, d = d0 + 1 := ⟨d - 1, by omega⟩
  refine w_adv (n := 1) (F' := (1, [(0, .ref 26), (1, .int (Int32.ofInt (m))), (2, .int (Int32.ofInt (v)))], [.ref 26], M)) rfl ?_
  refine w_gf (v := .ref 29) hR rfl rfl rfl rfl ?_
  refine w_adv (n := 2) (F' := (6, [(0, .ref 26), (1, .int (Int32.ofInt (m))), (2, .int (Int32.ofInt (v)))], [.int (Int32.ofInt (v)), .int (Int32.ofInt (m)), .ref 29], M)) rfl ?_
  refine w_call (cm := 25) (as := [(0, .ref 29), (1, .int (Int32.ofInt (m))), (2, .int (Int32.ofInt (v)))]) (rest := []) (o := none) rfl (trivial) (c_set (m) (v) 29 3016 rfl (by decide) hR ⟨by omega, by omega⟩ ⟨by omega, by omega⟩) (fun r1 M2 q3 => ?_)
  rcases q3 with ⟨e4, hR3a⟩
  rw [e4]
  replace hR3a : w_Rep w_TC fr X u l I (w_upF A 29 (w_upG 3016 (A 29) (m) (v))) B C M2 := hR3a
  show w_W _ _ _ (9, [(0, .ref 26), (1, .int (Int32.ofInt (m))), (2, .int (Int32.ofInt (v)))], [], M2) _
  refine w_fin (r := .inl none) (M' := M2) rfl ?_
  exact ⟨I, (w_upF A 29 (w_upG 3016 (A 29) (m) (v))), B, C, rfl, hR3a, (show c_bz I A I (w_upF A 29 (w_upG 3016 (A 29) (m) (v))) p q (I 2503) by exact (c_bz_b c_bz_refl rfl h16 ⟨by omega, by omega⟩)), (show (I 2503) = (I 2503) ∧ (0 ≤ (I 1035) ∧ (I 1035) ≤ 10000) ∧ (I 200) = (I 200) ∧ (I 202) = (I 202) by (repeat' apply And.intro) <;> first | assumption | omega)⟩
def cb_setC_Q (fr : Nat → Bool) (X : Nat → Option (q_C (Nat → Int32))) (u l : Nat) (I : Nat → Int) (A : Nat → Int → Int) (B C : Nat → Nat) (M : w_M) (m : Int) (v : Int) (p q : Int) : w_X → w_M → Prop := fun r M' => (∃ (I' : Nat → Int) (A' : Nat → Int → Int) (B' C' : Nat → Nat), (r = .inl none) ∧ (w_Rep w_TC fr X u l I' A' B' C' M') ∧ (c_bz I A I' A' p q (I 2503)) ∧ ((I' 2503) = (I 2503) ∧ (0 ≤ (I' 1035) ∧ (I' 1035) ≤ 10000) ∧ (I' 200) = (I 200) ∧ (I' 202) = (I 202)))
set_option maxHeartbeats 100000000 in
set_option maxRecDepth 100000 in
theorem cb_setC {L : Nat} {xs : Nat → Int32} {d : Nat} {fr : Nat → Bool} {X : Nat → Option (q_C (Nat → Int32))} {u l : Nat} {I : Nat → Int} {A : Nat → Int → Int} {B C : Nat → Nat} {M : w_M} (m : Int) (v : Int) (p q : Int) (hR : w_Rep w_TC fr X u l I A B C M) (hd : 2 ≤ d) (r_m : w_in m) (r_v : w_in v) (hKI : 0 ≤ (I 1035) ∧ (I 1035) ≤ 10000) (hW0 : 0 ≤ (I 2503)) (h16 : A 27 m = 16) (hm : p ≤ m ∧ m < q) : w_W (z_P L xs) d 186 (0, [(0, .ref 26), (1, .int (Int32.ofInt (m))), (2, .int (Int32.ofInt (v)))], [], M) (cb_setC_Q fr X u l I A B C M m v p q) := by
  obtain ⟨ra_m, rb_m⟩ := r_m
  obtain ⟨ra_v, rb_v⟩ := r_v
  obtain ⟨d, rfl⟩ : ∃ d0, d = d0 + 1 := ⟨d - 1, by omega⟩
  refine w_adv (n := 1) (F' := (1, [(0, .ref 26), (1, .int (Int32.ofInt (m))), (2, .int (Int32.ofInt (v)))], [.ref 26], M)) rfl ?_
  refine w_gf (v := .ref 30) hR rfl rfl rfl rfl ?_
  refine w_adv (n := 2) (F' := (6, [(0, .ref 26), (1, .int (Int32.ofInt (m))), (2, .int (Int32.ofInt (v)))], [.int (Int32.ofInt (v)), .int (Int32.ofInt (m)), .ref 30], M)) rfl ?_
  refine w_call (cm := 25) (as := [(0, .ref 30), (1, .int (Int32.ofInt (m))), (2, .int (Int32.ofInt (v)))]) (rest := []) (o := none) rfl (trivial) (c_set (m) (v) 30 3016 rfl (by decide) hR ⟨by omega, by omega⟩ ⟨by omega, by omega⟩) (fun r1 M2 q3 => ?_)
  rcases q3 with ⟨e4, hR3a⟩
  rw [e4]
  replace hR3a : w_Rep w_TC fr X u l I (w_upF A 30 (w_upG 3016 (A 30) (m) (v))) B C M2 := hR3a
  show w_W _ _ _ (9, [(0, .ref 26), (1, .int (Int32.ofInt (m))), (2, .int (Int32.ofInt (v)))], [], M2) _
  refine w_fin (r := .inl none) (M' := M2) rfl ?_
  exact ⟨I, (w_upF A 30 (w_upG 3016 (A 30) (m) (v))), B, C, rfl, hR3a, (show c_bz I A I (w_upF A 30 (w_upG 3016 (A 30) (m) (v))) p q (I 2503) by exact (c_bz_c c_bz_refl rfl h16 ⟨by omega, by omega⟩)), (show (I 2503) = (I 2503) ∧ (0 ≤ (I 1035) ∧ (I 1035) ≤ 10000) ∧ (I 200) = (I 200) ∧ (I 202) = (I 202) by (repeat' apply And.intro) <;> first | assumption | omega)⟩
def cb_cases_Q (fr : Nat → Bool) (X : Nat → Option (q_C (Nat → Int32))) (u l : Nat) (I : Nat → Int) (A : Nat → Int → Int) (B C : Nat → Nat) (M : w_M) (n : Int) (x : Int) (i : Nat) (p q : Int) : w_X → w_M → Prop := fun r M' => (∃ (I' : Nat → Int) (A' : Nat → Int → Int) (B' C' : Nat → Nat), (r = .inl none) ∧ (w_Rep w_TC fr X u l I' A' B' C' M') ∧ (c_bz I A I' A' p q (I 2503)) ∧ ((I' 2503) = (I 2503) ∧ (0 ≤ (I' 1035) ∧ (I' 1035) ≤ 10000) ∧ (I' 200) = (I 200) ∧ (I' 202) = (I 202)))
set_option maxHeartbeats 100000000 in
set_option maxRecDepth 100000 in
theorem cb_cases {L : Nat} {xs : Nat → Int32} {d : Nat} {fr : Nat → Bool} {X : Nat → Option (q_C (Nat → Int32))} {u l : Nat} {I : Nat → Int} {A : Nat → Int → Int} {B C : Nat → Nat} {M : w_M} (hB0 : c_BALL L xs d) (n : Int) (x : Int) (i : Nat) (p q : Int) (hR : w_Rep w_TC fr X u l I A B C M) (hd : 8 * i + 3 ≤ d) (r_n : w_in n) (r_x : w_in x) (hKI : 0 ≤ (I 1035) ∧ (I 1035) ≤ 10000) (hKS : c_ks A) (hNM : 36 ≤ (I 200) ∧ (I 200) ≤ 419 ∧ 0 ≤ (I 202) ∧ (I 202) ≤ 24) (hLN : ∀ i, (A 5) i ≤ 24) (hW0 : 0 ≤ (I 2503)) (hWB : (I 2503) + 7000 * (i : Int) ≤ 1000000) (hW : c_W A i n p q) (hk : (A 27) n = 15) (hpq : 0 ≤ p ∧ q ≤ 3001) : w_W (z_P L xs) d 184 (0, [(0, .ref 39), (1, .int (Int32.ofInt (n))), (2, .int (Int32.ofInt (x)))], [], M) (cb_cases_Q fr X u l I A B C M n x i p q) := by
  obtain ⟨ra_n, rb_n⟩ := r_n
  obtain ⟨ra_x, rb_x⟩ := r_x
  obtain ⟨d, rfl⟩ : ∃ d0, d = d0 + 1 := ⟨d - 1, by omega⟩
  obtain ⟨nb1, nb2⟩ := c_W_in hW
  obtain ⟨j, hj⟩ := c_W_succ hW
  have hW1 : c_W A (j + 1) n p q := by rw [← hj]; exact hW
  obtain ⟨r, s, cr1, cr2, cw1, cw2, cw3⟩ := hW1.2.2.k15 hk
  have cw2 : c_Ch (A 31) (c_P2 A j) (A 29 n) r s := cw2
  obtain ⟨cr3, cr4⟩ := c_W_in cw1
  refine w_adv (n := 2) (F' := (2, [(0, .ref 39), (1, .int (Int32.ofInt (n))), (2, .int (Int32.ofInt (x)))], [.ref 39, .ref 39], M)) rfl ?_
  refine w_gf (v := .ref 26) hR rfl rfl rfl rfl ?_
  refine w_adv (n := 1) (F' := (6, [(0, .ref 39), (1, .int (Int32.ofInt (n))), (2, .int (Int32.ofInt (x)))], [.int (Int32.ofInt (n)), .ref 26, .ref 39], M)) rfl ?_
  refine w_call (cm := 145) (as := [(0, .ref 26), (1, .int (Int32.ofInt (n)))]) (rest := [.ref 39]) (o := some (8, 26)) rfl (w_fitR hR rfl) (c_Ta (n) hR (show 1 ≤ d by omega) ⟨by omega, by omega⟩) (fun r1 M2 q3 => ?_)
  rcases q3 with ⟨v4, e5, ⟨r6, r7⟩, e8, f9⟩
  rw [e5, e8]
  replace f9 : c_rd (A 28) n v4 := f9
  have ev4 : v4 = (A 28 n) := (c_rd_eq f9 (by omega) (by omega)).trans (congrFun (c_bz_ke (show c_bz I A I A p q (I 2503) from c_bz_refl)).2.1 _)
  show w_W _ _ _ (9, [(0, .ref 39), (1, .int (Int32.ofInt (n))), (2, .int (Int32.ofInt (x)))], [.int (Int32.ofInt (v4)), .ref 39], M) _
  refine w_call (cm := 177) (as := [(0, .ref 39), (1, .int (Int32.ofInt (v4)))]) (rest := []) (o := some (1, 39)) rfl (w_fitR hR rfl) (c_asVariable (c_BALL_dn hB0) (v4) (j) (p) (r) hR (show 8 * j + 5 ≤ d by omega) ⟨by omega, by omega⟩ (show 0 ≤ (I 1035) ∧ (I 1035) ≤ 10000 by (repeat' apply And.intro) <;> first | assumption | omega) (show c_ks A by exact (show c_bz I A I A p q (I 2503) from c_bz_refl).2.2.2.2 hKS) (show 36 ≤ (I 200) ∧ (I 200) ≤ 419 ∧ 0 ≤ (I 202) ∧ (I 202) ≤ 24 by (repeat' apply And.intro) <;> first | assumption | omega) (show ∀ i, (A 5) i ≤ 24 by rw [show (A 5) = (A 5) from (show c_bz I A I A p q (I 2503) from c_bz_refl).2.1 5 rfl]; exact hLN) (show 0 ≤ (I 2503) by omega) (show (I 2503) + 7000 * (j : Int) ≤ 1000000 by first | assumption | omega) (show c_W A j v4 p r by rw [ev4]; exact cw1) (show 0 ≤ p ∧ r ≤ 3001 by first | assumption | omega)) (fun r10 M11 q12 => ?_)
  rcases q12 with ⟨v13, I12a, A12a, B12a, C12a, e14, ⟨r15, r16⟩, hR12a, f17, f18⟩
  rw [e14]
  replace hR12a : w_Rep w_TC fr X u l I12a A12a B12a C12a M11 := hR12a
  replace f17 : c_bz I A I12a A12a p r (I 2503) := f17
  replace f18 : (I12a 2503) = (I 2503) ∧ (0 ≤ (I12a 1035) ∧ (I12a 1035) ≤ 10000) ∧ (I12a 200) = (I 200) ∧ (I12a 202) = (I 202) := f18
  obtain ⟨n19, ⟨n20, n21⟩, n22, n23⟩ := id f18
  clear f18
  have bx24 : c_bz I A I12a A12a p q (I 2503) := c_bz_trans (show c_bz I A I A p q (I 2503) from c_bz_refl) f17 (Int.le_refl _) (Int.le_refl _) (show p ≤ p ∨ r ≤ p by omega) (show r ≤ q ∨ r ≤ p by omega) (Int.le_refl _) (show (I 2503) ≤ (I 2503) by omega)
  have k25 : c_Ch (A12a 31) (c_P2 A12a j) (A 29 n) r s := c_Ch_agr c_P2_fam cw2 (c_bz_r f17 (show s ≤ p ∨ r ≤ r ∨ r ≤ p by omega))
  have k26 : (A 30 n) = -1 ∨ c_Bd A12a (c_W A12a j) (A 30 n) s n := cw3.imp_right (fun g => c_Bd_agr g (c_bz_r f17 (show n ≤ p ∨ r ≤ s ∨ r ≤ p by omega)))
  show w_W _ _ _ (12, [(0, .ref 39), (1, .int (Int32.ofInt (n))), (2, .int (Int32.ofInt (x)))], [.int (Int32.ofInt (v13))], M11) _
  refine w_adv (n := 4) (F' := (17, [(4, .int (Int32.ofInt ((-1)))), (3, .int (Int32.ofInt (v13))), (0, .ref 39), (1, .int (Int32.ofInt (n))), (2, .int (Int32.ofInt (x)))], [.ref 39], M11)) rfl ?_
  refine w_gf (v := .ref 26) hR12a rfl rfl rfl rfl ?_
  refine w_adv (n := 1) (F' := (21, [(4, .int (Int32.ofInt ((-1)))), (3, .int (Int32.ofInt (v13))), (0, .ref 39), (1, .int (Int32.ofInt (n))), (2, .int (Int32.ofInt (x)))], [.int (Int32.ofInt (n)), .ref 26], M11)) rfl ?_
  refine w_call (cm := 152) (as := [(0, .ref 26), (1, .int (Int32.ofInt (n)))]) (rest := []) (o := some (8, 26)) rfl (w_fitR hR12a rfl) (c_Tb (n) hR12a (show 1 ≤ d by omega) ⟨by omega, by omega⟩) (fun r27 M28 q29 => ?_)
  rcases q29 with ⟨v30, e31, ⟨r32, r33⟩, e34, f35⟩
  rw [e31, e34]
  replace f35 : c_rd (A12a 29) n v30 := f35
  have ev30 : v30 = (A 29 n) := (c_rd_eq f35 (by omega) (by omega)).trans (c_bz_n (show c_bz I A I12a A12a p q (I 2503) from bx24) (show A 27 n ≠ 16 from (by omega))).1
  show w_W _ _ _ (24, [(4, .int (Int32.ofInt ((-1)))), (3, .int (Int32.ofInt (v13))), (0, .ref 39), (1, .int (Int32.ofInt (n))), (2, .int (Int32.ofInt (x)))], [.int (Int32.ofInt (v30))], M11) _
  refine w_adv (n := 3) (F' := (29, [(6, .int (Int32.ofInt (0))), (5, .int (Int32.ofInt (v30))), (4, .int (Int32.ofInt ((-1)))), (3, .int (Int32.ofInt (v13))), (0, .ref 39), (1, .int (Int32.ofInt (n))), (2, .int (Int32.ofInt (x)))], [], M11)) rfl ?_
  have lp29 : ∀ fu29 : Nat, ∀ (w_29 : Int) (y29_4 : Int) (y29_5 : Int) (y29_6 : Int) (I_29 : Nat → Int) (A_29 : Nat → Int → Int) (B_29 C_29 : Nat → Nat) (M_29 : w_M) (hR_29 : w_Rep w_TC fr X u l I_29 A_29 B_29 C_29 M_29), w_in y29_4 → w_in y29_5 → w_in y29_6 → c_bz I A I_29 A_29 p q (I 2503) → (I_29 2503) = (I 2503) ∧ (0 ≤ (I_29 1035) ∧ (I_29 1035) ≤ 10000) ∧ (I_29 200) = (I 200) ∧ (I_29 202) = (I 202) → c_Ch (A_29 31) (c_P2 A_29 j) y29_5 w_29 s → (A 30 n) = -1 ∨ c_Bd A_29 (c_W A_29 j) (A 30 n) s n → p ≤ w_29 → 0 ≤ y29_6 ∧ y29_6 ≤ 1500 → 1500 - y29_6 < (fu29 : Int) → w_W (z_P L xs) (d + 1) 184 (29, [(0, .ref 39), (1, .int (Int32.ofInt (n))), (2, .int (Int32.ofInt (x))), (3, .int (Int32.ofInt (v13))), (4, .int (Int32.ofInt (y29_4))), (5, .int (Int32.ofInt (y29_5))), (6, .int (Int32.ofInt (y29_6)))], [], M_29) (cb_cases_Q fr X u l I A B C M n x i p q) := by
    intro fu29
    induction fu29 with
    | zero =>
      intro w_29 y29_4 y29_5 y29_6 I_29 A_29 B_29 C_29 M_29 hR_29 ⟨ra_y29_4, rb_y29_4⟩ ⟨ra_y29_5, rb_y29_5⟩ ⟨ra_y29_6, rb_y29_6⟩ hi29_0 hi29_1 hi29_2 hi29_3 hi29_4 hi29_5 hn29
      exfalso
      omega
    | succ fu29 ih29 =>
      intro w_29 y29_4 y29_5 y29_6 I_29 A_29 B_29 C_29 M_29 hR_29 ⟨ra_y29_4, rb_y29_4⟩ ⟨ra_y29_5, rb_y29_5⟩ ⟨ra_y29_6, rb_y29_6⟩ hi29_0 hi29_1 hi29_2 hi29_3 hi29_4 hi29_5 hn29
      have jn111 : w_W (z_P L xs) (d + 1) 184 (111, [(0, .ref 39), (1, .int (Int32.ofInt (n))), (2, .int (Int32.ofInt (x))), (3, .int (Int32.ofInt (v13))), (4, .int (Int32.ofInt (y29_4))), (5, .int (Int32.ofInt (y29_5))), (6, .int (Int32.ofInt (y29_6)))], [], M_29) (cb_cases_Q fr X u l I A B C M n x i p q) := by
        skip
        refine w_adv (n := 1) (F' := (112, [(0, .ref 39), (1, .int (Int32.ofInt (n))), (2, .int (Int32.ofInt (x))), (3, .int (Int32.ofInt (v13))), (4, .int (Int32.ofInt (y29_4))), (5, .int (Int32.ofInt (y29_5))), (6, .int (Int32.ofInt (y29_6)))], [.ref 39], M_29)) rfl ?_
        refine w_gf (v := .ref 26) hR_29 rfl rfl rfl rfl ?_
        refine w_adv (n := 1) (F' := (116, [(0, .ref 39), (1, .int (Int32.ofInt (n))), (2, .int (Int32.ofInt (x))), (3, .int (Int32.ofInt (v13))), (4, .int (Int32.ofInt (y29_4))), (5, .int (Int32.ofInt (y29_5))), (6, .int (Int32.ofInt (y29_6)))], [.int (Int32.ofInt (n)), .ref 26], M_29)) rfl ?_
        refine w_call (cm := 174) (as := [(0, .ref 26), (1, .int (Int32.ofInt (n)))]) (rest := []) (o := some (8, 26)) rfl (w_fitR hR_29 rfl) (c_Tc (n) hR_29 (show 1 ≤ d by omega) ⟨by omega, by omega⟩) (fun r36 M37 q38 => ?_)
        rcases q38 with ⟨v39, e40, ⟨r41, r42⟩, e43, f44⟩
        rw [e40, e43]
        replace f44 : c_rd (A_29 30) n v39 := f44
        have ev39 : v39 = (A 30 n) := (c_rd_eq f44 (by omega) (by omega)).trans (c_bz_n (show c_bz I A I_29 A_29 p q (I 2503) from hi29_0) (show A 27 n ≠ 16 from (by omega))).2
        show w_W _ _ _ (119, [(0, .ref 39), (1, .int (Int32.ofInt (n))), (2, .int (Int32.ofInt (x))), (3, .int (Int32.ofInt (v13))), (4, .int (Int32.ofInt (y29_4))), (5, .int (Int32.ofInt (y29_5))), (6, .int (Int32.ofInt (y29_6)))], [.int (Int32.ofInt (v39))], M_29) _
        refine w_adv (n := 1) (F' := (120, [(0, .ref 39), (1, .int (Int32.ofInt (n))), (2, .int (Int32.ofInt (x))), (3, .int (Int32.ofInt (v13))), (4, .int (Int32.ofInt (y29_4))), (5, .int (Int32.ofInt (y29_5))), (6, .int (Int32.ofInt (y29_6)))], [.int (Int32.ofInt ((-1))), .int (Int32.ofInt (v39))], M_29)) rfl ?_
        refine w_br2 (a := v39) (b := (-1)) rfl rfl ⟨by omega, by omega⟩ ⟨by omega, by omega⟩ (fun h45 => ?_) (fun h45 => ?_)
        · have h45 : ¬ v39 = (-1) := h45
          show w_W _ _ _ (130, [(0, .ref 39), (1, .int (Int32.ofInt (n))), (2, .int (Int32.ofInt (x))), (3, .int (Int32.ofInt (v13))), (4, .int (Int32.ofInt (y29_4))), (5, .int (Int32.ofInt (y29_5))), (6, .int (Int32.ofInt (y29_6)))], [], M_29) _
          have cwb : c_Bd A_29 (c_W A_29 j) (A 30 n) s n := hi29_3.resolve_left (by omega)
          refine w_adv (n := 2) (F' := (132, [(0, .ref 39), (1, .int (Int32.ofInt (n))), (2, .int (Int32.ofInt (x))), (3, .int (Int32.ofInt (v13))), (4, .int (Int32.ofInt (y29_4))), (5, .int (Int32.ofInt (y29_5))), (6, .int (Int32.ofInt (y29_6)))], [.ref 39, .ref 39], M_29)) rfl ?_
          refine w_gf (v := .ref 26) hR_29 rfl rfl rfl rfl ?_
          refine w_adv (n := 1) (F' := (136, [(0, .ref 39), (1, .int (Int32.ofInt (n))), (2, .int (Int32.ofInt (x))), (3, .int (Int32.ofInt (v13))), (4, .int (Int32.ofInt (y29_4))), (5, .int (Int32.ofInt (y29_5))), (6, .int (Int32.ofInt (y29_6)))], [.int (Int32.ofInt (n)), .ref 26, .ref 39], M_29)) rfl ?_
          refine w_call (cm := 174) (as := [(0, .ref 26), (1, .int (Int32.ofInt (n)))]) (rest := [.ref 39]) (o := some (8, 26)) rfl (w_fitR hR_29 rfl) (c_Tc (n) hR_29 (show 1 ≤ d by omega) ⟨by omega, by omega⟩) (fun r46 M47 q48 => ?_)
          rcases q48 with ⟨v49, e50, ⟨r51, r52⟩, e53, f54⟩
          rw [e50, e53]
          replace f54 : c_rd (A_29 30) n v49 := f54
          have ev49 : v49 = (A 30 n) := (c_rd_eq f54 (by omega) (by omega)).trans (c_bz_n (show c_bz I A I_29 A_29 p q (I 2503) from hi29_0) (show A 27 n ≠ 16 from (by omega))).2
          show w_W _ _ _ (139, [(0, .ref 39), (1, .int (Int32.ofInt (n))), (2, .int (Int32.ofInt (x))), (3, .int (Int32.ofInt (v13))), (4, .int (Int32.ofInt (y29_4))), (5, .int (Int32.ofInt (y29_5))), (6, .int (Int32.ofInt (y29_6)))], [.int (Int32.ofInt (v49)), .ref 39], M_29) _
          refine w_adv (n := 1) (F' := (140, [(0, .ref 39), (1, .int (Int32.ofInt (n))), (2, .int (Int32.ofInt (x))), (3, .int (Int32.ofInt (v13))), (4, .int (Int32.ofInt (y29_4))), (5, .int (Int32.ofInt (y29_5))), (6, .int (Int32.ofInt (y29_6)))], [.int (Int32.ofInt (x)), .int (Int32.ofInt (v49)), .ref 39], M_29)) rfl ?_
          refine w_call (cm := 144) (as := [(0, .ref 39), (1, .int (Int32.ofInt (v49))), (2, .int (Int32.ofInt (x)))]) (rest := []) (o := some (1, 39)) rfl (w_fitR hR_29 rfl) ((hB0 d (Nat.lt_succ_self d)).2 (v49) (x) (j) (s) (n) hR_29 (show 8 * j + 7 ≤ d by omega) ⟨by omega, by omega⟩ ⟨by omega, by omega⟩ (show 0 ≤ (I_29 1035) ∧ (I_29 1035) ≤ 10000 by (repeat' apply And.intro) <;> first | assumption | omega) (show c_ks A_29 by exact (show c_bz I A I_29 A_29 p q (I 2503) from hi29_0).2.2.2.2 hKS) (show 36 ≤ (I_29 200) ∧ (I_29 200) ≤ 419 ∧ 0 ≤ (I_29 202) ∧ (I_29 202) ≤ 24 by (repeat' apply And.intro) <;> first | assumption | omega) (show ∀ i, (A_29 5) i ≤ 24 by rw [show (A_29 5) = (A 5) from (show c_bz I A I_29 A_29 p q (I 2503) from hi29_0).2.1 5 rfl]; exact hLN) (show 0 ≤ (I_29 2503) by omega) (show (I_29 2503) + 7000 * (j : Int) ≤ 1000000 by first | assumption | omega) (show c_Bd A_29 (c_W A_29 j) v49 s n by rw [ev49]; exact cwb) (show 0 ≤ s ∧ n ≤ 3002 by first | assumption | omega)) (fun r55 M56 q57 => ?_)
          rcases q57 with ⟨v58, I57a, A57a, B57a, C57a, e59, ⟨r60, r61⟩, hR57a, f62, f63⟩
          rw [e59]
          replace hR57a : w_Rep w_TC fr X u l I57a A57a B57a C57a M56 := hR57a
          replace f62 : c_bz I_29 A_29 I57a A57a s n (I_29 2503) := f62
          replace f63 : (I57a 2503) = (I_29 2503) ∧ (0 ≤ (I57a 1035) ∧ (I57a 1035) ≤ 10000) ∧ (I57a 200) = (I_29 200) ∧ (I57a 202) = (I_29 202) := f63
          obtain ⟨n64, ⟨n65, n66⟩, n67, n68⟩ := id f63
          clear f63
          have bx69 : c_bz I A I57a A57a p q (I 2503) := c_bz_trans (show c_bz I A I_29 A_29 p q (I 2503) from hi29_0) f62 (Int.le_refl _) (Int.le_refl _) (show p ≤ s ∨ n ≤ s by omega) (show n ≤ q ∨ n ≤ s by omega) (Int.le_refl _) (show (I 2503) ≤ (I_29 2503) by omega)
          have k70 : c_Ch (A57a 31) (c_P2 A57a j) y29_5 w_29 s := c_Ch_agr c_P2_fam hi29_2 (c_bz_r f62 (show s ≤ s ∨ n ≤ w_29 ∨ n ≤ s by omega))
          clear hi29_2
          show w_W _ _ _ (143, [(0, .ref 39), (1, .int (Int32.ofInt (n))), (2, .int (Int32.ofInt (x))), (3, .int (Int32.ofInt (v13))), (4, .int (Int32.ofInt (y29_4))), (5, .int (Int32.ofInt (y29_5))), (6, .int (Int32.ofInt (y29_6)))], [.int (Int32.ofInt (v58))], M56) _
          refine w_adv (n := 3) (F' := (148, [(7, .int (Int32.ofInt (0))), (6, .int (Int32.ofInt (v58))), (0, .ref 39), (1, .int (Int32.ofInt (n))), (2, .int (Int32.ofInt (x))), (3, .int (Int32.ofInt (v13))), (4, .int (Int32.ofInt (y29_4))), (5, .int (Int32.ofInt (y29_5)))], [], M56)) rfl ?_
          have lp148 : ∀ fu148 : Nat, ∀ (y148_4 : Int) (y148_6 : Int) (y148_7 : Int) (I_148 : Nat → Int) (A_148 : Nat → Int → Int) (B_148 C_148 : Nat → Nat) (M_148 : w_M) (hR_148 : w_Rep w_TC fr X u l I_148 A_148 B_148 C_148 M_148), w_in y148_4 → w_in y148_6 → w_in y148_7 → c_bz I A I_148 A_148 p q (I 2503) → (I_148 2503) = (I 2503) ∧ (0 ≤ (I_148 1035) ∧ (I_148 1035) ≤ 10000) ∧ (I_148 200) = (I 200) ∧ (I_148 202) = (I 202) → 0 ≤ y148_7 ∧ y148_7 ≤ 1500 → 1500 - y148_7 < (fu148 : Int) → w_W (z_P L xs) (d + 1) 184 (148, [(0, .ref 39), (1, .int (Int32.ofInt (n))), (2, .int (Int32.ofInt (x))), (3, .int (Int32.ofInt (v13))), (4, .int (Int32.ofInt (y148_4))), (5, .int (Int32.ofInt (y29_5))), (6, .int (Int32.ofInt (y148_6))), (7, .int (Int32.ofInt (y148_7)))], [], M_148) (cb_cases_Q fr X u l I A B C M n x i p q) := by
            intro fu148
            induction fu148 with
            | zero =>
              intro y148_4 y148_6 y148_7 I_148 A_148 B_148 C_148 M_148 hR_148 ⟨ra_y148_4, rb_y148_4⟩ ⟨ra_y148_6, rb_y148_6⟩ ⟨ra_y148_7, rb_y148_7⟩ hi148_0 hi148_1 hi148_2 hn148
              exfalso
              omega
            | succ fu148 ih148 =>
              intro y148_4 y148_6 y148_7 I_148 A_148 B_148 C_148 M_148 hR_148 ⟨ra_y148_4, rb_y148_4⟩ ⟨ra_y148_6, rb_y148_6⟩ ⟨ra_y148_7, rb_y148_7⟩ hi148_0 hi148_1 hi148_2 hn148
              have jn215 : w_W (z_P L xs) (d + 1) 184 (215, [(0, .ref 39), (1, .int (Int32.ofInt (n))), (2, .int (Int32.ofInt (x))), (3, .int (Int32.ofInt (v13))), (4, .int (Int32.ofInt (y148_4))), (5, .int (Int32.ofInt (y29_5))), (6, .int (Int32.ofInt (y148_6))), (7, .int (Int32.ofInt (y148_7)))], [], M_148) (cb_cases_Q fr X u l I A B C M n x i p q) := by
                skip
                refine w_adv (n := 2) (F' := (218, [(0, .ref 39), (1, .int (Int32.ofInt (n))), (2, .int (Int32.ofInt (x))), (3, .int (Int32.ofInt (v13))), (4, .int (Int32.ofInt (y148_4))), (5, .int (Int32.ofInt (y29_5))), (6, .int (Int32.ofInt (y148_6))), (7, .int (Int32.ofInt (y148_7)))], [.int (Int32.ofInt (y148_6)), .ref 39], M_148)) rfl ?_
                refine w_call (cm := 150) (as := [(0, .ref 39), (1, .int (Int32.ofInt (y148_6)))]) (rest := []) (o := some (1, 39)) rfl (w_fitR hR_148 rfl) (c_bapp (y148_6) hR_148 (show 3 ≤ d by omega) ⟨by omega, by omega⟩ (show 0 ≤ (I_148 1035) ∧ (I_148 1035) ≤ 10000 by (repeat' apply And.intro) <;> first | assumption | omega) (show 0 ≤ (I_148 2503) by omega)) (fun r71 M72 q73 => ?_)
                rcases q73 with ⟨I73a, A73a, B73a, C73a, e74, hR73a, f75, f76⟩
                rw [e74]
                replace hR73a : w_Rep w_TC fr X u l I73a A73a B73a C73a M72 := hR73a
                replace f75 : c_bz I_148 A_148 I73a A73a 0 0 (I_148 2503) := f75
                replace f76 : (I73a 2503) = (I_148 2503) ∧ (0 ≤ (I73a 1035) ∧ (I73a 1035) ≤ 10000) ∧ (I73a 200) = (I_148 200) ∧ (I73a 202) = (I_148 202) := f76
                obtain ⟨n77, ⟨n78, n79⟩, n80, n81⟩ := id f76
                clear f76
                have bx82 : c_bz I A I73a A73a p q (I 2503) := c_bz_trans (show c_bz I A I_148 A_148 p q (I 2503) from hi148_0) f75 (Int.le_refl _) (Int.le_refl _) (show p ≤ 0 ∨ 0 ≤ 0 by omega) (show 0 ≤ q ∨ 0 ≤ 0 by omega) (Int.le_refl _) (show (I 2503) ≤ (I_148 2503) by omega)
                show w_W _ _ _ (221, [(0, .ref 39), (1, .int (Int32.ofInt (n))), (2, .int (Int32.ofInt (x))), (3, .int (Int32.ofInt (v13))), (4, .int (Int32.ofInt (y148_4))), (5, .int (Int32.ofInt (y29_5))), (6, .int (Int32.ofInt (y148_6))), (7, .int (Int32.ofInt (y148_7)))], [], M72) _
                refine w_fin (r := .inl none) (M' := M72) rfl ?_
                exact ⟨I73a, A73a, B73a, C73a, rfl, hR73a, (show c_bz I A I73a A73a p q (I 2503) by exact bx82), (show (I73a 2503) = (I 2503) ∧ (0 ≤ (I73a 1035) ∧ (I73a 1035) ≤ 10000) ∧ (I73a 200) = (I 200) ∧ (I73a 202) = (I 202) by (repeat' apply And.intro) <;> first | assumption | omega)⟩
              refine w_adv (n := 2) (F' := (153, [(0, .ref 39), (1, .int (Int32.ofInt (n))), (2, .int (Int32.ofInt (x))), (3, .int (Int32.ofInt (v13))), (4, .int (Int32.ofInt (y148_4))), (5, .int (Int32.ofInt (y29_5))), (6, .int (Int32.ofInt (y148_6))), (7, .int (Int32.ofInt (y148_7)))], [.int (Int32.ofInt (1500)), .int (Int32.ofInt (y148_7))], M_148)) rfl ?_
              refine w_br2 (a := y148_7) (b := 1500) rfl rfl ⟨by omega, by omega⟩ ⟨by omega, by omega⟩ (fun h83 => ?_) (fun h83 => ?_)
              · have h83 : y148_7 ≥ 1500 := h83
                show w_W _ _ _ (215, [(0, .ref 39), (1, .int (Int32.ofInt (n))), (2, .int (Int32.ofInt (x))), (3, .int (Int32.ofInt (v13))), (4, .int (Int32.ofInt (y148_4))), (5, .int (Int32.ofInt (y29_5))), (6, .int (Int32.ofInt (y148_6))), (7, .int (Int32.ofInt (y148_7)))], [], M_148) _
                exact jn215   
              · have h83 : ¬ (y148_7 ≥ 1500) := h83
                show w_W _ _ _ (156, [(0, .ref 39), (1, .int (Int32.ofInt (n))), (2, .int (Int32.ofInt (x))), (3, .int (Int32.ofInt (v13))), (4, .int (Int32.ofInt (y148_4))), (5, .int (Int32.ofInt (y29_5))), (6, .int (Int32.ofInt (y148_6))), (7, .int (Int32.ofInt (y148_7)))], [], M_148) _
                refine w_adv (n := 2) (F' := (159, [(0, .ref 39), (1, .int (Int32.ofInt (n))), (2, .int (Int32.ofInt (x))), (3, .int (Int32.ofInt (v13))), (4, .int (Int32.ofInt (y148_4))), (5, .int (Int32.ofInt (y29_5))), (6, .int (Int32.ofInt (y148_6))), (7, .int (Int32.ofInt (y148_7)))], [.int (Int32.ofInt ((-1))), .int (Int32.ofInt (y148_4))], M_148)) rfl ?_
                refine w_br2 (a := y148_4) (b := (-1)) rfl rfl ⟨by omega, by omega⟩ ⟨by omega, by omega⟩ (fun h84 => ?_) (fun h84 => ?_)
                · have h84 : y148_4 = (-1) := h84
                  show w_W _ _ _ (215, [(0, .ref 39), (1, .int (Int32.ofInt (n))), (2, .int (Int32.ofInt (x))), (3, .int (Int32.ofInt (v13))), (4, .int (Int32.ofInt (y148_4))), (5, .int (Int32.ofInt (y29_5))), (6, .int (Int32.ofInt (y148_6))), (7, .int (Int32.ofInt (y148_7)))], [], M_148) _
                  exact jn215   
                · have h84 : ¬ (y148_4 = (-1)) := h84
                  show w_W _ _ _ (162, [(0, .ref 39), (1, .int (Int32.ofInt (n))), (2, .int (Int32.ofInt (x))), (3, .int (Int32.ofInt (v13))), (4, .int (Int32.ofInt (y148_4))), (5, .int (Int32.ofInt (y29_5))), (6, .int (Int32.ofInt (y148_6))), (7, .int (Int32.ofInt (y148_7)))], [], M_148) _
                  refine w_adv (n := 1) (F' := (163, [(0, .ref 39), (1, .int (Int32.ofInt (n))), (2, .int (Int32.ofInt (x))), (3, .int (Int32.ofInt (v13))), (4, .int (Int32.ofInt (y148_4))), (5, .int (Int32.ofInt (y29_5))), (6, .int (Int32.ofInt (y148_6))), (7, .int (Int32.ofInt (y148_7)))], [.ref 39], M_148)) rfl ?_
                  refine w_gf (v := .ref 16) hR_148 rfl rfl rfl rfl ?_
                  refine w_adv (n := 3) (F' := (170, [(0, .ref 39), (1, .int (Int32.ofInt (n))), (2, .int (Int32.ofInt (x))), (3, .int (Int32.ofInt (v13))), (4, .int (Int32.ofInt (y148_4))), (5, .int (Int32.ofInt (y29_5))), (6, .int (Int32.ofInt (y148_6))), (7, .int (Int32.ofInt (y148_7)))], [.ref 39, .int (Int32.ofInt (v13)), .int (Int32.ofInt (12)), .ref 16], M_148)) rfl ?_
                  refine w_gf (v := .ref 26) hR_148 rfl rfl rfl rfl ?_
                  refine w_adv (n := 1) (F' := (175, [(0, .ref 39), (1, .int (Int32.ofInt (n))), (2, .int (Int32.ofInt (x))), (3, .int (Int32.ofInt (v13))), (4, .int (Int32.ofInt (y148_4))), (5, .int (Int32.ofInt (y29_5))), (6, .int (Int32.ofInt (y148_6))), (7, .int (Int32.ofInt (y148_7)))], [.int (Int32.ofInt (y148_4)), .ref 26, .int (Int32.ofInt (v13)), .int (Int32.ofInt (12)), .ref 16], M_148)) rfl ?_
                  refine w_call (cm := 152) (as := [(0, .ref 26), (1, .int (Int32.ofInt (y148_4)))]) (rest := [.int (Int32.ofInt (v13)), .int (Int32.ofInt (12)), .ref 16]) (o := some (8, 26)) rfl (w_fitR hR_148 rfl) (c_Tb (y148_4) hR_148 (show 1 ≤ d by omega) ⟨by omega, by omega⟩) (fun r85 M86 q87 => ?_)
                  rcases q87 with ⟨v88, e89, ⟨r90, r91⟩, e92, f93⟩
                  rw [e89, e92]
                  replace f93 : c_rd (A_148 29) y148_4 v88 := f93
                  show w_W _ _ _ (178, [(0, .ref 39), (1, .int (Int32.ofInt (n))), (2, .int (Int32.ofInt (x))), (3, .int (Int32.ofInt (v13))), (4, .int (Int32.ofInt (y148_4))), (5, .int (Int32.ofInt (y29_5))), (6, .int (Int32.ofInt (y148_6))), (7, .int (Int32.ofInt (y148_7)))], [.int (Int32.ofInt (v88)), .int (Int32.ofInt (v13)), .int (Int32.ofInt (12)), .ref 16], M_148) _
                  refine w_adv (n := 1) (F' := (180, [(0, .ref 39), (1, .int (Int32.ofInt (n))), (2, .int (Int32.ofInt (x))), (3, .int (Int32.ofInt (v13))), (4, .int (Int32.ofInt (y148_4))), (5, .int (Int32.ofInt (y29_5))), (6, .int (Int32.ofInt (y148_6))), (7, .int (Int32.ofInt (y148_7)))], [.int (Int32.ofInt (y148_6)), .int (Int32.ofInt (v88)), .int (Int32.ofInt (v13)), .int (Int32.ofInt (12)), .ref 16], M_148)) rfl ?_
                  refine w_call (cm := 149) (as := [(0, .ref 16), (1, .int (Int32.ofInt (12))), (2, .int (Int32.ofInt (v13))), (3, .int (Int32.ofInt (v88))), (4, .int (Int32.ofInt (y148_6)))]) (rest := []) (o := some (2, 16)) rfl (w_fitR hR_148 rfl) (c_kmk (12) (v13) (v88) (y148_6) hR_148 (show 2 ≤ d by omega) ⟨by omega, by omega⟩ ⟨by omega, by omega⟩ ⟨by omega, by omega⟩ ⟨by omega, by omega⟩ (show 0 ≤ (I_148 1035) ∧ (I_148 1035) ≤ 10000 by (repeat' apply And.intro) <;> first | assumption | omega) (show 0 ≤ (I_148 2503) by omega)) (fun r94 M95 q96 => ?_)
                  rcases q96 with ⟨v97, I96a, A96a, B96a, C96a, e98, ⟨r99, r100⟩, hR96a, f101, f102, f103⟩
                  rw [e98]
                  replace hR96a : w_Rep w_TC fr X u l I96a A96a B96a C96a M95 := hR96a
                  replace f101 : c_bz I_148 A_148 I96a A96a 0 0 (I_148 2503) := f101
                  replace f102 : (I96a 2503) = (I_148 2503) ∧ (0 ≤ (I96a 1035) ∧ (I96a 1035) ≤ 10000) ∧ (I96a 200) = (I_148 200) ∧ (I96a 202) = (I_148 202) := f102
                  obtain ⟨n104, ⟨n105, n106⟩, n107, n108⟩ := id f102
                  clear f102
                  replace f103 : (I96a 2502) = (I_148 2502) := f103
                  have bx109 : c_bz I A I96a A96a p q (I 2503) := c_bz_trans (show c_bz I A I_148 A_148 p q (I 2503) from hi148_0) f101 (Int.le_refl _) (Int.le_refl _) (show p ≤ 0 ∨ 0 ≤ 0 by omega) (show 0 ≤ q ∨ 0 ≤ 0 by omega) (Int.le_refl _) (show (I 2503) ≤ (I_148 2503) by omega)
                  show w_W _ _ _ (183, [(0, .ref 39), (1, .int (Int32.ofInt (n))), (2, .int (Int32.ofInt (x))), (3, .int (Int32.ofInt (v13))), (4, .int (Int32.ofInt (y148_4))), (5, .int (Int32.ofInt (y29_5))), (6, .int (Int32.ofInt (y148_6))), (7, .int (Int32.ofInt (y148_7)))], [.int (Int32.ofInt (v97))], M95) _
                  refine w_adv (n := 3) (F' := (187, [(6, .int (Int32.ofInt (v97))), (0, .ref 39), (1, .int (Int32.ofInt (n))), (2, .int (Int32.ofInt (x))), (3, .int (Int32.ofInt (v13))), (4, .int (Int32.ofInt (y148_4))), (5, .int (Int32.ofInt (y29_5))), (7, .int (Int32.ofInt (y148_7)))], [.ref 39, .ref 39], M95)) rfl ?_
                  refine w_gf (v := .ref 26) hR96a rfl rfl rfl rfl ?_
                  refine w_adv (n := 1) (F' := (192, [(6, .int (Int32.ofInt (v97))), (0, .ref 39), (1, .int (Int32.ofInt (n))), (2, .int (Int32.ofInt (x))), (3, .int (Int32.ofInt (v13))), (4, .int (Int32.ofInt (y148_4))), (5, .int (Int32.ofInt (y29_5))), (7, .int (Int32.ofInt (y148_7)))], [.int (Int32.ofInt (y148_4)), .ref 26, .ref 39], M95)) rfl ?_
                  refine w_call (cm := 145) (as := [(0, .ref 26), (1, .int (Int32.ofInt (y148_4)))]) (rest := [.ref 39]) (o := some (8, 26)) rfl (w_fitR hR96a rfl) (c_Ta (y148_4) hR96a (show 1 ≤ d by omega) ⟨by omega, by omega⟩) (fun r110 M111 q112 => ?_)
                  rcases q112 with ⟨v113, e114, ⟨r115, r116⟩, e117, f118⟩
                  rw [e114, e117]
                  replace f118 : c_rd (A96a 28) y148_4 v113 := f118
                  show w_W _ _ _ (195, [(6, .int (Int32.ofInt (v97))), (0, .ref 39), (1, .int (Int32.ofInt (n))), (2, .int (Int32.ofInt (x))), (3, .int (Int32.ofInt (v13))), (4, .int (Int32.ofInt (y148_4))), (5, .int (Int32.ofInt (y29_5))), (7, .int (Int32.ofInt (y148_7)))], [.int (Int32.ofInt (v113)), .ref 39], M95) _
                  refine w_call (cm := 188) (as := [(0, .ref 39), (1, .int (Int32.ofInt (v113)))]) (rest := []) (o := some (1, 39)) rfl (w_fitR hR96a rfl) (c_addPattern (v113) hR96a (show 6 ≤ d by omega) ⟨by omega, by omega⟩ (show 0 ≤ (I96a 1035) ∧ (I96a 1035) ≤ 10000 by (repeat' apply And.intro) <;> first | assumption | omega) (show c_ks A96a by exact (show c_bz I A I96a A96a p q (I 2503) from bx109).2.2.2.2 hKS) (show 36 ≤ (I96a 200) ∧ (I96a 200) ≤ 419 ∧ 0 ≤ (I96a 202) ∧ (I96a 202) ≤ 24 by (repeat' apply And.intro) <;> first | assumption | omega) (show ∀ i, (A96a 5) i ≤ 24 by rw [show (A96a 5) = (A 5) from (show c_bz I A I96a A96a p q (I 2503) from bx109).2.1 5 rfl]; exact hLN) (show 0 ≤ (I96a 2503) by omega)) (fun r119 M120 q121 => ?_)
                  rcases q121 with ⟨I121a, A121a, B121a, C121a, e122, hR121a, f123, f124⟩
                  rw [e122]
                  replace hR121a : w_Rep w_TC fr X u l I121a A121a B121a C121a M120 := hR121a
                  replace f123 : c_bz I96a A96a I121a A121a 0 0 (I96a 2503) := f123
                  replace f124 : (I121a 2503) = (I96a 2503) ∧ (0 ≤ (I121a 1035) ∧ (I121a 1035) ≤ 10000) ∧ (I121a 200) = (I96a 200) ∧ (I121a 202) = (I96a 202) := f124
                  obtain ⟨n125, ⟨n126, n127⟩, n128, n129⟩ := id f124
                  clear f124
                  have bx130 : c_bz I A I121a A121a p q (I 2503) := c_bz_trans (show c_bz I A I96a A96a p q (I 2503) from bx109) f123 (Int.le_refl _) (Int.le_refl _) (show p ≤ 0 ∨ 0 ≤ 0 by omega) (show 0 ≤ q ∨ 0 ≤ 0 by omega) (Int.le_refl _) (show (I 2503) ≤ (I96a 2503) by omega)
                  show w_W _ _ _ (198, [(6, .int (Int32.ofInt (v97))), (0, .ref 39), (1, .int (Int32.ofInt (n))), (2, .int (Int32.ofInt (x))), (3, .int (Int32.ofInt (v13))), (4, .int (Int32.ofInt (y148_4))), (5, .int (Int32.ofInt (y29_5))), (7, .int (Int32.ofInt (y148_7)))], [], M120) _
                  refine w_adv (n := 1) (F' := (199, [(6, .int (Int32.ofInt (v97))), (0, .ref 39), (1, .int (Int32.ofInt (n))), (2, .int (Int32.ofInt (x))), (3, .int (Int32.ofInt (v13))), (4, .int (Int32.ofInt (y148_4))), (5, .int (Int32.ofInt (y29_5))), (7, .int (Int32.ofInt (y148_7)))], [.ref 39], M120)) rfl ?_
                  refine w_gf (v := .ref 26) hR121a rfl rfl rfl rfl ?_
                  refine w_adv (n := 1) (F' := (204, [(6, .int (Int32.ofInt (v97))), (0, .ref 39), (1, .int (Int32.ofInt (n))), (2, .int (Int32.ofInt (x))), (3, .int (Int32.ofInt (v13))), (4, .int (Int32.ofInt (y148_4))), (5, .int (Int32.ofInt (y29_5))), (7, .int (Int32.ofInt (y148_7)))], [.int (Int32.ofInt (y148_4)), .ref 26], M120)) rfl ?_
                  refine w_call (cm := 174) (as := [(0, .ref 26), (1, .int (Int32.ofInt (y148_4)))]) (rest := []) (o := some (8, 26)) rfl (w_fitR hR121a rfl) (c_Tc (y148_4) hR121a (show 1 ≤ d by omega) ⟨by omega, by omega⟩) (fun r131 M132 q133 => ?_)
                  rcases q133 with ⟨v134, e135, ⟨r136, r137⟩, e138, f139⟩
                  rw [e135, e138]
                  replace f139 : c_rd (A121a 30) y148_4 v134 := f139
                  show w_W _ _ _ (207, [(6, .int (Int32.ofInt (v97))), (0, .ref 39), (1, .int (Int32.ofInt (n))), (2, .int (Int32.ofInt (x))), (3, .int (Int32.ofInt (v13))), (4, .int (Int32.ofInt (y148_4))), (5, .int (Int32.ofInt (y29_5))), (7, .int (Int32.ofInt (y148_7)))], [.int (Int32.ofInt (v134))], M120) _
                  refine w_adv (n := 1) (F' := (209, [(4, .int (Int32.ofInt (v134))), (6, .int (Int32.ofInt (v97))), (0, .ref 39), (1, .int (Int32.ofInt (n))), (2, .int (Int32.ofInt (x))), (3, .int (Int32.ofInt (v13))), (5, .int (Int32.ofInt (y29_5))), (7, .int (Int32.ofInt (y148_7)))], [], M120)) rfl ?_
                  refine w_inc (nL := 8) (a := y148_7) rfl rfl rfl (by decide) ?_
                  refine w_adv (n := 1) (F' := (148, [(7, .int (Int32.ofInt (y148_7 + 1))), (4, .int (Int32.ofInt (v134))), (6, .int (Int32.ofInt (v97))), (0, .ref 39), (1, .int (Int32.ofInt (n))), (2, .int (Int32.ofInt (x))), (3, .int (Int32.ofInt (v13))), (5, .int (Int32.ofInt (y29_5)))], [], M120)) rfl ?_
                  refine w_ls (ls := [(0, .ref 39), (1, .int (Int32.ofInt (n))), (2, .int (Int32.ofInt (x))), (3, .int (Int32.ofInt (v13))), (4, .int (Int32.ofInt (v134))), (5, .int (Int32.ofInt (y29_5))), (6, .int (Int32.ofInt (v97))), (7, .int (Int32.ofInt (y148_7 + 1)))]) (show List.Nodup [0, 1, 2, 3, 4, 5, 6, 7] by decide) (show List.Nodup [7, 4, 6, 0, 1, 2, 3, 5] by decide) (List.forall_mem_cons.mpr ⟨(List.Mem.tail _ (List.Mem.tail _ (List.Mem.tail _ (List.Mem.head _)))), (List.forall_mem_cons.mpr ⟨(List.Mem.tail _ (List.Mem.tail _ (List.Mem.tail _ (List.Mem.tail _ (List.Mem.head _))))), (List.forall_mem_cons.mpr ⟨(List.Mem.tail _ (List.Mem.tail _ (List.Mem.tail _ (List.Mem.tail _ (List.Mem.tail _ (List.Mem.head _)))))), (List.forall_mem_cons.mpr ⟨(List.Mem.tail _ (List.Mem.tail _ (List.Mem.tail _ (List.Mem.tail _ (List.Mem.tail _ (List.Mem.tail _ (List.Mem.head _))))))), (List.forall_mem_cons.mpr ⟨(List.Mem.tail _ (List.Mem.head _)), (List.forall_mem_cons.mpr ⟨(List.Mem.tail _ (List.Mem.tail _ (List.Mem.tail _ (List.Mem.tail _ (List.Mem.tail _ (List.Mem.tail _ (List.Mem.tail _ (List.Mem.head _)))))))), (List.forall_mem_cons.mpr ⟨(List.Mem.tail _ (List.Mem.tail _ (List.Mem.head _))), (List.forall_mem_cons.mpr ⟨(List.Mem.head _), (fun _ h => by cases h)⟩)⟩)⟩)⟩)⟩)⟩)⟩)⟩) ?_
                  exact ih148  (v134) (v97) (y148_7 + 1) I121a A121a B121a C121a M120 hR121a ⟨by omega, by omega⟩ ⟨by omega, by omega⟩ ⟨by omega, by omega⟩ (show c_bz I A I121a A121a p q (I 2503) by exact bx130) (show (I121a 2503) = (I 2503) ∧ (0 ≤ (I121a 1035) ∧ (I121a 1035) ≤ 10000) ∧ (I121a 200) = (I 200) ∧ (I121a 202) = (I 202) by (repeat' apply And.intro) <;> first | assumption | omega) (show 0 ≤ (y148_7 + 1) ∧ (y148_7 + 1) ≤ 1500 by omega) (show 1500 - (y148_7 + 1) < (fu148 : Int) by omega)
          refine w_ls (ls := [(0, .ref 39), (1, .int (Int32.ofInt (n))), (2, .int (Int32.ofInt (x))), (3, .int (Int32.ofInt (v13))), (4, .int (Int32.ofInt (y29_4))), (5, .int (Int32.ofInt (y29_5))), (6, .int (Int32.ofInt (v58))), (7, .int (Int32.ofInt (0)))]) (show List.Nodup [0, 1, 2, 3, 4, 5, 6, 7] by decide) (show List.Nodup [7, 6, 0, 1, 2, 3, 4, 5] by decide) (List.forall_mem_cons.mpr ⟨(List.Mem.tail _ (List.Mem.tail _ (List.Mem.head _))), (List.forall_mem_cons.mpr ⟨(List.Mem.tail _ (List.Mem.tail _ (List.Mem.tail _ (List.Mem.head _)))), (List.forall_mem_cons.mpr ⟨(List.Mem.tail _ (List.Mem.tail _ (List.Mem.tail _ (List.Mem.tail _ (List.Mem.head _))))), (List.forall_mem_cons.mpr ⟨(List.Mem.tail _ (List.Mem.tail _ (List.Mem.tail _ (List.Mem.tail _ (List.Mem.tail _ (List.Mem.head _)))))), (List.forall_mem_cons.mpr ⟨(List.Mem.tail _ (List.Mem.tail _ (List.Mem.tail _ (List.Mem.tail _ (List.Mem.tail _ (List.Mem.tail _ (List.Mem.head _))))))), (List.forall_mem_cons.mpr ⟨(List.Mem.tail _ (List.Mem.tail _ (List.Mem.tail _ (List.Mem.tail _ (List.Mem.tail _ (List.Mem.tail _ (List.Mem.tail _ (List.Mem.head _)))))))), (List.forall_mem_cons.mpr ⟨(List.Mem.tail _ (List.Mem.head _)), (List.forall_mem_cons.mpr ⟨(List.Mem.head _), (fun _ h => by cases h)⟩)⟩)⟩)⟩)⟩)⟩)⟩)⟩) ?_
          exact lp148 ((1500 - 0 : Int).toNat + 1)  (y29_4) (v58) (0) I57a A57a B57a C57a M56 hR57a ⟨by omega, by omega⟩ ⟨by omega, by omega⟩ ⟨by omega, by omega⟩ (show c_bz I A I57a A57a p q (I 2503) by exact bx69) (show (I57a 2503) = (I 2503) ∧ (0 ≤ (I57a 1035) ∧ (I57a 1035) ≤ 10000) ∧ (I57a 200) = (I 200) ∧ (I57a 202) = (I 202) by (repeat' apply And.intro) <;> first | assumption | omega) (show 0 ≤ (0 : Int) ∧ (0 : Int) ≤ 1500 by omega) (show 1500 - 0 < (((1500 - 0 : Int).toNat + 1 : Nat) : Int) by omega)
        · have h45 : ¬ (¬ v39 = (-1)) := h45
          show w_W _ _ _ (123, [(0, .ref 39), (1, .int (Int32.ofInt (n))), (2, .int (Int32.ofInt (x))), (3, .int (Int32.ofInt (v13))), (4, .int (Int32.ofInt (y29_4))), (5, .int (Int32.ofInt (y29_5))), (6, .int (Int32.ofInt (y29_6)))], [], M_29) _
          refine w_adv (n := 1) (F' := (124, [(0, .ref 39), (1, .int (Int32.ofInt (n))), (2, .int (Int32.ofInt (x))), (3, .int (Int32.ofInt (v13))), (4, .int (Int32.ofInt (y29_4))), (5, .int (Int32.ofInt (y29_5))), (6, .int (Int32.ofInt (y29_6)))], [.ref 39], M_29)) rfl ?_
          refine w_call (cm := 187) (as := [(0, .ref 39)]) (rest := []) (o := some (1, 39)) rfl (w_fitR hR_29 rfl) (c_noMatch hR_29 (show 4 ≤ d by omega) (show 0 ≤ (I_29 1035) ∧ (I_29 1035) ≤ 10000 by (repeat' apply And.intro) <;> first | assumption | omega) (show 0 ≤ (I_29 2503) by omega)) (fun r140 M141 q142 => ?_)
          rcases q142 with ⟨v143, I142a, A142a, B142a, C142a, e144, ⟨r145, r146⟩, hR142a, f147, f148⟩
          rw [e144]
          replace hR142a : w_Rep w_TC fr X u l I142a A142a B142a C142a M141 := hR142a
          replace f147 : c_bz I_29 A_29 I142a A142a 0 0 (I_29 2503) := f147
          replace f148 : (I142a 2503) = (I_29 2503) ∧ (0 ≤ (I142a 1035) ∧ (I142a 1035) ≤ 10000) ∧ (I142a 200) = (I_29 200) ∧ (I142a 202) = (I_29 202) := f148
          obtain ⟨n149, ⟨n150, n151⟩, n152, n153⟩ := id f148
          clear f148
          have bx154 : c_bz I A I142a A142a p q (I 2503) := c_bz_trans (show c_bz I A I_29 A_29 p q (I 2503) from hi29_0) f147 (Int.le_refl _) (Int.le_refl _) (show p ≤ 0 ∨ 0 ≤ 0 by omega) (show 0 ≤ q ∨ 0 ≤ 0 by omega) (Int.le_refl _) (show (I 2503) ≤ (I_29 2503) by omega)
          have k155 : c_Ch (A142a 31) (c_P2 A142a j) y29_5 w_29 s := c_Ch_agr c_P2_fam hi29_2 (c_bz_r f147 (show s ≤ 0 ∨ 0 ≤ w_29 ∨ 0 ≤ 0 by omega))
          clear hi29_2
          have k156 : (A 30 n) = -1 ∨ c_Bd A142a (c_W A142a j) (A 30 n) s n := hi29_3.imp_right (fun g => c_Bd_agr g (c_bz_r f147 (show n ≤ 0 ∨ 0 ≤ s ∨ 0 ≤ 0 by omega)))
          clear hi29_3
          show w_W _ _ _ (127, [(0, .ref 39), (1, .int (Int32.ofInt (n))), (2, .int (Int32.ofInt (x))), (3, .int (Int32.ofInt (v13))), (4, .int (Int32.ofInt (y29_4))), (5, .int (Int32.ofInt (y29_5))), (6, .int (Int32.ofInt (y29_6)))], [.int (Int32.ofInt (v143))], M141) _
          refine w_adv (n := 4) (F' := (148, [(7, .int (Int32.ofInt (0))), (6, .int (Int32.ofInt (v143))), (0, .ref 39), (1, .int (Int32.ofInt (n))), (2, .int (Int32.ofInt (x))), (3, .int (Int32.ofInt (v13))), (4, .int (Int32.ofInt (y29_4))), (5, .int (Int32.ofInt (y29_5)))], [], M141)) rfl ?_
          have lp148 : ∀ fu148 : Nat, ∀ (y148_4 : Int) (y148_6 : Int) (y148_7 : Int) (I_148 : Nat → Int) (A_148 : Nat → Int → Int) (B_148 C_148 : Nat → Nat) (M_148 : w_M) (hR_148 : w_Rep w_TC fr X u l I_148 A_148 B_148 C_148 M_148), w_in y148_4 → w_in y148_6 → w_in y148_7 → c_bz I A I_148 A_148 p q (I 2503) → (I_148 2503) = (I 2503) ∧ (0 ≤ (I_148 1035) ∧ (I_148 1035) ≤ 10000) ∧ (I_148 200) = (I 200) ∧ (I_148 202) = (I 202) → 0 ≤ y148_7 ∧ y148_7 ≤ 1500 → 1500 - y148_7 < (fu148 : Int) → w_W (z_P L xs) (d + 1) 184 (148, [(0, .ref 39), (1, .int (Int32.ofInt (n))), (2, .int (Int32.ofInt (x))), (3, .int (Int32.ofInt (v13))), (4, .int (Int32.ofInt (y148_4))), (5, .int (Int32.ofInt (y29_5))), (6, .int (Int32.ofInt (y148_6))), (7, .int (Int32.ofInt (y148_7)))], [], M_148) (cb_cases_Q fr X u l I A B C M n x i p q) := by
            intro fu148
            induction fu148 with
            | zero =>
              intro y148_4 y148_6 y148_7 I_148 A_148 B_148 C_148 M_148 hR_148 ⟨ra_y148_4, rb_y148_4⟩ ⟨ra_y148_6, rb_y148_6⟩ ⟨ra_y148_7, rb_y148_7⟩ hi148_0 hi148_1 hi148_2 hn148
              exfalso
              omega
            | succ fu148 ih148 =>
              intro y148_4 y148_6 y148_7 I_148 A_148 B_148 C_148 M_148 hR_148 ⟨ra_y148_4, rb_y148_4⟩ ⟨ra_y148_6, rb_y148_6⟩ ⟨ra_y148_7, rb_y148_7⟩ hi148_0 hi148_1 hi148_2 hn148
              have jn215 : w_W (z_P L xs) (d + 1) 184 (215, [(0, .ref 39), (1, .int (Int32.ofInt (n))), (2, .int (Int32.ofInt (x))), (3, .int (Int32.ofInt (v13))), (4, .int (Int32.ofInt (y148_4))), (5, .int (Int32.ofInt (y29_5))), (6, .int (Int32.ofInt (y148_6))), (7, .int (Int32.ofInt (y148_7)))], [], M_148) (cb_cases_Q fr X u l I A B C M n x i p q) := by
                skip
                refine w_adv (n := 2) (F' := (218, [(0, .ref 39), (1, .int (Int32.ofInt (n))), (2, .int (Int32.ofInt (x))), (3, .int (Int32.ofInt (v13))), (4, .int (Int32.ofInt (y148_4))), (5, .int (Int32.ofInt (y29_5))), (6, .int (Int32.ofInt (y148_6))), (7, .int (Int32.ofInt (y148_7)))], [.int (Int32.ofInt (y148_6)), .ref 39], M_148)) rfl ?_
                refine w_call (cm := 150) (as := [(0, .ref 39), (1, .int (Int32.ofInt (y148_6)))]) (rest := []) (o := some (1, 39)) rfl (w_fitR hR_148 rfl) (c_bapp (y148_6) hR_148 (show 3 ≤ d by omega) ⟨by omega, by omega⟩ (show 0 ≤ (I_148 1035) ∧ (I_148 1035) ≤ 10000 by (repeat' apply And.intro) <;> first | assumption | omega) (show 0 ≤ (I_148 2503) by omega)) (fun r157 M158 q159 => ?_)
                rcases q159 with ⟨I159a, A159a, B159a, C159a, e160, hR159a, f161, f162⟩
                rw [e160]
                replace hR159a : w_Rep w_TC fr X u l I159a A159a B159a C159a M158 := hR159a
                replace f161 : c_bz I_148 A_148 I159a A159a 0 0 (I_148 2503) := f161
                replace f162 : (I159a 2503) = (I_148 2503) ∧ (0 ≤ (I159a 1035) ∧ (I159a 1035) ≤ 10000) ∧ (I159a 200) = (I_148 200) ∧ (I159a 202) = (I_148 202) := f162
                obtain ⟨n163, ⟨n164, n165⟩, n166, n167⟩ := id f162
                clear f162
                have bx168 : c_bz I A I159a A159a p q (I 2503) := c_bz_trans (show c_bz I A I_148 A_148 p q (I 2503) from hi148_0) f161 (Int.le_refl _) (Int.le_refl _) (show p ≤ 0 ∨ 0 ≤ 0 by omega) (show 0 ≤ q ∨ 0 ≤ 0 by omega) (Int.le_refl _) (show (I 2503) ≤ (I_148 2503) by omega)
                show w_W _ _ _ (221, [(0, .ref 39), (1, .int (Int32.ofInt (n))), (2, .int (Int32.ofInt (x))), (3, .int (Int32.ofInt (v13))), (4, .int (Int32.ofInt (y148_4))), (5, .int (Int32.ofInt (y29_5))), (6, .int (Int32.ofInt (y148_6))), (7, .int (Int32.ofInt (y148_7)))], [], M158) _
                refine w_fin (r := .inl none) (M' := M158) rfl ?_
                exact ⟨I159a, A159a, B159a, C159a, rfl, hR159a, (show c_bz I A I159a A159a p q (I 2503) by exact bx168), (show (I159a 2503) = (I 2503) ∧ (0 ≤ (I159a 1035) ∧ (I159a 1035) ≤ 10000) ∧ (I159a 200) = (I 200) ∧ (I159a 202) = (I 202) by (repeat' apply And.intro) <;> first | assumption | omega)⟩
              refine w_adv (n := 2) (F' := (153, [(0, .ref 39), (1, .int (Int32.ofInt (n))), (2, .int (Int32.ofInt (x))), (3, .int (Int32.ofInt (v13))), (4, .int (Int32.ofInt (y148_4))), (5, .int (Int32.ofInt (y29_5))), (6, .int (Int32.ofInt (y148_6))), (7, .int (Int32.ofInt (y148_7)))], [.int (Int32.ofInt (1500)), .int (Int32.ofInt (y148_7))], M_148)) rfl ?_
              refine w_br2 (a := y148_7) (b := 1500) rfl rfl ⟨by omega, by omega⟩ ⟨by omega, by omega⟩ (fun h169 => ?_) (fun h169 => ?_)
              · have h169 : y148_7 ≥ 1500 := h169
                show w_W _ _ _ (215, [(0, .ref 39), (1, .int (Int32.ofInt (n))), (2, .int (Int32.ofInt (x))), (3, .int (Int32.ofInt (v13))), (4, .int (Int32.ofInt (y148_4))), (5, .int (Int32.ofInt (y29_5))), (6, .int (Int32.ofInt (y148_6))), (7, .int (Int32.ofInt (y148_7)))], [], M_148) _
                exact jn215   
              · have h169 : ¬ (y148_7 ≥ 1500) := h169
                show w_W _ _ _ (156, [(0, .ref 39), (1, .int (Int32.ofInt (n))), (2, .int (Int32.ofInt (x))), (3, .int (Int32.ofInt (v13))), (4, .int (Int32.ofInt (y148_4))), (5, .int (Int32.ofInt (y29_5))), (6, .int (Int32.ofInt (y148_6))), (7, .int (Int32.ofInt (y148_7)))], [], M_148) _
                refine w_adv (n := 2) (F' := (159, [(0, .ref 39), (1, .int (Int32.ofInt (n))), (2, .int (Int32.ofInt (x))), (3, .int (Int32.ofInt (v13))), (4, .int (Int32.ofInt (y148_4))), (5, .int (Int32.ofInt (y29_5))), (6, .int (Int32.ofInt (y148_6))), (7, .int (Int32.ofInt (y148_7)))], [.int (Int32.ofInt ((-1))), .int (Int32.ofInt (y148_4))], M_148)) rfl ?_
                refine w_br2 (a := y148_4) (b := (-1)) rfl rfl ⟨by omega, by omega⟩ ⟨by omega, by omega⟩ (fun h170 => ?_) (fun h170 => ?_)
                · have h170 : y148_4 = (-1) := h170
                  show w_W _ _ _ (215, [(0, .ref 39), (1, .int (Int32.ofInt (n))), (2, .int (Int32.ofInt (x))), (3, .int (Int32.ofInt (v13))), (4, .int (Int32.ofInt (y148_4))), (5, .int (Int32.ofInt (y29_5))), (6, .int (Int32.ofInt (y148_6))), (7, .int (Int32.ofInt (y148_7)))], [], M_148) _
                  exact jn215   
                · have h170 : ¬ (y148_4 = (-1)) := h170
                  show w_W _ _ _ (162, [(0, .ref 39), (1, .int (Int32.ofInt (n))), (2, .int (Int32.ofInt (x))), (3, .int (Int32.ofInt (v13))), (4, .int (Int32.ofInt (y148_4))), (5, .int (Int32.ofInt (y29_5))), (6, .int (Int32.ofInt (y148_6))), (7, .int (Int32.ofInt (y148_7)))], [], M_148) _
                  refine w_adv (n := 1) (F' := (163, [(0, .ref 39), (1, .int (Int32.ofInt (n))), (2, .int (Int32.ofInt (x))), (3, .int (Int32.ofInt (v13))), (4, .int (Int32.ofInt (y148_4))), (5, .int (Int32.ofInt (y29_5))), (6, .int (Int32.ofInt (y148_6))), (7, .int (Int32.ofInt (y148_7)))], [.ref 39], M_148)) rfl ?_
                  refine w_gf (v := .ref 16) hR_148 rfl rfl rfl rfl ?_
                  refine w_adv (n := 3) (F' := (170, [(0, .ref 39), (1, .int (Int32.ofInt (n))), (2, .int (Int32.ofInt (x))), (3, .int (Int32.ofInt (v13))), (4, .int (Int32.ofInt (y148_4))), (5, .int (Int32.ofInt (y29_5))), (6, .int (Int32.ofInt (y148_6))), (7, .int (Int32.ofInt (y148_7)))], [.ref 39, .int (Int32.ofInt (v13)), .int (Int32.ofInt (12)), .ref 16], M_148)) rfl ?_
                  refine w_gf (v := .ref 26) hR_148 rfl rfl rfl rfl ?_
                  refine w_adv (n := 1) (F' := (175, [(0, .ref 39), (1, .int (Int32.ofInt (n))), (2, .int (Int32.ofInt (x))), (3, .int (Int32.ofInt (v13))), (4, .int (Int32.ofInt (y148_4))), (5, .int (Int32.ofInt (y29_5))), (6, .int (Int32.ofInt (y148_6))), (7, .int (Int32.ofInt (y148_7)))], [.int (Int32.ofInt (y148_4)), .ref 26, .int (Int32.ofInt (v13)), .int (Int32.ofInt (12)), .ref 16], M_148)) rfl ?_
                  refine w_call (cm := 152) (as := [(0, .ref 26), (1, .int (Int32.ofInt (y148_4)))]) (rest := [.int (Int32.ofInt (v13)), .int (Int32.ofInt (12)), .ref 16]) (o := some (8, 26)) rfl (w_fitR hR_148 rfl) (c_Tb (y148_4) hR_148 (show 1 ≤ d by omega) ⟨by omega, by omega⟩) (fun r171 M172 q173 => ?_)
                  rcases q173 with ⟨v174, e175, ⟨r176, r177⟩, e178, f179⟩
                  rw [e175, e178]
                  replace f179 : c_rd (A_148 29) y148_4 v174 := f179
                  show w_W _ _ _ (178, [(0, .ref 39), (1, .int (Int32.ofInt (n))), (2, .int (Int32.ofInt (x))), (3, .int (Int32.ofInt (v13))), (4, .int (Int32.ofInt (y148_4))), (5, .int (Int32.ofInt (y29_5))), (6, .int (Int32.ofInt (y148_6))), (7, .int (Int32.ofInt (y148_7)))], [.int (Int32.ofInt (v174)), .int (Int32.ofInt (v13)), .int (Int32.ofInt (12)), .ref 16], M_148) _
                  refine w_adv (n := 1) (F' := (180, [(0, .ref 39), (1, .int (Int32.ofInt (n))), (2, .int (Int32.ofInt (x))), (3, .int (Int32.ofInt (v13))), (4, .int (Int32.ofInt (y148_4))), (5, .int (Int32.ofInt (y29_5))), (6, .int (Int32.ofInt (y148_6))), (7, .int (Int32.ofInt (y148_7)))], [.int (Int32.ofInt (y148_6)), .int (Int32.ofInt (v174)), .int (Int32.ofInt (v13)), .int (Int32.ofInt (12)), .ref 16], M_148)) rfl ?_
                  refine w_call (cm := 149) (as := [(0, .ref 16), (1, .int (Int32.ofInt (12))), (2, .int (Int32.ofInt (v13))), (3, .int (Int32.ofInt (v174))), (4, .int (Int32.ofInt (y148_6)))]) (rest := []) (o := some (2, 16)) rfl (w_fitR hR_148 rfl) (c_kmk (12) (v13) (v174) (y148_6) hR_148 (show 2 ≤ d by omega) ⟨by omega, by omega⟩ ⟨by omega, by omega⟩ ⟨by omega, by omega⟩ ⟨by omega, by omega⟩ (show 0 ≤ (I_148 1035) ∧ (I_148 1035) ≤ 10000 by (repeat' apply And.intro) <;> first | assumption | omega) (show 0 ≤ (I_148 2503) by omega)) (fun r180 M181 q182 => ?_)
                  rcases q182 with ⟨v183, I182a, A182a, B182a, C182a, e184, ⟨r185, r186⟩, hR182a, f187, f188, f189⟩
                  rw [e184]
                  replace hR182a : w_Rep w_TC fr X u l I182a A182a B182a C182a M181 := hR182a
                  replace f187 : c_bz I_148 A_148 I182a A182a 0 0 (I_148 2503) := f187
                  replace f188 : (I182a 2503) = (I_148 2503) ∧ (0 ≤ (I182a 1035) ∧ (I182a 1035) ≤ 10000) ∧ (I182a 200) = (I_148 200) ∧ (I182a 202) = (I_148 202) := f188
                  obtain ⟨n190, ⟨n191, n192⟩, n193, n194⟩ := id f188
                  clear f188
                  replace f189 : (I182a 2502) = (I_148 2502) := f189
                  have bx195 : c_bz I A I182a A182a p q (I 2503) := c_bz_trans (show c_bz I A I_148 A_148 p q (I 2503) from hi148_0) f187 (Int.le_refl _) (Int.le_refl _) (show p ≤ 0 ∨ 0 ≤ 0 by omega) (show 0 ≤ q ∨ 0 ≤ 0 by omega) (Int.le_refl _) (show (I 2503) ≤ (I_148 2503) by omega)
                  show w_W _ _ _ (183, [(0, .ref 39), (1, .int (Int32.ofInt (n))), (2, .int (Int32.ofInt (x))), (3, .int (Int32.ofInt (v13))), (4, .int (Int32.ofInt (y148_4))), (5, .int (Int32.ofInt (y29_5))), (6, .int (Int32.ofInt (y148_6))), (7, .int (Int32.ofInt (y148_7)))], [.int (Int32.ofInt (v183))], M181) _
                  refine w_adv (n := 3) (F' := (187, [(6, .int (Int32.ofInt (v183))), (0, .ref 39), (1, .int (Int32.ofInt (n))), (2, .int (Int32.ofInt (x))), (3, .int (Int32.ofInt (v13))), (4, .int (Int32.ofInt (y148_4))), (5, .int (Int32.ofInt (y29_5))), (7, .int (Int32.ofInt (y148_7)))], [.ref 39, .ref 39], M181)) rfl ?_
                  refine w_gf (v := .ref 26) hR182a rfl rfl rfl rfl ?_
                  refine w_adv (n := 1) (F' := (192, [(6, .int (Int32.ofInt (v183))), (0, .ref 39), (1, .int (Int32.ofInt (n))), (2, .int (Int32.ofInt (x))), (3, .int (Int32.ofInt (v13))), (4, .int (Int32.ofInt (y148_4))), (5, .int (Int32.ofInt (y29_5))), (7, .int (Int32.ofInt (y148_7)))], [.int (Int32.ofInt (y148_4)), .ref 26, .ref 39], M181)) rfl ?_
                  refine w_call (cm := 145) (as := [(0, .ref 26), (1, .int (Int32.ofInt (y148_4)))]) (rest := [.ref 39]) (o := some (8, 26)) rfl (w_fitR hR182a rfl) (c_Ta (y148_4) hR182a (show 1 ≤ d by omega) ⟨by omega, by omega⟩) (fun r196 M197 q198 => ?_)
                  rcases q198 with ⟨v199, e200, ⟨r201, r202⟩, e203, f204⟩
                  rw [e200, e203]
                  replace f204 : c_rd (A182a 28) y148_4 v199 := f204
                  show w_W _ _ _ (195, [(6, .int (Int32.ofInt (v183))), (0, .ref 39), (1, .int (Int32.ofInt (n))), (2, .int (Int32.ofInt (x))), (3, .int (Int32.ofInt (v13))), (4, .int (Int32.ofInt (y148_4))), (5, .int (Int32.ofInt (y29_5))), (7, .int (Int32.ofInt (y148_7)))], [.int (Int32.ofInt (v199)), .ref 39], M181) _
                  refine w_call (cm := 188) (as := [(0, .ref 39), (1, .int (Int32.ofInt (v199)))]) (rest := []) (o := some (1, 39)) rfl (w_fitR hR182a rfl) (c_addPattern (v199) hR182a (show 6 ≤ d by omega) ⟨by omega, by omega⟩ (show 0 ≤ (I182a 1035) ∧ (I182a 1035) ≤ 10000 by (repeat' apply And.intro) <;> first | assumption | omega) (show c_ks A182a by exact (show c_bz I A I182a A182a p q (I 2503) from bx195).2.2.2.2 hKS) (show 36 ≤ (I182a 200) ∧ (I182a 200) ≤ 419 ∧ 0 ≤ (I182a 202) ∧ (I182a 202) ≤ 24 by (repeat' apply And.intro) <;> first | assumption | omega) (show ∀ i, (A182a 5) i ≤ 24 by rw [show (A182a 5) = (A 5) from (show c_bz I A I182a A182a p q (I 2503) from bx195).2.1 5 rfl]; exact hLN) (show 0 ≤ (I182a 2503) by omega)) (fun r205 M206 q207 => ?_)
                  rcases q207 with ⟨I207a, A207a, B207a, C207a, e208, hR207a, f209, f210⟩
                  rw [e208]
                  replace hR207a : w_Rep w_TC fr X u l I207a A207a B207a C207a M206 := hR207a
                  replace f209 : c_bz I182a A182a I207a A207a 0 0 (I182a 2503) := f209
                  replace f210 : (I207a 2503) = (I182a 2503) ∧ (0 ≤ (I207a 1035) ∧ (I207a 1035) ≤ 10000) ∧ (I207a 200) = (I182a 200) ∧ (I207a 202) = (I182a 202) := f210
                  obtain ⟨n211, ⟨n212, n213⟩, n214, n215⟩ := id f210
                  clear f210
                  have bx216 : c_bz I A I207a A207a p q (I 2503) := c_bz_trans (show c_bz I A I182a A182a p q (I 2503) from bx195) f209 (Int.le_refl _) (Int.le_refl _) (show p ≤ 0 ∨ 0 ≤ 0 by omega) (show 0 ≤ q ∨ 0 ≤ 0 by omega) (Int.le_refl _) (show (I 2503) ≤ (I182a 2503) by omega)
                  show w_W _ _ _ (198, [(6, .int (Int32.ofInt (v183))), (0, .ref 39), (1, .int (Int32.ofInt (n))), (2, .int (Int32.ofInt (x))), (3, .int (Int32.ofInt (v13))), (4, .int (Int32.ofInt (y148_4))), (5, .int (Int32.ofInt (y29_5))), (7, .int (Int32.ofInt (y148_7)))], [], M206) _
                  refine w_adv (n := 1) (F' := (199, [(6, .int (Int32.ofInt (v183))), (0, .ref 39), (1, .int (Int32.ofInt (n))), (2, .int (Int32.ofInt (x))), (3, .int (Int32.ofInt (v13))), (4, .int (Int32.ofInt (y148_4))), (5, .int (Int32.ofInt (y29_5))), (7, .int (Int32.ofInt (y148_7)))], [.ref 39], M206)) rfl ?_
                  refine w_gf (v := .ref 26) hR207a rfl rfl rfl rfl ?_
                  refine w_adv (n := 1) (F' := (204, [(6, .int (Int32.ofInt (v183))), (0, .ref 39), (1, .int (Int32.ofInt (n))), (2, .int (Int32.ofInt (x))), (3, .int (Int32.ofInt (v13))), (4, .int (Int32.ofInt (y148_4))), (5, .int (Int32.ofInt (y29_5))), (7, .int (Int32.ofInt (y148_7)))], [.int (Int32.ofInt (y148_4)), .ref 26], M206)) rfl ?_
                  refine w_call (cm := 174) (as := [(0, .ref 26), (1, .int (Int32.ofInt (y148_4)))]) (rest := []) (o := some (8, 26)) rfl (w_fitR hR207a rfl) (c_Tc (y148_4) hR207a (show 1 ≤ d by omega) ⟨by omega, by omega⟩) (fun r217 M218 q219 => ?_)
                  rcases q219 with ⟨v220, e221, ⟨r222, r223⟩, e224, f225⟩
                  rw [e221, e224]
                  replace f225 : c_rd (A207a 30) y148_4 v220 := f225
                  show w_W _ _ _ (207, [(6, .int (Int32.ofInt (v183))), (0, .ref 39), (1, .int (Int32.ofInt (n))), (2, .int (Int32.ofInt (x))), (3, .int (Int32.ofInt (v13))), (4, .int (Int32.ofInt (y148_4))), (5, .int (Int32.ofInt (y29_5))), (7, .int (Int32.ofInt (y148_7)))], [.int (Int32.ofInt (v220))], M206) _
                  refine w_adv (n := 1) (F' := (209, [(4, .int (Int32.ofInt (v220))), (6, .int (Int32.ofInt (v183))), (0, .ref 39), (1, .int (Int32.ofInt (n))), (2, .int (Int32.ofInt (x))), (3, .int (Int32.ofInt (v13))), (5, .int (Int32.ofInt (y29_5))), (7, .int (Int32.ofInt (y148_7)))], [], M206)) rfl ?_
                  refine w_inc (nL := 8) (a := y148_7) rfl rfl rfl (by decide) ?_
                  refine w_adv (n := 1) (F' := (148, [(7, .int (Int32.ofInt (y148_7 + 1))), (4, .int (Int32.ofInt (v220))), (6, .int (Int32.ofInt (v183))), (0, .ref 39), (1, .int (Int32.ofInt (n))), (2, .int (Int32.ofInt (x))), (3, .int (Int32.ofInt (v13))), (5, .int (Int32.ofInt (y29_5)))], [], M206)) rfl ?_
                  refine w_ls (ls := [(0, .ref 39), (1, .int (Int32.ofInt (n))), (2, .int (Int32.ofInt (x))), (3, .int (Int32.ofInt (v13))), (4, .int (Int32.ofInt (v220))), (5, .int (Int32.ofInt (y29_5))), (6, .int (Int32.ofInt (v183))), (7, .int (Int32.ofInt (y148_7 + 1)))]) (show List.Nodup [0, 1, 2, 3, 4, 5, 6, 7] by decide) (show List.Nodup [7, 4, 6, 0, 1, 2, 3, 5] by decide) (List.forall_mem_cons.mpr ⟨(List.Mem.tail _ (List.Mem.tail _ (List.Mem.tail _ (List.Mem.head _)))), (List.forall_mem_cons.mpr ⟨(List.Mem.tail _ (List.Mem.tail _ (List.Mem.tail _ (List.Mem.tail _ (List.Mem.head _))))), (List.forall_mem_cons.mpr ⟨(List.Mem.tail _ (List.Mem.tail _ (List.Mem.tail _ (List.Mem.tail _ (List.Mem.tail _ (List.Mem.head _)))))), (List.forall_mem_cons.mpr ⟨(List.Mem.tail _ (List.Mem.tail _ (List.Mem.tail _ (List.Mem.tail _ (List.Mem.tail _ (List.Mem.tail _ (List.Mem.head _))))))), (List.forall_mem_cons.mpr ⟨(List.Mem.tail _ (List.Mem.head _)), (List.forall_mem_cons.mpr ⟨(List.Mem.tail _ (List.Mem.tail _ (List.Mem.tail _ (List.Mem.tail _ (List.Mem.tail _ (List.Mem.tail _ (List.Mem.tail _ (List.Mem.head _)))))))), (List.forall_mem_cons.mpr ⟨(List.Mem.tail _ (List.Mem.tail _ (List.Mem.head _))), (List.forall_mem_cons.mpr ⟨(List.Mem.head _), (fun _ h => by cases h)⟩)⟩)⟩)⟩)⟩)⟩)⟩)⟩) ?_
                  exact ih148  (v220) (v183) (y148_7 + 1) I207a A207a B207a C207a M206 hR207a ⟨by omega, by omega⟩ ⟨by omega, by omega⟩ ⟨by omega, by omega⟩ (show c_bz I A I207a A207a p q (I 2503) by exact bx216) (show (I207a 2503) = (I 2503) ∧ (0 ≤ (I207a 1035) ∧ (I207a 1035) ≤ 10000) ∧ (I207a 200) = (I 200) ∧ (I207a 202) = (I 202) by (repeat' apply And.intro) <;> first | assumption | omega) (show 0 ≤ (y148_7 + 1) ∧ (y148_7 + 1) ≤ 1500 by omega) (show 1500 - (y148_7 + 1) < (fu148 : Int) by omega)
          refine w_ls (ls := [(0, .ref 39), (1, .int (Int32.ofInt (n))), (2, .int (Int32.ofInt (x))), (3, .int (Int32.ofInt (v13))), (4, .int (Int32.ofInt (y29_4))), (5, .int (Int32.ofInt (y29_5))), (6, .int (Int32.ofInt (v143))), (7, .int (Int32.ofInt (0)))]) (show List.Nodup [0, 1, 2, 3, 4, 5, 6, 7] by decide) (show List.Nodup [7, 6, 0, 1, 2, 3, 4, 5] by decide) (List.forall_mem_cons.mpr ⟨(List.Mem.tail _ (List.Mem.tail _ (List.Mem.head _))), (List.forall_mem_cons.mpr ⟨(List.Mem.tail _ (List.Mem.tail _ (List.Mem.tail _ (List.Mem.head _)))), (List.forall_mem_cons.mpr ⟨(List.Mem.tail _ (List.Mem.tail _ (List.Mem.tail _ (List.Mem.tail _ (List.Mem.head _))))), (List.forall_mem_cons.mpr ⟨(List.Mem.tail _ (List.Mem.tail _ (List.Mem.tail _ (List.Mem.tail _ (List.Mem.tail _ (List.Mem.head _)))))), (List.forall_mem_cons.mpr ⟨(List.Mem.tail _ (List.Mem.tail _ (List.Mem.tail _ (List.Mem.tail _ (List.Mem.tail _ (List.Mem.tail _ (List.Mem.head _))))))), (List.forall_mem_cons.mpr ⟨(List.Mem.tail _ (List.Mem.tail _ (List.Mem.tail _ (List.Mem.tail _ (List.Mem.tail _ (List.Mem.tail _ (List.Mem.tail _ (List.Mem.head _)))))))), (List.forall_mem_cons.mpr ⟨(List.Mem.tail _ (List.Mem.head _)), (List.forall_mem_cons.mpr ⟨(List.Mem.head _), (fun _ h => by cases h)⟩)⟩)⟩)⟩)⟩)⟩)⟩)⟩) ?_
          exact lp148 ((1500 - 0 : Int).toNat + 1)  (y29_4) (v143) (0) I142a A142a B142a C142a M141 hR142a ⟨by omega, by omega⟩ ⟨by omega, by omega⟩ ⟨by omega, by omega⟩ (show c_bz I A I142a A142a p q (I 2503) by exact bx154) (show (I142a 2503) = (I 2503) ∧ (0 ≤ (I142a 1035) ∧ (I142a 1035) ≤ 10000) ∧ (I142a 200) = (I 200) ∧ (I142a 202) = (I 202) by (repeat' apply And.intro) <;> first | assumption | omega) (show 0 ≤ (0 : Int) ∧ (0 : Int) ≤ 1500 by omega) (show 1500 - 0 < (((1500 - 0 : Int).toNat + 1 : Nat) : Int) by omega)
      refine w_adv (n := 2) (F' := (34, [(0, .ref 39), (1, .int (Int32.ofInt (n))), (2, .int (Int32.ofInt (x))), (3, .int (Int32.ofInt (v13))), (4, .int (Int32.ofInt (y29_4))), (5, .int (Int32.ofInt (y29_5))), (6, .int (Int32.ofInt (y29_6)))], [.int (Int32.ofInt (1500)), .int (Int32.ofInt (y29_6))], M_29)) rfl ?_
      refine w_br2 (a := y29_6) (b := 1500) rfl rfl ⟨by omega, by omega⟩ ⟨by omega, by omega⟩ (fun h226 => ?_) (fun h226 => ?_)
      · have h226 : y29_6 ≥ 1500 := h226
        show w_W _ _ _ (111, [(0, .ref 39), (1, .int (Int32.ofInt (n))), (2, .int (Int32.ofInt (x))), (3, .int (Int32.ofInt (v13))), (4, .int (Int32.ofInt (y29_4))), (5, .int (Int32.ofInt (y29_5))), (6, .int (Int32.ofInt (y29_6)))], [], M_29) _
        exact jn111   
      · have h226 : ¬ (y29_6 ≥ 1500) := h226
        show w_W _ _ _ (37, [(0, .ref 39), (1, .int (Int32.ofInt (n))), (2, .int (Int32.ofInt (x))), (3, .int (Int32.ofInt (v13))), (4, .int (Int32.ofInt (y29_4))), (5, .int (Int32.ofInt (y29_5))), (6, .int (Int32.ofInt (y29_6)))], [], M_29) _
        refine w_adv (n := 2) (F' := (40, [(0, .ref 39), (1, .int (Int32.ofInt (n))), (2, .int (Int32.ofInt (x))), (3, .int (Int32.ofInt (v13))), (4, .int (Int32.ofInt (y29_4))), (5, .int (Int32.ofInt (y29_5))), (6, .int (Int32.ofInt (y29_6)))], [.int (Int32.ofInt ((-1))), .int (Int32.ofInt (y29_5))], M_29)) rfl ?_
        refine w_br2 (a := y29_5) (b := (-1)) rfl rfl ⟨by omega, by omega⟩ ⟨by omega, by omega⟩ (fun h227 => ?_) (fun h227 => ?_)
        · have h227 : y29_5 = (-1) := h227
          show w_W _ _ _ (111, [(0, .ref 39), (1, .int (Int32.ofInt (n))), (2, .int (Int32.ofInt (x))), (3, .int (Int32.ofInt (v13))), (4, .int (Int32.ofInt (y29_4))), (5, .int (Int32.ofInt (y29_5))), (6, .int (Int32.ofInt (y29_6)))], [], M_29) _
          exact jn111   
        · have h227 : ¬ (y29_5 = (-1)) := h227
          show w_W _ _ _ (43, [(0, .ref 39), (1, .int (Int32.ofInt (n))), (2, .int (Int32.ofInt (x))), (3, .int (Int32.ofInt (v13))), (4, .int (Int32.ofInt (y29_4))), (5, .int (Int32.ofInt (y29_5))), (6, .int (Int32.ofInt (y29_6)))], [], M_29) _
          obtain ⟨cr, cg1, cg2, cg3, cg4, cg5⟩ := c_Ch_ne hi29_2 (by omega)
          obtain ⟨cg16, cgb⟩ := cg4
          skip
          refine w_adv (n := 2) (F' := (45, [(0, .ref 39), (1, .int (Int32.ofInt (n))), (2, .int (Int32.ofInt (x))), (3, .int (Int32.ofInt (v13))), (4, .int (Int32.ofInt (y29_4))), (5, .int (Int32.ofInt (y29_5))), (6, .int (Int32.ofInt (y29_6)))], [.ref 39, .ref 39], M_29)) rfl ?_
          refine w_gf (v := .ref 26) hR_29 rfl rfl rfl rfl ?_
          refine w_adv (n := 1) (F' := (50, [(0, .ref 39), (1, .int (Int32.ofInt (n))), (2, .int (Int32.ofInt (x))), (3, .int (Int32.ofInt (v13))), (4, .int (Int32.ofInt (y29_4))), (5, .int (Int32.ofInt (y29_5))), (6, .int (Int32.ofInt (y29_6)))], [.int (Int32.ofInt (y29_5)), .ref 26, .ref 39], M_29)) rfl ?_
          refine w_call (cm := 145) (as := [(0, .ref 26), (1, .int (Int32.ofInt (y29_5)))]) (rest := [.ref 39]) (o := some (8, 26)) rfl (w_fitR hR_29 rfl) (c_Ta (y29_5) hR_29 (show 1 ≤ d by omega) ⟨by omega, by omega⟩) (fun r228 M229 q230 => ?_)
          rcases q230 with ⟨v231, e232, ⟨r233, r234⟩, e235, f236⟩
          rw [e232, e235]
          replace f236 : c_rd (A_29 28) y29_5 v231 := f236
          show w_W _ _ _ (53, [(0, .ref 39), (1, .int (Int32.ofInt (n))), (2, .int (Int32.ofInt (x))), (3, .int (Int32.ofInt (v13))), (4, .int (Int32.ofInt (y29_4))), (5, .int (Int32.ofInt (y29_5))), (6, .int (Int32.ofInt (y29_6)))], [.int (Int32.ofInt (v231)), .ref 39], M_29) _
          refine w_call (cm := 185) (as := [(0, .ref 39), (1, .int (Int32.ofInt (v231)))]) (rest := []) (o := some (1, 39)) rfl (w_fitR hR_29 rfl) (c_bearSlots (v231) hR_29 (show 5 ≤ d by omega) ⟨by omega, by omega⟩ (show 0 ≤ (I_29 1035) ∧ (I_29 1035) ≤ 10000 by (repeat' apply And.intro) <;> first | assumption | omega) (show 0 ≤ (I_29 2503) by omega)) (fun r237 M238 q239 => ?_)
          rcases q239 with ⟨I239a, A239a, B239a, C239a, e240, hR239a, f241, f242⟩
          rw [e240]
          replace hR239a : w_Rep w_TC fr X u l I239a A239a B239a C239a M238 := hR239a
          replace f241 : c_bz I_29 A_29 I239a A239a 0 0 (I_29 2503) := f241
          replace f242 : (I239a 2503) = (I_29 2503) ∧ (0 ≤ (I239a 1035) ∧ (I239a 1035) ≤ 10000) ∧ (I239a 200) = (I_29 200) ∧ (I239a 202) = (I_29 202) := f242
          obtain ⟨n243, ⟨n244, n245⟩, n246, n247⟩ := id f242
          clear f242
          have bx248 : c_bz I A I239a A239a p q (I 2503) := c_bz_trans (show c_bz I A I_29 A_29 p q (I 2503) from hi29_0) f241 (Int.le_refl _) (Int.le_refl _) (show p ≤ 0 ∨ 0 ≤ 0 by omega) (show 0 ≤ q ∨ 0 ≤ 0 by omega) (Int.le_refl _) (show (I 2503) ≤ (I_29 2503) by omega)
          have k249 : (A 30 n) = -1 ∨ c_Bd A239a (c_W A239a j) (A 30 n) s n := hi29_3.imp_right (fun g => c_Bd_agr g (c_bz_r f241 (show n ≤ 0 ∨ 0 ≤ s ∨ 0 ≤ 0 by omega)))
          clear hi29_3
          have k250 : c_Bd A239a (c_W A239a j) (A_29 29 y29_5) w_29 y29_5 := c_Bd_agr cgb (c_bz_r f241 (show y29_5 ≤ 0 ∨ 0 ≤ w_29 ∨ 0 ≤ 0 by omega))
          clear cgb
          have k251 : c_Ch (A239a 31) (c_P2 A239a j) (A_29 31 y29_5) cr s := c_Ch_agr c_P2_fam cg5 (c_bz_r f241 (show s ≤ 0 ∨ 0 ≤ cr ∨ 0 ≤ 0 by omega))
          clear cg5
          skip
          show w_W _ _ _ (56, [(0, .ref 39), (1, .int (Int32.ofInt (n))), (2, .int (Int32.ofInt (x))), (3, .int (Int32.ofInt (v13))), (4, .int (Int32.ofInt (y29_4))), (5, .int (Int32.ofInt (y29_5))), (6, .int (Int32.ofInt (y29_6)))], [], M238) _
          refine w_adv (n := 1) (F' := (57, [(0, .ref 39), (1, .int (Int32.ofInt (n))), (2, .int (Int32.ofInt (x))), (3, .int (Int32.ofInt (v13))), (4, .int (Int32.ofInt (y29_4))), (5, .int (Int32.ofInt (y29_5))), (6, .int (Int32.ofInt (y29_6)))], [.ref 39], M238)) rfl ?_
          refine w_gf (v := .ref 26) hR239a rfl rfl rfl rfl ?_
          refine w_adv (n := 3) (F' := (64, [(0, .ref 39), (1, .int (Int32.ofInt (n))), (2, .int (Int32.ofInt (x))), (3, .int (Int32.ofInt (v13))), (4, .int (Int32.ofInt (y29_4))), (5, .int (Int32.ofInt (y29_5))), (6, .int (Int32.ofInt (y29_6)))], [.ref 39, .ref 39, .int (Int32.ofInt (y29_5)), .ref 26], M238)) rfl ?_
          refine w_gf (v := .ref 26) hR239a rfl rfl rfl rfl ?_
          refine w_adv (n := 1) (F' := (69, [(0, .ref 39), (1, .int (Int32.ofInt (n))), (2, .int (Int32.ofInt (x))), (3, .int (Int32.ofInt (v13))), (4, .int (Int32.ofInt (y29_4))), (5, .int (Int32.ofInt (y29_5))), (6, .int (Int32.ofInt (y29_6)))], [.int (Int32.ofInt (y29_5)), .ref 26, .ref 39, .int (Int32.ofInt (y29_5)), .ref 26], M238)) rfl ?_
          refine w_call (cm := 152) (as := [(0, .ref 26), (1, .int (Int32.ofInt (y29_5)))]) (rest := [.ref 39, .int (Int32.ofInt (y29_5)), .ref 26]) (o := some (8, 26)) rfl (w_fitR hR239a rfl) (c_Tb (y29_5) hR239a (show 1 ≤ d by omega) ⟨by omega, by omega⟩) (fun r252 M253 q254 => ?_)
          rcases q254 with ⟨v255, e256, ⟨r257, r258⟩, e259, f260⟩
          rw [e256, e259]
          replace f260 : c_rd (A239a 29) y29_5 v255 := f260
          have ev255 : v255 = (A_29 29 y29_5) := by rw [c_rd_eq f260 (by omega) (by omega)]; exact (f241.2.2.1 y29_5 (by omega)).1
          show w_W _ _ _ (72, [(0, .ref 39), (1, .int (Int32.ofInt (n))), (2, .int (Int32.ofInt (x))), (3, .int (Int32.ofInt (v13))), (4, .int (Int32.ofInt (y29_4))), (5, .int (Int32.ofInt (y29_5))), (6, .int (Int32.ofInt (y29_6)))], [.int (Int32.ofInt (v255)), .ref 39, .int (Int32.ofInt (y29_5)), .ref 26], M238) _
          refine w_adv (n := 1) (F' := (73, [(0, .ref 39), (1, .int (Int32.ofInt (n))), (2, .int (Int32.ofInt (x))), (3, .int (Int32.ofInt (v13))), (4, .int (Int32.ofInt (y29_4))), (5, .int (Int32.ofInt (y29_5))), (6, .int (Int32.ofInt (y29_6)))], [.int (Int32.ofInt (x)), .int (Int32.ofInt (v255)), .ref 39, .int (Int32.ofInt (y29_5)), .ref 26], M238)) rfl ?_
          refine w_call (cm := 144) (as := [(0, .ref 39), (1, .int (Int32.ofInt (v255))), (2, .int (Int32.ofInt (x)))]) (rest := [.int (Int32.ofInt (y29_5)), .ref 26]) (o := some (1, 39)) rfl (w_fitR hR239a rfl) ((hB0 d (Nat.lt_succ_self d)).2 (v255) (x) (j) (w_29) (y29_5) hR239a (show 8 * j + 7 ≤ d by omega) ⟨by omega, by omega⟩ ⟨by omega, by omega⟩ (show 0 ≤ (I239a 1035) ∧ (I239a 1035) ≤ 10000 by (repeat' apply And.intro) <;> first | assumption | omega) (show c_ks A239a by exact (show c_bz I A I239a A239a p q (I 2503) from bx248).2.2.2.2 hKS) (show 36 ≤ (I239a 200) ∧ (I239a 200) ≤ 419 ∧ 0 ≤ (I239a 202) ∧ (I239a 202) ≤ 24 by (repeat' apply And.intro) <;> first | assumption | omega) (show ∀ i, (A239a 5) i ≤ 24 by rw [show (A239a 5) = (A 5) from (show c_bz I A I239a A239a p q (I 2503) from bx248).2.1 5 rfl]; exact hLN) (show 0 ≤ (I239a 2503) by omega) (show (I239a 2503) + 7000 * (j : Int) ≤ 1000000 by first | assumption | omega) (show c_Bd A239a (c_W A239a j) v255 w_29 y29_5 by rw [ev255]; exact k250) (show 0 ≤ w_29 ∧ y29_5 ≤ 3002 by first | assumption | omega)) (fun r261 M262 q263 => ?_)
          rcases q263 with ⟨v264, I263a, A263a, B263a, C263a, e265, ⟨r266, r267⟩, hR263a, f268, f269⟩
          rw [e265]
          replace hR263a : w_Rep w_TC fr X u l I263a A263a B263a C263a M262 := hR263a
          replace f268 : c_bz I239a A239a I263a A263a w_29 y29_5 (I239a 2503) := f268
          replace f269 : (I263a 2503) = (I239a 2503) ∧ (0 ≤ (I263a 1035) ∧ (I263a 1035) ≤ 10000) ∧ (I263a 200) = (I239a 200) ∧ (I263a 202) = (I239a 202) := f269
          obtain ⟨n270, ⟨n271, n272⟩, n273, n274⟩ := id f269
          clear f269
          have bx275 : c_bz I A I263a A263a p q (I 2503) := c_bz_trans (show c_bz I A I239a A239a p q (I 2503) from bx248) f268 (Int.le_refl _) (Int.le_refl _) (show p ≤ w_29 ∨ y29_5 ≤ w_29 by omega) (show y29_5 ≤ q ∨ y29_5 ≤ w_29 by omega) (Int.le_refl _) (show (I 2503) ≤ (I239a 2503) by omega)
          have k276 : (A 30 n) = -1 ∨ c_Bd A263a (c_W A263a j) (A 30 n) s n := k249.imp_right (fun g => c_Bd_agr g (c_bz_r f268 (show n ≤ w_29 ∨ y29_5 ≤ s ∨ y29_5 ≤ w_29 by omega)))
          clear k249
          have k277 : c_Ch (A263a 31) (c_P2 A263a j) (A_29 31 y29_5) cr s := c_Ch_agr c_P2_fam k251 (c_bz_r f268 (show s ≤ w_29 ∨ y29_5 ≤ cr ∨ y29_5 ≤ w_29 by omega))
          clear k251
          show w_W _ _ _ (76, [(0, .ref 39), (1, .int (Int32.ofInt (n))), (2, .int (Int32.ofInt (x))), (3, .int (Int32.ofInt (v13))), (4, .int (Int32.ofInt (y29_4))), (5, .int (Int32.ofInt (y29_5))), (6, .int (Int32.ofInt (y29_6)))], [.int (Int32.ofInt (v264)), .int (Int32.ofInt (y29_5)), .ref 26], M262) _
          refine w_call (cm := 115) (as := [(0, .ref 26), (1, .int (Int32.ofInt (y29_5))), (2, .int (Int32.ofInt (v264)))]) (rest := []) (o := some (8, 26)) rfl (w_fitR hR263a rfl) (cb_setB (y29_5) (v264) (y29_5) ((y29_5 + 1)) hR263a (show 2 ≤ d by omega) ⟨by omega, by omega⟩ ⟨by omega, by omega⟩ (show 0 ≤ (I263a 1035) ∧ (I263a 1035) ≤ 10000 by (repeat' apply And.intro) <;> first | assumption | omega) (show 0 ≤ (I263a 2503) by omega) (show A263a 27 y29_5 = 16 by exact (congrFun ((c_bz_ke (show c_bz I A I263a A263a p q (I 2503) from bx275)).1.trans (c_bz_ke (show c_bz I A I_29 A_29 p q (I 2503) from hi29_0)).1.symm) _).trans cg16) (show y29_5 ≤ y29_5 ∧ y29_5 < (y29_5 + 1) by omega)) (fun r278 M279 q280 => ?_)
          rcases q280 with ⟨I280a, A280a, B280a, C280a, e281, hR280a, f282, f283⟩
          rw [e281]
          replace hR280a : w_Rep w_TC fr X u l I280a A280a B280a C280a M279 := hR280a
          replace f282 : c_bz I263a A263a I280a A280a y29_5 (y29_5 + 1) (I263a 2503) := f282
          replace f283 : (I280a 2503) = (I263a 2503) ∧ (0 ≤ (I280a 1035) ∧ (I280a 1035) ≤ 10000) ∧ (I280a 200) = (I263a 200) ∧ (I280a 202) = (I263a 202) := f283
          obtain ⟨n284, ⟨n285, n286⟩, n287, n288⟩ := id f283
          clear f283
          have bx289 : c_bz I A I280a A280a p q (I 2503) := c_bz_trans (show c_bz I A I263a A263a p q (I 2503) from bx275) f282 (Int.le_refl _) (Int.le_refl _) (show p ≤ y29_5 ∨ (y29_5 + 1) ≤ y29_5 by omega) (show (y29_5 + 1) ≤ q ∨ (y29_5 + 1) ≤ y29_5 by omega) (Int.le_refl _) (show (I 2503) ≤ (I263a 2503) by omega)
          have k290 : (A 30 n) = -1 ∨ c_Bd A280a (c_W A280a j) (A 30 n) s n := k276.imp_right (fun g => c_Bd_agr g (c_bz_r f282 (show n ≤ y29_5 ∨ (y29_5 + 1) ≤ s ∨ (y29_5 + 1) ≤ y29_5 by omega)))
          clear k276
          have k291 : c_Ch (A280a 31) (c_P2 A280a j) (A_29 31 y29_5) cr s := c_Ch_agr c_P2_fam k277 (c_bz_r f282 (show s ≤ y29_5 ∨ (y29_5 + 1) ≤ cr ∨ (y29_5 + 1) ≤ y29_5 by omega))
          clear k277
          show w_W _ _ _ (79, [(0, .ref 39), (1, .int (Int32.ofInt (n))), (2, .int (Int32.ofInt (x))), (3, .int (Int32.ofInt (v13))), (4, .int (Int32.ofInt (y29_4))), (5, .int (Int32.ofInt (y29_5))), (6, .int (Int32.ofInt (y29_6)))], [], M279) _
          refine w_adv (n := 1) (F' := (80, [(0, .ref 39), (1, .int (Int32.ofInt (n))), (2, .int (Int32.ofInt (x))), (3, .int (Int32.ofInt (v13))), (4, .int (Int32.ofInt (y29_4))), (5, .int (Int32.ofInt (y29_5))), (6, .int (Int32.ofInt (y29_6)))], [.ref 39], M279)) rfl ?_
          refine w_gf (v := .ref 26) hR280a rfl rfl rfl rfl ?_
          refine w_adv (n := 2) (F' := (87, [(0, .ref 39), (1, .int (Int32.ofInt (n))), (2, .int (Int32.ofInt (x))), (3, .int (Int32.ofInt (v13))), (4, .int (Int32.ofInt (y29_4))), (5, .int (Int32.ofInt (y29_5))), (6, .int (Int32.ofInt (y29_6)))], [.int (Int32.ofInt (y29_4)), .int (Int32.ofInt (y29_5)), .ref 26], M279)) rfl ?_
          refine w_call (cm := 186) (as := [(0, .ref 26), (1, .int (Int32.ofInt (y29_5))), (2, .int (Int32.ofInt (y29_4)))]) (rest := []) (o := some (8, 26)) rfl (w_fitR hR280a rfl) (cb_setC (y29_5) (y29_4) (y29_5) ((y29_5 + 1)) hR280a (show 2 ≤ d by omega) ⟨by omega, by omega⟩ ⟨by omega, by omega⟩ (show 0 ≤ (I280a 1035) ∧ (I280a 1035) ≤ 10000 by (repeat' apply And.intro) <;> first | assumption | omega) (show 0 ≤ (I280a 2503) by omega) (show A280a 27 y29_5 = 16 by exact (congrFun ((c_bz_ke (show c_bz I A I280a A280a p q (I 2503) from bx289)).1.trans (c_bz_ke (show c_bz I A I_29 A_29 p q (I 2503) from hi29_0)).1.symm) _).trans cg16) (show y29_5 ≤ y29_5 ∧ y29_5 < (y29_5 + 1) by omega)) (fun r292 M293 q294 => ?_)
          rcases q294 with ⟨I294a, A294a, B294a, C294a, e295, hR294a, f296, f297⟩
          rw [e295]
          replace hR294a : w_Rep w_TC fr X u l I294a A294a B294a C294a M293 := hR294a
          replace f296 : c_bz I280a A280a I294a A294a y29_5 (y29_5 + 1) (I280a 2503) := f296
          replace f297 : (I294a 2503) = (I280a 2503) ∧ (0 ≤ (I294a 1035) ∧ (I294a 1035) ≤ 10000) ∧ (I294a 200) = (I280a 200) ∧ (I294a 202) = (I280a 202) := f297
          obtain ⟨n298, ⟨n299, n300⟩, n301, n302⟩ := id f297
          clear f297
          have bx303 : c_bz I A I294a A294a p q (I 2503) := c_bz_trans (show c_bz I A I280a A280a p q (I 2503) from bx289) f296 (Int.le_refl _) (Int.le_refl _) (show p ≤ y29_5 ∨ (y29_5 + 1) ≤ y29_5 by omega) (show (y29_5 + 1) ≤ q ∨ (y29_5 + 1) ≤ y29_5 by omega) (Int.le_refl _) (show (I 2503) ≤ (I280a 2503) by omega)
          have k304 : (A 30 n) = -1 ∨ c_Bd A294a (c_W A294a j) (A 30 n) s n := k290.imp_right (fun g => c_Bd_agr g (c_bz_r f296 (show n ≤ y29_5 ∨ (y29_5 + 1) ≤ s ∨ (y29_5 + 1) ≤ y29_5 by omega)))
          clear k290
          have k305 : c_Ch (A294a 31) (c_P2 A294a j) (A_29 31 y29_5) cr s := c_Ch_agr c_P2_fam k291 (c_bz_r f296 (show s ≤ y29_5 ∨ (y29_5 + 1) ≤ cr ∨ (y29_5 + 1) ≤ y29_5 by omega))
          clear k291
          show w_W _ _ _ (90, [(0, .ref 39), (1, .int (Int32.ofInt (n))), (2, .int (Int32.ofInt (x))), (3, .int (Int32.ofInt (v13))), (4, .int (Int32.ofInt (y29_4))), (5, .int (Int32.ofInt (y29_5))), (6, .int (Int32.ofInt (y29_6)))], [], M293) _
          refine w_adv (n := 3) (F' := (95, [(4, .int (Int32.ofInt (y29_5))), (0, .ref 39), (1, .int (Int32.ofInt (n))), (2, .int (Int32.ofInt (x))), (3, .int (Int32.ofInt (v13))), (5, .int (Int32.ofInt (y29_5))), (6, .int (Int32.ofInt (y29_6)))], [.ref 39], M293)) rfl ?_
          refine w_gf (v := .ref 26) hR294a rfl rfl rfl rfl ?_
          refine w_adv (n := 1) (F' := (100, [(4, .int (Int32.ofInt (y29_5))), (0, .ref 39), (1, .int (Int32.ofInt (n))), (2, .int (Int32.ofInt (x))), (3, .int (Int32.ofInt (v13))), (5, .int (Int32.ofInt (y29_5))), (6, .int (Int32.ofInt (y29_6)))], [.int (Int32.ofInt (y29_5)), .ref 26], M293)) rfl ?_
          refine w_call (cm := 161) (as := [(0, .ref 26), (1, .int (Int32.ofInt (y29_5)))]) (rest := []) (o := some (8, 26)) rfl (w_fitR hR294a rfl) (c_Tnext (y29_5) hR294a (show 1 ≤ d by omega) ⟨by omega, by omega⟩) (fun r306 M307 q308 => ?_)
          rcases q308 with ⟨v309, e310, ⟨r311, r312⟩, e313, f314⟩
          rw [e310, e313]
          replace f314 : c_rd (A294a 31) y29_5 v309 := f314
          have ev309 : v309 = (A_29 31 y29_5) := (c_rd_eq f314 (by omega) (by omega)).trans (congrFun ((c_bz_ke (show c_bz I A I294a A294a p q (I 2503) from bx303)).2.2.trans (c_bz_ke (show c_bz I A I_29 A_29 p q (I 2503) from hi29_0)).2.2.symm) _)
          show w_W _ _ _ (103, [(4, .int (Int32.ofInt (y29_5))), (0, .ref 39), (1, .int (Int32.ofInt (n))), (2, .int (Int32.ofInt (x))), (3, .int (Int32.ofInt (v13))), (5, .int (Int32.ofInt (y29_5))), (6, .int (Int32.ofInt (y29_6)))], [.int (Int32.ofInt (v309))], M293) _
          refine w_adv (n := 1) (F' := (105, [(5, .int (Int32.ofInt (v309))), (4, .int (Int32.ofInt (y29_5))), (0, .ref 39), (1, .int (Int32.ofInt (n))), (2, .int (Int32.ofInt (x))), (3, .int (Int32.ofInt (v13))), (6, .int (Int32.ofInt (y29_6)))], [], M293)) rfl ?_
          refine w_inc (nL := 8) (a := y29_6) rfl rfl rfl (by decide) ?_
          refine w_adv (n := 1) (F' := (29, [(6, .int (Int32.ofInt (y29_6 + 1))), (5, .int (Int32.ofInt (v309))), (4, .int (Int32.ofInt (y29_5))), (0, .ref 39), (1, .int (Int32.ofInt (n))), (2, .int (Int32.ofInt (x))), (3, .int (Int32.ofInt (v13)))], [], M293)) rfl ?_
          refine w_ls (ls := [(0, .ref 39), (1, .int (Int32.ofInt (n))), (2, .int (Int32.ofInt (x))), (3, .int (Int32.ofInt (v13))), (4, .int (Int32.ofInt (y29_5))), (5, .int (Int32.ofInt (v309))), (6, .int (Int32.ofInt (y29_6 + 1)))]) (show List.Nodup [0, 1, 2, 3, 4, 5, 6] by decide) (show List.Nodup [6, 5, 4, 0, 1, 2, 3] by decide) (List.forall_mem_cons.mpr ⟨(List.Mem.tail _ (List.Mem.tail _ (List.Mem.tail _ (List.Mem.head _)))), (List.forall_mem_cons.mpr ⟨(List.Mem.tail _ (List.Mem.tail _ (List.Mem.tail _ (List.Mem.tail _ (List.Mem.head _))))), (List.forall_mem_cons.mpr ⟨(List.Mem.tail _ (List.Mem.tail _ (List.Mem.tail _ (List.Mem.tail _ (List.Mem.tail _ (List.Mem.head _)))))), (List.forall_mem_cons.mpr ⟨(List.Mem.tail _ (List.Mem.tail _ (List.Mem.tail _ (List.Mem.tail _ (List.Mem.tail _ (List.Mem.tail _ (List.Mem.head _))))))), (List.forall_mem_cons.mpr ⟨(List.Mem.tail _ (List.Mem.tail _ (List.Mem.head _))), (List.forall_mem_cons.mpr ⟨(List.Mem.tail _ (List.Mem.head _)), (List.forall_mem_cons.mpr ⟨(List.Mem.head _), (fun _ h => by cases h)⟩)⟩)⟩)⟩)⟩)⟩)⟩) ?_
          exact ih29 (cr) (y29_5) (v309) (y29_6 + 1) I294a A294a B294a C294a M293 hR294a ⟨by omega, by omega⟩ ⟨by omega, by omega⟩ ⟨by omega, by omega⟩ (show c_bz I A I294a A294a p q (I 2503) by exact bx303) (show (I294a 2503) = (I 2503) ∧ (0 ≤ (I294a 1035) ∧ (I294a 1035) ≤ 10000) ∧ (I294a 200) = (I 200) ∧ (I294a 202) = (I 202) by (repeat' apply And.intro) <;> first | assumption | omega) (show c_Ch (A294a 31) (c_P2 A294a j) v309 cr s by rw [ev309]; exact k305) (show (A 30 n) = -1 ∨ c_Bd A294a (c_W A294a j) (A 30 n) s n by exact k304) (show p ≤ cr by omega) (show 0 ≤ (y29_6 + 1) ∧ (y29_6 + 1) ≤ 1500 by omega) (show 1500 - (y29_6 + 1) < (fu29 : Int) by omega)
  refine w_ls (ls := [(0, .ref 39), (1, .int (Int32.ofInt (n))), (2, .int (Int32.ofInt (x))), (3, .int (Int32.ofInt (v13))), (4, .int (Int32.ofInt ((-1)))), (5, .int (Int32.ofInt (v30))), (6, .int (Int32.ofInt (0)))]) (show List.Nodup [0, 1, 2, 3, 4, 5, 6] by decide) (show List.Nodup [6, 5, 4, 3, 0, 1, 2] by decide) (List.forall_mem_cons.mpr ⟨(List.Mem.tail _ (List.Mem.tail _ (List.Mem.tail _ (List.Mem.tail _ (List.Mem.head _))))), (List.forall_mem_cons.mpr ⟨(List.Mem.tail _ (List.Mem.tail _ (List.Mem.tail _ (List.Mem.tail _ (List.Mem.tail _ (List.Mem.head _)))))), (List.forall_mem_cons.mpr ⟨(List.Mem.tail _ (List.Mem.tail _ (List.Mem.tail _ (List.Mem.tail _ (List.Mem.tail _ (List.Mem.tail _ (List.Mem.head _))))))), (List.forall_mem_cons.mpr ⟨(List.Mem.tail _ (List.Mem.tail _ (List.Mem.tail _ (List.Mem.head _)))), (List.forall_mem_cons.mpr ⟨(List.Mem.tail _ (List.Mem.tail _ (List.Mem.head _))), (List.forall_mem_cons.mpr ⟨(List.Mem.tail _ (List.Mem.head _)), (List.forall_mem_cons.mpr ⟨(List.Mem.head _), (fun _ h => by cases h)⟩)⟩)⟩)⟩)⟩)⟩)⟩) ?_
  exact lp29 ((1500 - 0 : Int).toNat + 1) (r) ((-1)) (v30) (0) I12a A12a B12a C12a M11 hR12a ⟨by omega, by omega⟩ ⟨by omega, by omega⟩ ⟨by omega, by omega⟩ (show c_bz I A I12a A12a p q (I 2503) by exact bx24) (show (I12a 2503) = (I 2503) ∧ (0 ≤ (I12a 1035) ∧ (I12a 1035) ≤ 10000) ∧ (I12a 200) = (I 200) ∧ (I12a 202) = (I 202) by (repeat' apply And.intro) <;> first | assumption | omega) (show c_Ch (A12a 31) (c_P2 A12a j) v30 r s by rw [ev30]; exact k25) (show (A 30 n) = -1 ∨ c_Bd A12a (c_W A12a j) (A 30 n) s n by exact k26) (show p ≤ r by omega) (show 0 ≤ (0 : Int) ∧ (0 : Int) ≤ 1500 by omega) (show 1500 - 0 < (((1500 - 0 : Int).toNat + 1 : Nat) : Int) by omega)
