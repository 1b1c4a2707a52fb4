/-! BUILDER of the class: attempts, cases. -/
def cb_attempt_Q (fr : Nat → Bool) (X : Nat → Option (q_C (Nat → Int32))) (u l : Nat) (I : Nat → Int) (A : Nat → Int → Int) (B C : Nat → Nat) (M : w_M) (n : Int) (i : Nat) (p q : Int) : w_X → w_M → Prop := fun r M' => (∃ (I' : Nat → Int) (A' : Nat → Int → Int) (B' C' : Nat → Nat), (r = .inl none) ∧ (w_Rep w_TC fr X u l I' A' B' C' M') ∧ (c_bz I A I' A' p q (I 2503)) ∧ ((I' 2503) = (I 2503) ∧ (0 ≤ (I' 1035) ∧ (I' 1035) ≤ 10000) ∧ (I' 200) = (I 200) ∧ (I' 202) = (I 202)))
set_option maxHeartbeats 100000000 in
set_option maxRecDepth 100000 in
theorem cb_attempt {L : Nat} {xs : Nat → Int32} {d : Nat} {fr : Nat → Bool} {X : Nat → Option (q_C (Nat → Int32))} {u l : Nat} {I : Nat → Int} {A : Nat → Int → Int} {B C : Nat → Nat} {M : w_M} (hB0 : c_BALL L xs d) (n : Int) (i : Nat) (p q : Int) (hR : w_Rep w_TC fr X u l I A B C M) (hd : 8 * i + 4 ≤ d) (r_n : w_in n) (hKI : 0 ≤ (I 1035) ∧ (I 1035) ≤ 10000) (hKS : c_ks A) (hNM : 36 ≤ (I 200) ∧ (I 200) ≤ 419 ∧ 0 ≤ (I 202) ∧ (I 202) ≤ 24) (hLN : ∀ i, (A 5) i ≤ 24) (hW0 : 0 ≤ (I 2503)) (hWB : (I 2503) + 7000 * (i : Int) ≤ 1000000) (hW : c_W A i n p q) (hk : (A 27) n = 20) (hpq : 0 ≤ p ∧ q ≤ 3001) : w_W (z_P L xs) d 189 (0, [(0, .ref 39), (1, .int (Int32.ofInt (n)))], [], M) (cb_attempt_Q fr X u l I A B C M n i p q) := by
  obtain ⟨ra_n, rb_n⟩ := r_n
  obtain ⟨d, rfl⟩ : ∃ d0, d = d0 + 1 := ⟨d - 1, by omega⟩
  obtain ⟨nb1, nb2⟩ := c_W_in hW
  obtain ⟨j, hj⟩ := c_W_succ hW
  have hW1 : c_W A (j + 1) n p q := by rw [← hj]; exact hW
  obtain ⟨r, cr1, ca1, ca2⟩ := hW1.2.2.k20 hk
  obtain ⟨cr3, cr4, -⟩ := id ca1
  refine w_adv (n := 2) (F' := (2, [(0, .ref 39), (1, .int (Int32.ofInt (n)))], [.ref 39, .ref 39], M)) rfl ?_
  refine w_gf (v := .ref 26) hR rfl rfl rfl rfl ?_
  refine w_adv (n := 1) (F' := (6, [(0, .ref 39), (1, .int (Int32.ofInt (n)))], [.int (Int32.ofInt (n)), .ref 26, .ref 39], M)) rfl ?_
  refine w_call (cm := 145) (as := [(0, .ref 26), (1, .int (Int32.ofInt (n)))]) (rest := [.ref 39]) (o := some (8, 26)) rfl (w_fitR hR rfl) (c_Ta (n) hR (show 1 ≤ d by omega) ⟨by omega, by omega⟩) (fun r1 M2 q3 => ?_)
  rcases q3 with ⟨v4, e5, ⟨r6, r7⟩, e8, f9⟩
  rw [e5, e8]
  replace f9 : c_rd (A 28) n v4 := f9
  have ev4 : v4 = (A 28 n) := (c_rd_eq f9 (by omega) (by omega)).trans (congrFun (c_bz_ke (show c_bz I A I A p q (I 2503) from c_bz_refl)).2.1 _)
  show w_W _ _ _ (9, [(0, .ref 39), (1, .int (Int32.ofInt (n)))], [.int (Int32.ofInt (v4)), .ref 39], M) _
  refine w_adv (n := 1) (F' := (10, [(0, .ref 39), (1, .int (Int32.ofInt (n)))], [.int (Int32.ofInt ((-1))), .int (Int32.ofInt (v4)), .ref 39], M)) rfl ?_
  refine w_call (cm := 144) (as := [(0, .ref 39), (1, .int (Int32.ofInt (v4))), (2, .int (Int32.ofInt ((-1))))]) (rest := []) (o := some (1, 39)) rfl (w_fitR hR rfl) ((hB0 d (Nat.lt_succ_self d)).2 (v4) ((-1)) (j) (p) (r) hR (show 8 * j + 7 ≤ d by omega) ⟨by omega, by omega⟩ ⟨by omega, by omega⟩ (show 0 ≤ (I 1035) ∧ (I 1035) ≤ 10000 by (repeat' apply And.intro) <;> first | assumption | omega) (show c_ks A by exact (show c_bz I A I A p q (I 2503) from c_bz_refl).2.2.2.2 hKS) (show 36 ≤ (I 200) ∧ (I 200) ≤ 419 ∧ 0 ≤ (I 202) ∧ (I 202) ≤ 24 by (repeat' apply And.intro) <;> first | assumption | omega) (show ∀ i, (A 5) i ≤ 24 by rw [show (A 5) = (A 5) from (show c_bz I A I A p q (I 2503) from c_bz_refl).2.1 5 rfl]; exact hLN) (show 0 ≤ (I 2503) by omega) (show (I 2503) + 7000 * (j : Int) ≤ 1000000 by first | assumption | omega) (show c_Bd A (c_W A j) v4 p r by rw [ev4]; exact ca1) (show 0 ≤ p ∧ r ≤ 3002 by first | assumption | omega)) (fun r10 M11 q12 => ?_)
  rcases q12 with ⟨v13, I12a, A12a, B12a, C12a, e14, ⟨r15, r16⟩, hR12a, f17, f18⟩
  rw [e14]
  replace hR12a : w_Rep w_TC fr X u l I12a A12a B12a C12a M11 := hR12a
  replace f17 : c_bz I A I12a A12a p r (I 2503) := f17
  replace f18 : (I12a 2503) = (I 2503) ∧ (0 ≤ (I12a 1035) ∧ (I12a 1035) ≤ 10000) ∧ (I12a 200) = (I 200) ∧ (I12a 202) = (I 202) := f18
  obtain ⟨n19, ⟨n20, n21⟩, n22, n23⟩ := id f18
  clear f18
  have bx24 : c_bz I A I12a A12a p q (I 2503) := c_bz_trans (show c_bz I A I A p q (I 2503) from c_bz_refl) f17 (Int.le_refl _) (Int.le_refl _) (show p ≤ p ∨ r ≤ p by omega) (show r ≤ q ∨ r ≤ p by omega) (Int.le_refl _) (show (I 2503) ≤ (I 2503) by omega)
  have k25 : c_Bd A12a (c_W A12a j) (A 29 n) r n := c_Bd_agr ca2 (c_bz_r f17 (show n ≤ p ∨ r ≤ r ∨ r ≤ p by omega))
  show w_W _ _ _ (13, [(0, .ref 39), (1, .int (Int32.ofInt (n)))], [.int (Int32.ofInt (v13))], M11) _
  refine w_adv (n := 3) (F' := (16, [(2, .int (Int32.ofInt (v13))), (0, .ref 39), (1, .int (Int32.ofInt (n)))], [.ref 39, .ref 39], M11)) rfl ?_
  refine w_gf (v := .ref 26) hR12a rfl rfl rfl rfl ?_
  refine w_adv (n := 1) (F' := (20, [(2, .int (Int32.ofInt (v13))), (0, .ref 39), (1, .int (Int32.ofInt (n)))], [.int (Int32.ofInt (n)), .ref 26, .ref 39], M11)) rfl ?_
  refine w_call (cm := 174) (as := [(0, .ref 26), (1, .int (Int32.ofInt (n)))]) (rest := [.ref 39]) (o := some (8, 26)) rfl (w_fitR hR12a rfl) (c_Tc (n) hR12a (show 1 ≤ d by omega) ⟨by omega, by omega⟩) (fun r26 M27 q28 => ?_)
  rcases q28 with ⟨v29, e30, ⟨r31, r32⟩, e33, f34⟩
  rw [e30, e33]
  replace f34 : c_rd (A12a 30) n v29 := f34
  show w_W _ _ _ (23, [(2, .int (Int32.ofInt (v13))), (0, .ref 39), (1, .int (Int32.ofInt (n)))], [.int (Int32.ofInt (v29)), .ref 39], M11) _
  refine w_adv (n := 1) (F' := (24, [(2, .int (Int32.ofInt (v13))), (0, .ref 39), (1, .int (Int32.ofInt (n)))], [.int (Int32.ofInt (1)), .int (Int32.ofInt (v29)), .ref 39], M11)) rfl ?_
  refine w_call (cm := 179) (as := [(0, .ref 39), (1, .int (Int32.ofInt (v29))), (2, .int (Int32.ofInt (1)))]) (rest := []) (o := some (1, 39)) rfl (w_fitR hR12a rfl) (c_bear (v29) (1) hR12a (show 4 ≤ d by omega) ⟨by omega, by omega⟩ ⟨by omega, by omega⟩ (show 0 ≤ (I12a 1035) ∧ (I12a 1035) ≤ 10000 by (repeat' apply And.intro) <;> first | assumption | omega) (show 0 ≤ (I12a 2503) by omega)) (fun r35 M36 q37 => ?_)
  rcases q37 with ⟨I37a, A37a, B37a, C37a, e38, hR37a, f39, f40⟩
  rw [e38]
  replace hR37a : w_Rep w_TC fr X u l I37a A37a B37a C37a M36 := hR37a
  replace f39 : c_bz I12a A12a I37a A37a 0 0 (I12a 2503) := f39
  replace f40 : (I37a 2503) = (I12a 2503) ∧ (0 ≤ (I37a 1035) ∧ (I37a 1035) ≤ 10000) ∧ (I37a 200) = (I12a 200) ∧ (I37a 202) = (I12a 202) := f40
  obtain ⟨n41, ⟨n42, n43⟩, n44, n45⟩ := id f40
  clear f40
  have bx46 : c_bz I A I37a A37a p q (I 2503) := c_bz_trans (show c_bz I A I12a A12a p q (I 2503) from bx24) f39 (Int.le_refl _) (Int.le_refl _) (show p ≤ 0 ∨ 0 ≤ 0 by omega) (show 0 ≤ q ∨ 0 ≤ 0 by omega) (Int.le_refl _) (show (I 2503) ≤ (I12a 2503) by omega)
  have k47 : c_Bd A37a (c_W A37a j) (A 29 n) r n := c_Bd_agr k25 (c_bz_r f39 (show n ≤ 0 ∨ 0 ≤ r ∨ 0 ≤ 0 by omega))
  show w_W _ _ _ (27, [(2, .int (Int32.ofInt (v13))), (0, .ref 39), (1, .int (Int32.ofInt (n)))], [], M36) _
  refine w_adv (n := 2) (F' := (29, [(2, .int (Int32.ofInt (v13))), (0, .ref 39), (1, .int (Int32.ofInt (n)))], [.ref 39, .ref 39], M36)) rfl ?_
  refine w_gf (v := .ref 26) hR37a rfl rfl rfl rfl ?_
  refine w_adv (n := 1) (F' := (33, [(2, .int (Int32.ofInt (v13))), (0, .ref 39), (1, .int (Int32.ofInt (n)))], [.int (Int32.ofInt (n)), .ref 26, .ref 39], M36)) rfl ?_
  refine w_call (cm := 152) (as := [(0, .ref 26), (1, .int (Int32.ofInt (n)))]) (rest := [.ref 39]) (o := some (8, 26)) rfl (w_fitR hR37a rfl) (c_Tb (n) hR37a (show 1 ≤ d by omega) ⟨by omega, by omega⟩) (fun r48 M49 q50 => ?_)
  rcases q50 with ⟨v51, e52, ⟨r53, r54⟩, e55, f56⟩
  rw [e52, e55]
  replace f56 : c_rd (A37a 29) n v51 := f56
  have ev51 : v51 = (A 29 n) := by rw [c_rd_eq f56 (by omega) (by omega)]; exact (c_bz_n (show c_bz I A I37a A37a p q (I 2503) from bx46) (by omega)).1
  show w_W _ _ _ (36, [(2, .int (Int32.ofInt (v13))), (0, .ref 39), (1, .int (Int32.ofInt (n)))], [.int (Int32.ofInt (v51)), .ref 39], M36) _
  refine w_adv (n := 1) (F' := (37, [(2, .int (Int32.ofInt (v13))), (0, .ref 39), (1, .int (Int32.ofInt (n)))], [.int (Int32.ofInt ((-1))), .int (Int32.ofInt (v51)), .ref 39], M36)) rfl ?_
  refine w_call (cm := 144) (as := [(0, .ref 39), (1, .int (Int32.ofInt (v51))), (2, .int (Int32.ofInt ((-1))))]) (rest := []) (o := some (1, 39)) rfl (w_fitR hR37a rfl) ((hB0 d (Nat.lt_succ_self d)).2 (v51) ((-1)) (j) (r) (n) hR37a (show 8 * j + 7 ≤ d by omega) ⟨by omega, by omega⟩ ⟨by omega, by omega⟩ (show 0 ≤ (I37a 1035) ∧ (I37a 1035) ≤ 10000 by (repeat' apply And.intro) <;> first | assumption | omega) (show c_ks A37a by exact (show c_bz I A I37a A37a p q (I 2503) from bx46).2.2.2.2 hKS) (show 36 ≤ (I37a 200) ∧ (I37a 200) ≤ 419 ∧ 0 ≤ (I37a 202) ∧ (I37a 202) ≤ 24 by (repeat' apply And.intro) <;> first | assumption | omega) (show ∀ i, (A37a 5) i ≤ 24 by rw [show (A37a 5) = (A 5) from (show c_bz I A I37a A37a p q (I 2503) from bx46).2.1 5 rfl]; exact hLN) (show 0 ≤ (I37a 2503) by omega) (show (I37a 2503) + 7000 * (j : Int) ≤ 1000000 by first | assumption | omega) (show c_Bd A37a (c_W A37a j) v51 r n by rw [ev51]; exact k47) (show 0 ≤ r ∧ n ≤ 3002 by first | assumption | omega)) (fun r57 M58 q59 => ?_)
  rcases q59 with ⟨v60, I59a, A59a, B59a, C59a, e61, ⟨r62, r63⟩, hR59a, f64, f65⟩
  rw [e61]
  replace hR59a : w_Rep w_TC fr X u l I59a A59a B59a C59a M58 := hR59a
  replace f64 : c_bz I37a A37a I59a A59a r n (I37a 2503) := f64
  replace f65 : (I59a 2503) = (I37a 2503) ∧ (0 ≤ (I59a 1035) ∧ (I59a 1035) ≤ 10000) ∧ (I59a 200) = (I37a 200) ∧ (I59a 202) = (I37a 202) := f65
  obtain ⟨n66, ⟨n67, n68⟩, n69, n70⟩ := id f65
  clear f65
  have bx71 : c_bz I A I59a A59a p q (I 2503) := c_bz_trans (show c_bz I A I37a A37a p q (I 2503) from bx46) f64 (Int.le_refl _) (Int.le_refl _) (show p ≤ r ∨ n ≤ r by omega) (show n ≤ q ∨ n ≤ r by omega) (Int.le_refl _) (show (I 2503) ≤ (I37a 2503) by omega)
  show w_W _ _ _ (40, [(2, .int (Int32.ofInt (v13))), (0, .ref 39), (1, .int (Int32.ofInt (n)))], [.int (Int32.ofInt (v60))], M58) _
  refine w_adv (n := 4) (F' := (45, [(3, .int (Int32.ofInt (v60))), (2, .int (Int32.ofInt (v13))), (0, .ref 39), (1, .int (Int32.ofInt (n)))], [.ref 39, .int (Int32.ofInt (15)), .ref 39], M58)) rfl ?_
  refine w_gf (v := .ref 33) hR59a rfl rfl rfl rfl ?_
  refine w_adv (n := 1) (F' := (49, [(3, .int (Int32.ofInt (v60))), (2, .int (Int32.ofInt (v13))), (0, .ref 39), (1, .int (Int32.ofInt (n)))], [.ref 39, .ref 33, .int (Int32.ofInt (15)), .ref 39], M58)) rfl ?_
  refine w_gf (v := .ref 26) hR59a rfl rfl rfl rfl ?_
  refine w_adv (n := 1) (F' := (53, [(3, .int (Int32.ofInt (v60))), (2, .int (Int32.ofInt (v13))), (0, .ref 39), (1, .int (Int32.ofInt (n)))], [.int (Int32.ofInt (n)), .ref 26, .ref 33, .int (Int32.ofInt (15)), .ref 39], M58)) rfl ?_
  refine w_call (cm := 174) (as := [(0, .ref 26), (1, .int (Int32.ofInt (n)))]) (rest := [.ref 33, .int (Int32.ofInt (15)), .ref 39]) (o := some (8, 26)) rfl (w_fitR hR59a rfl) (c_Tc (n) hR59a (show 1 ≤ d by omega) ⟨by omega, by omega⟩) (fun r72 M73 q74 => ?_)
  rcases q74 with ⟨v75, e76, ⟨r77, r78⟩, e79, f80⟩
  rw [e76, e79]
  replace f80 : c_rd (A59a 30) n v75 := f80
  show w_W _ _ _ (56, [(3, .int (Int32.ofInt (v60))), (2, .int (Int32.ofInt (v13))), (0, .ref 39), (1, .int (Int32.ofInt (n)))], [.int (Int32.ofInt (v75)), .ref 33, .int (Int32.ofInt (15)), .ref 39], M58) _
  refine w_call (cm := 155) (as := [(0, .ref 33), (1, .int (Int32.ofInt (v75)))]) (rest := [.int (Int32.ofInt (15)), .ref 39]) (o := some (5, 33)) rfl (w_fitR hR59a rfl) (c_Scope_variable (v75) hR59a (show 2 ≤ d by omega) ⟨by omega, by omega⟩) (fun r81 M82 q83 => ?_)
  rcases q83 with ⟨v84, e85, ⟨r86, r87⟩, e88⟩
  rw [e85, e88]
  show w_W _ _ _ (59, [(3, .int (Int32.ofInt (v60))), (2, .int (Int32.ofInt (v13))), (0, .ref 39), (1, .int (Int32.ofInt (n)))], [.int (Int32.ofInt (v84)), .int (Int32.ofInt (15)), .ref 39], M58) _
  refine w_adv (n := 2) (F' := (61, [(3, .int (Int32.ofInt (v60))), (2, .int (Int32.ofInt (v13))), (0, .ref 39), (1, .int (Int32.ofInt (n)))], [.int (Int32.ofInt (v60)), .int (Int32.ofInt (v13)), .int (Int32.ofInt (v84)), .int (Int32.ofInt (15)), .ref 39], M58)) rfl ?_
  refine w_call (cm := 148) (as := [(0, .ref 39), (1, .int (Int32.ofInt (15))), (2, .int (Int32.ofInt (v84))), (3, .int (Int32.ofInt (v13))), (4, .int (Int32.ofInt (v60)))]) (rest := []) (o := some (1, 39)) rfl (w_fitR hR59a rfl) (c_emit (15) (v84) (v13) (v60) hR59a (show 4 ≤ d by omega) ⟨by omega, by omega⟩ ⟨by omega, by omega⟩ ⟨by omega, by omega⟩ ⟨by omega, by omega⟩ (show 0 ≤ (I59a 1035) ∧ (I59a 1035) ≤ 10000 by (repeat' apply And.intro) <;> first | assumption | omega) (show 0 ≤ (I59a 2503) by omega)) (fun r89 M90 q91 => ?_)
  rcases q91 with ⟨I91a, A91a, B91a, C91a, e92, hR91a, f93, f94⟩
  rw [e92]
  replace hR91a : w_Rep w_TC fr X u l I91a A91a B91a C91a M90 := hR91a
  replace f93 : c_bz I59a A59a I91a A91a 0 0 (I59a 2503) := f93
  replace f94 : (I91a 2503) = (I59a 2503) ∧ (0 ≤ (I91a 1035) ∧ (I91a 1035) ≤ 10000) ∧ (I91a 200) = (I59a 200) ∧ (I91a 202) = (I59a 202) := f94
  obtain ⟨n95, ⟨n96, n97⟩, n98, n99⟩ := id f94
  clear f94
  have bx100 : c_bz I A I91a A91a p q (I 2503) := c_bz_trans (show c_bz I A I59a A59a p q (I 2503) from bx71) f93 (Int.le_refl _) (Int.le_refl _) (show p ≤ 0 ∨ 0 ≤ 0 by omega) (show 0 ≤ q ∨ 0 ≤ 0 by omega) (Int.le_refl _) (show (I 2503) ≤ (I59a 2503) by omega)
  show w_W _ _ _ (64, [(3, .int (Int32.ofInt (v60))), (2, .int (Int32.ofInt (v13))), (0, .ref 39), (1, .int (Int32.ofInt (n)))], [], M90) _
  refine w_fin (r := .inl none) (M' := M90) rfl ?_
  exact ⟨I91a, A91a, B91a, C91a, rfl, hR91a, (show c_bz I A I91a A91a p q (I 2503) by exact bx100), (show (I91a 2503) = (I 2503) ∧ (0 ≤ (I91a 1035) ∧ (I91a 1035) ≤ 10000) ∧ (I91a 200) = (I 200) ∧ (I91a 202) = (I 202) by (repeat' apply And.intro) <;> first | assumption | omega)⟩
def cb_setB_Q (fr : Nat → Bool) (X : Nat → Option (q_C (Nat → Int32))) (u l : Nat) (I : Nat → Int) (A : Nat → Int → Int) (B C : Nat → Nat) (M : w_M) (m : Int) (v : Int) (p q : Int) : w_X → w_M → Prop := fun r M' => (∃ (I' : Nat → Int) (A' : Nat → Int → Int) (B' C' : Nat → Nat), (r = .inl none) ∧ (w_Rep w_TC fr X u l I' A' B' C' M') ∧ (c_bz I A I' A' p q (I 2503)) ∧ ((I' 2503) = (I 2503) ∧ (0 ≤ (I' 1035) ∧ (I' 1035) ≤ 10000) ∧ (I' 200) = (I 200) ∧ (I' 202) = (I 202)))
set_option maxHeartbeats 100000000 in
set_option maxRecDepth 100000 in
theorem cb_setB {L : Nat} {xs : Nat → Int32} {d : Nat} {fr : Nat → Bool} {X : Nat → Option (q_C (Nat → Int32))} {u l : Nat} {I : Nat → Int} {A : Nat → Int → Int} {B C : Nat → Nat} {M : w_M} (m : Int) (v : Int) (p q : Int) (hR : w_Rep w_TC fr X u l I A B C M) (hd : 2 ≤ d) (r_m : w_in m) (r_v : w_in v) (hKI : 0 ≤ (I 1035) ∧ (I 1035) ≤ 10000) (hW0 : 0 ≤ (I 2503)) (h16 : A 27 m = 16) (hm : p ≤ m ∧ m < q) : w_W (z_P L xs) d 115 (0, [(0, .ref 26), (1, .int (Int32.ofInt (m))), (2, .int (Int32.ofInt (v)))], [], M) (cb_setB_Q fr X u l I A B C M m v p q) := by
  obtain ⟨ra_m, rb_m⟩ := r_m
  obtain ⟨ra_v, rb_v⟩ := r_v
  obtain ⟨d, rfl⟩ : ∃ d0, d = d0 + 1 := ⟨d - 1, by omega⟩
  refine w_adv (n := 1) (F' := (1, [(0, .ref 26), (1, .int (Int32.ofInt (m))), (2, .int (Int32.ofInt (v)))], [.ref 26], M)) rfl ?_
  refine w_gf (v := .ref 29) hR rfl rfl rfl rfl ?_
  refine w_adv (n := 2) (F' := (6, [(0, .ref 26), (1, .int (Int32.ofInt (m))), (2, .int (Int32.ofInt (v)))], [.int (Int32.ofInt (v)), .int (Int32.ofInt (m)), .ref 29], M)) rfl ?_
  refine w_call (cm := 25) (as := [(0, .ref 29), (1, .int (Int32.ofInt (m))), (2, .int (Int32.ofInt (v)))]) (rest := []) (o := none) rfl (trivial) (c_set (m) (v) 29 3016 rfl (by decide) hR ⟨by omega, by omega⟩ ⟨by omega, by omega⟩) (fun r1 M2 q3 => ?_)
  rcases q3 with ⟨e4, hR3a⟩
  rw [e4]
  replace hR3a : w_Rep w_TC fr X u l I (w_upF A 29 (w_upG 3016 (A 29) (m) (v))) B C M2 := hR3a
  show w_W _ _ _ (9, [(0, .ref 26), (1, .int (Int32.ofInt (m))), (2, .int (Int32.ofInt (v)))], [], M2) _
  refine w_fin (r := .inl none) (M' := M2) rfl ?_
  exact ⟨I, (w_upF A 29 (w_upG 3016 (A 29) (m) (v))), B, C, rfl, hR3a, (show c_bz I A I (w_upF A 29 (w_upG 3016 (A 29) (m) (v))) p q (I 2503) by exact (c_bz_b c_bz_refl rfl h16 ⟨by omega, by omega⟩)), (show (I 2503) = (I 2503) ∧ (0 ≤ (I 1035) ∧ (I 1035) ≤ 10000) ∧ (I 200) = (I 200) ∧ (I 202) = (I 202) by (repeat' apply And.intro) <;> first | assumption | omega)⟩
def cb_setC_Q (fr : Nat → Bool) (X : Nat → Option (q_C (Nat → Int32))) (u l : Nat) (I : Nat → Int) (A : Nat → Int → Int) (B C : Nat → Nat) (M : w_M) (m : Int) (v : Int) (p q : Int) : w_X → w_M → Prop := fun r M' => (∃ (I' : Nat → Int) (A' : Nat → Int → Int) (B' C' : Nat → Nat), (r = .inl none) ∧ (w_Rep w_TC fr X u l I' A' B' C' M') ∧ (c_bz I A I' A' p q (I 2503)) ∧ ((I' 2503) = (I 2503) ∧ (0 ≤ (I' 1035) ∧ (I' 1035) ≤ 10000) ∧ (I' 200) = (I 200) ∧ (I' 202) = (I 202)))
set_option maxHeartbeats 100000000 in
set_option maxRecDepth 100000 in
theorem cb_setC {L : Nat} {xs : Nat → Int32} {d : Nat} {fr : Nat → Bool} {X : Nat → Option (q_C (Nat → Int32))} {u l : Nat} {I : Nat → Int} {A : Nat → Int → Int} {B C : Nat → Nat} {M : w_M} (m : Int) (v : Int) (p q : Int) (hR : w_Rep w_TC fr X u l I A B C M) (hd : 2 ≤ d) (r_m : w_in m) (r_v : w_in v) (hKI : 0 ≤ (I 1035) ∧ (I 1035) ≤ 10000) (hW0 : 0 ≤ (I 2503)) (h16 : A 27 m = 16) (hm : p ≤ m ∧ m < q) : w_W (z_P L xs) d 186 (0, [(0, .ref 26), (1, .int (Int32.ofInt (m))), (2, .int (Int32.ofInt (v)))], [], M) (cb_setC_Q fr X u l I A B C M m v p q) := by
  obtain ⟨ra_m, rb_m⟩ := r_m
  obtain ⟨ra_v, rb_v⟩ := r_v
  obtain ⟨d, rfl⟩ : ∃ d0, d = d0 + 1 := ⟨d - 1, by omega⟩
  refine w_adv (n := 1) (F' := (1, [(0, .ref 26), (1, .int (Int32.ofInt (m))), (2, .int (Int32.ofInt (v)))], [.ref 26], M)) rfl ?_
  refine w_gf (v := .ref 30) hR rfl rfl rfl rfl ?_
  refine w_adv (n := 2) (F' := (6, [(0, .ref 26), (1, .int (Int32.ofInt (m))), (2, .int (Int32.ofInt (v)))], [.int (Int32.ofInt (v)), .int (Int32.ofInt (m)), .ref 30], M)) rfl ?_
  refine w_call (cm := 25) (as := [(0, .ref 30), (1, .int (Int32.ofInt (m))), (2, .int (Int32.ofInt (v)))]) (rest := []) (o := none) rfl (trivial) (c_set (m) (v) 30 3016 rfl (by decide) hR ⟨by omega, by omega⟩ ⟨by omega, by omega⟩) (fun r1 M2 q3 => ?_)
  rcases q3 with ⟨e4, hR3a⟩
  rw [e4]
  replace hR3a : w_Rep w_TC fr X u l I (w_upF A 30 (w_upG 3016 (A 30) (m) (v))) B C M2 := hR3a
  show w_W _ _ _ (9, [(0, .ref 26), (1, .int (Int32.ofInt (m))), (2, .int (Int32.ofInt (v)))], [], M2) _
  refine w_fin (r := .inl none) (M' := M2) rfl ?_
  exact ⟨I, (w_upF A 30 (w_upG 3016 (A 30) (m) (v))), B, C, rfl, hR3a, (show c_bz I A I (w_upF A 30 (w_upG 3016 (A 30) (m) (v))) p q (I 2503) by exact (c_bz_c c_bz_refl rfl h16 ⟨by omega, by omega⟩)), (show (I 2503) = (I 2503) ∧ (0 ≤ (I 1035) ∧ (I 1035) ≤ 10000) ∧ (I 200) = (I 200) ∧ (I 202) = (I 202) by (repeat' apply And.intro) <;> first | assumption | omega)⟩
def cb_cases_Q (fr : Nat → Bool) (X : Nat → Option (q_C (Nat → Int32))) (u l : Nat) (I : Nat → Int) (A : Nat → Int → Int) (B C : Nat → Nat) (M : w_M) (n : Int) (x : Int) (i : Nat) (p q : Int) : w_X → w_M → Prop := fun r M' => (∃ (I' : Nat → Int) (A' : Nat → Int → Int) (B' C' : Nat → Nat), (r = .inl none) ∧ (w_Rep w_TC fr X u l I' A' B' C' M') ∧ (c_bz I A I' A' p q (I 2503)) ∧ ((I' 2503) = (I 2503) ∧ (0 ≤ (I' 1035) ∧ (I' 1035) ≤ 10000) ∧ (I' 200) = (I 200) ∧ (I' 202) = (I 202)))
set_option maxHeartbeats 100000000 in
set_option maxRecDepth 100000 in
theorem cb_cases {L : Nat} {xs : Nat → Int32} {d : Nat} {fr : Nat → Bool} {X : Nat → Option (q_C (Nat → Int32))} {u l : Nat} {I : Nat → Int} {A : Nat → Int → Int} {B C : Nat → Nat} {M : w_M} (hB0 : c_BALL L xs d) (n : Int) (x : Int) (i : Nat) (p q : Int) (hR : w_Rep w_TC fr X u l I A B C M) (hd : 8 * i + 3 ≤ d) (r_n : w_in n) (r_x : w_in x) (hKI : 0 ≤ (I 1035) ∧ (I 1035) ≤ 10000) (hKS : c_ks A) (hNM : 36 ≤ (I 200) ∧ (I 200) ≤ 419 ∧ 0 ≤ (I 202) ∧ (I 202) ≤ 24) (hLN : ∀ i, (A 5) i ≤ 24) (hW0 : 0 ≤ (I 2503)) (hWB : (I 2503) + 7000 * (i : Int) ≤ 1000000) (hW : c_W A i n p q) (hk : (A 27) n = 15) (hpq : 0 ≤ p ∧ q ≤ 3001) : w_W (z_P L xs) d 184 (0, [(0, .ref 39), (1, .int (Int32.ofInt (n))), (2, .int (Int32.ofInt (x)))], [], M) (cb_cases_Q fr X u l I A B C M n x i p q) := by
  obtain ⟨ra_n, rb_n⟩ := r_n
  obtain ⟨ra_x, rb_x⟩ := r_x
  obtain ⟨d, rfl⟩ : ∃ d0, d = d0 + 1 := ⟨d - 1, by omega⟩
  obtain ⟨nb1, nb2⟩ := c_W_in hW
  obtain ⟨j, hj⟩ := c_W_succ hW
  have hW1 : c_W A (j + 1) n p q := by rw [← hj]; exact hW
  obtain ⟨r, s, cr1, cr2, cw1, cw2, cw3⟩ := hW1.2.2.k15 hk
  have cw2 : c_Ch (A 31) (c_P2 A j) (A 29 n) r s := cw2
  obtain ⟨cr3, cr4⟩ := c_W_in cw1
  refine w_adv (n := 2) (F' := (2, [(0, .ref 39), (1, .int (Int32.ofInt (n))), (2, .int (Int32.ofInt (x)))], [.ref 39, .ref 39], M)) rfl ?_
  refine w_gf (v := .ref 26) hR rfl rfl rfl rfl ?_
  refine w_adv (n := 1) (F' := (6, [(0, .ref 39), (1, .int (Int32.ofInt (n))), (2, .int (Int32.ofInt (x)))], [.int (Int32.ofInt (n)), .ref 26, .ref 39], M)) rfl ?_
  refine w_call (cm := 145) (as := [(0, .ref 26), (1, .int (Int32.ofInt (n)))]) (rest := [.ref 39]) (o := some (8, 26)) rfl (w_fitR hR rfl) (c_Ta (n) hR (show 1 ≤ d by omega) ⟨by omega, by omega⟩) (fun r1 M2 q3 => ?_)
  rcases q3 with ⟨v4, e5, ⟨r6, r7⟩, e8, f9⟩
  rw [e5, e8]
  replace f9 : c_rd (A 28) n v4 := f9
  have ev4 : v4 = (A 28 n) := (c_rd_eq f9 (by omega) (by omega)).trans (congrFun (c_bz_ke (show c_bz I A I A p q (I 2503) from c_bz_refl)).2.1 _)
  show w_W _ _ _ (9, [(0, .ref 39), (1, .int (Int32.ofInt (n))), (2, .int (Int32.ofInt (x)))], [.int (Int32.ofInt (v4)), .ref 39], M) _
  refine w_call (cm := 177) (as := [(0, .ref 39), (1, .int (Int32.ofInt (v4)))]) (rest := []) (o := some (1, 39)) rfl (w_fitR hR rfl) (c_asVariable (c_BALL_dn hB0) (v4) (j) (p) (r) hR (show 8 * j + 5 ≤ d by omega) ⟨by omega, by omega⟩ (show 0 ≤ (I 1035) ∧ (I 1035) ≤ 10000 by (repeat' apply And.intro) <;> first | assumption | omega) (show c_ks A by exact (show c_bz I A I A p q (I 2503) from c_bz_refl).2.2.2.2 hKS) (show 36 ≤ (I 200) ∧ (I 200) ≤ 419 ∧ 0 ≤ (I 202) ∧ (I 202) ≤ 24 by (repeat' apply And.intro) <;> first | assumption | omega) (show ∀ i, (A 5) i ≤ 24 by rw [show (A 5) = (A 5) from (show c_bz I A I A p q (I 2503) from c_bz_refl).2.1 5 rfl]; exact hLN) (show 0 ≤ (I 2503) by omega) (show (I 2503) + 7000 * (j : Int) ≤ 1000000 by first | assumption | omega) (show c_W A j v4 p r by rw [ev4]; exact cw1) (show 0 ≤ p ∧ r ≤ 3001 by first | assumption | omega)) (fun r10 M11 q12 => ?_)
  rcases q12 with ⟨v13, I12a, A12a, B12a, C12a, e14, ⟨r15, r16⟩, hR12a, f17, f18⟩
  rw [e14]
  replace hR12a : w_Rep w_TC fr X u l I12a A12a B12a C12a M11 := hR12a
  replace f17 : c_bz I A I12a A12a p r (I 2503) := f17
  replace f18 : (I12a 2503) = (I 2503) ∧ (0 ≤ (I12a 1035) ∧ (I12a 1035) ≤ 10000) ∧ (I12a 200) = (I 200) ∧ (I12a 202) = (I 202) := f18
  obtain ⟨n19, ⟨n20, n21⟩, n22, n23⟩ := id f18
  clear f18
  have bx24 : c_bz I A I12a A12a p q (I 2503) := c_bz_trans (show c_bz I A I A p q (I 2503) from c_bz_refl) f17 (Int.le_refl _) (Int.le_refl _) (show p ≤ p ∨ r ≤ p by omega) (show r ≤ q ∨ r ≤ p by omega) (Int.le_refl _) (show (I 2503) ≤ (I 2503) by omega)
  have k25 : c_Ch (A12a 31) (c_P2 A12a j) (A 29 n) r s := c_Ch_agr c_P2_fam cw2 (c_bz_r f17 (show s ≤ p ∨ r ≤ r ∨ r ≤ p by omega))
  have k26 : (A 30 n) = -1 ∨ c_Bd A12a (c_W A12a j) (A 30 n) s n := cw3.imp_right (fun g => c_Bd_agr g (c_bz_r f17 (show n ≤ p ∨ r ≤ s ∨ r ≤ p by omega)))
  show w_W _ _ _ (12, [(0, .ref 39), (1, .int (Int32.ofInt (n))), (2, .int (Int32.ofInt (x)))], [.int (Int32.ofInt (v13))], M11) _
  refine w_adv (n := 4) (F' := (17, [(4, .int (Int32.ofInt ((-1)))), (3, .int (Int32.ofInt (v13))), (0, .ref 39), (1, .int (Int32.ofInt (n))), (2, .int (Int32.ofInt (x)))], [.ref 39], M11)) rfl ?_
  refine w_gf (v := .ref 26) hR12a rfl rfl rfl rfl ?_
  refine w_adv (n := 1) (F' := (21, [(4, .int (Int32.ofInt ((-1)))), (3, .int (Int32.ofInt (v13))), (0, .ref 39), (1, .int (Int32.ofInt (n))), (2, .int (Int32.ofInt (x)))], [.int (Int32.ofInt (n)), .ref 26], M11)) rfl ?_
  refine w_call (cm := 152) (as := [(0, .ref 26), (1, .int (Int32.ofInt (n)))]) (rest := []) (o := some (8, 26)) rfl (w_fitR hR12a rfl) (c_Tb (n) hR12a (show 1 ≤ d by omega) ⟨by omega, by omega⟩) (fun r27 M28 q29 => ?_)
  rcases q29 with ⟨v30, e31, ⟨r32, r33⟩, e34, f35⟩
  rw [e31, e34]
  replace f35 : c_rd (A12a 29) n v30 := f35
  have ev30 : v30 = (A 29 n) := by rw [c_rd_eq f35 (by omega) (by omega)]; exact (c_bz_n (show c_bz I A I12a A12a p q (I 2503) from bx24) (by omega)).1
  show w_W _ _ _ (24, [(4, .int (Int32.ofInt ((-1)))), (3, .int (Int32.ofInt (v13))), (0, .ref 39), (1, .int (Int32.ofInt (n))), (2, .int (Int32.ofInt (x)))], [.int (Int32.ofInt (v30))], M11) _
  refine w_adv (n := 3) (F' := (29, [(6, .int (Int32.ofInt (0))), (5, .int (Int32.ofInt (v30))), (4, .int (Int32.ofInt ((-1)))), (3, .int (Int32.ofInt (v13))), (0, .ref 39), (1, .int (Int32.ofInt (n))), (2, .int (Int32.ofInt (x)))], [], M11)) rfl ?_
  have lp29 : ∀ fu29 : Nat, ∀ (w_29 : Int) (y29_4 : Int) (y29_5 : Int) (y29_6 : Int) (I_29 : Nat → Int) (A_29 : Nat → Int → Int) (B_29 C_29 : Nat → Nat) (M_29 : w_M) (hR_29 : w_Rep w_TC fr X u l I_29 A_29 B_29 C_29 M_29), w_in y29_4 → w_in y29_5 → w_in y29_6 → c_bz I A I_29 A_29 p q (I 2503) → (I_29 2503) = (I 2503) ∧ (0 ≤ (I_29 1035) ∧ (I_29 1035) ≤ 10000) ∧ (I_29 200) = (I 200) ∧ (I_29 202) = (I 202) → c_Ch (A_29 31) (c_P2 A_29 j) y29_5 w_29 s → (A 30 n) = -1 ∨ c_Bd A_29 (c_W A_29 j) (A 30 n) s n → p ≤ w_29 → 0 ≤ y29_6 ∧ y29_6 ≤ 1500 → 1500 - y29_6 < (fu29 : Int) → w_W (z_P L xs) (d + 1) 184 (29, [(0, .ref 39), (1, .int (Int32.ofInt (n))), (2, .int (Int32.ofInt (x))), (3, .int (Int32.ofInt (v13))), (4, .int (Int32.ofInt (y29_4))), (5, .int (Int32.ofInt (y29_5))), (6, .int (Int32.ofInt (y29_6)))], [], M_29) (cb_cases_Q fr X u l I A B C M n x i p q) := by
    intro fu29
    induction fu29 with
    | zero =>
      intro w_29 y29_4 y29_5 y29_6 I_29 A_29 B_29 C_29 M_29 hR_29 ⟨ra_y29_4, rb_y29_4⟩ ⟨ra_y29_5, rb_y29_5⟩ ⟨ra_y29_6, rb_y29_6⟩ hi29_0 hi29_1 hi29_2 hi29_3 hi29_4 hi29_5 hn29
      exfalso
      omega
    | succ fu29 ih29 =>
      intro w_29 y29_4 y29_5 y29_6 I_29 A_29 B_29 C_29 M_29 hR_29 ⟨ra_y29_4, rb_y29_4⟩ ⟨ra_y29_5, rb_y29_5⟩ ⟨ra_y29_6, rb_y29_6⟩ hi29_0 hi29_1 hi29_2 hi29_3 hi29_4 hi29_5 hn29
      have jn111 : w_W (z_P L xs) (d + 1) 184 (111, [(0, .ref 39), (1, .int (Int32.ofInt (n))), (2, .int (Int32.ofInt (x))), (3, .int (Int32.ofInt (v13))), (4, .int (Int32.ofInt (y29_4))), (5, .int (Int32.ofInt (y29_5))), (6, .int (Int32.ofInt (y29_6)))], [], M_29) (cb_cases_Q fr X u l I A B C M n x i p q) := by
        skip
        refine w_adv (n := 1) (F' := (112, [(0, .ref 39), (1, .int (Int32.ofInt (n))), (2, .int (Int32.ofInt (x))), (3, .int (Int32.ofInt (v13))), (4, .int (Int32.ofInt (y29_4))), (5, .int (Int32.ofInt (y29_5))), (6, .int (Int32.ofInt (y29_6)))], [.ref 39], M_29)) rfl ?_
        refine w_gf (v := .ref 26) hR_29 rfl rfl rfl rfl ?_
        refine w_adv (n := 1) (F' := (116, [(0, .ref 39), (1, .int (Int32.ofInt (n))), (2, .int (Int32.ofInt (x))), (3, .int (Int32.ofInt (v13))), (4, .int (Int32.ofInt (y29_4))), (5, .int (Int32.ofInt (y29_5))), (6, .int (Int32.ofInt (y29_6)))], [.int (Int32.ofInt (n)), .ref 26], M_29)) rfl ?_
        refine w_call (cm := 174) (as := [(0, .ref 26), (1, .int (Int32.ofInt (n)))]) (rest := []) (o := some (8, 26)) rfl (w_fitR hR_29 rfl) (c_Tc (n) hR_29 (show 1 ≤ d by omega) ⟨by omega, by omega⟩) (fun r36 M37 q38 => ?_)
        rcases q38 with ⟨v39, e40, ⟨r41, r42⟩, e43, f44⟩
        rw [e40, e43]
        replace f44 : c_rd (A_29 30) n v39 := f44
        have ev39 : v39 = (A 30 n) := by rw [c_rd_eq f44 (by omega) (by omega)]; exact (c_bz_n (show c_bz I A I_29 A_29 p q (I 2503) from hi29_0) (by omega)).2
        show w_W _ _ _ (119, [(0, .ref 39), (1, .int (Int32.ofInt (n))), (2, .int (Int32.ofInt (x))), (3, .int (Int32.ofInt (v13))), (4, .int (Int32.ofInt (y29_4))), (5, .int (Int32.ofInt (y29_5))), (6, .int (Int32.ofInt (y29_6)))], [.int (Int32.ofInt (v39))], M_29) _
        refine w_adv (n := 1) (F' := (120, [(0, .ref 39), (1, .int (Int32.ofInt (n))), (2, .int (Int32.ofInt (x))), (3, .int (Int32.ofInt (v13))), (4, .int (Int32.ofInt (y29_4))), (5, .int (Int32.ofInt (y29_5))), (6, .int (Int32.ofInt (y29_6)))], [.int (Int32.ofInt ((-1))), .int (Int32.ofInt (v39))], M_29)) rfl ?_
        refine w_br2 (a := v39) (b := (-1)) rfl rfl ⟨by omega, by omega⟩ ⟨by omega, by omega⟩ (fun h45 => ?_) (fun h45 => ?_)
        · have h45 : ¬ v39 = (-1) := h45
          show w_W _ _ _ (130, [(0, .ref 39), (1, .int (Int32.ofInt (n))), (2, .int (Int32.ofInt (x))), (3, .int (Int32.ofInt (v13))), (4, .int (Int32.ofInt (y29_4))), (5, .int (Int32.ofInt (y29_5))), (6, .int (Int32.ofInt (y29_6)))], [], M_29) _
          have cwb : c_Bd A_29 (c_W A_29 j) (A 30 n) s n := hi29_3.resolve_left (by omega)
          refine w_adv (n := 2) (F' := (132, [(0, .ref 39), (1, .int (Int32.ofInt (n))), (2, .int (Int32.ofInt (x))), (3, .int (Int32.ofInt (v13))), (4, .int (Int32.ofInt (y29_4))), (5, .int (Int32.ofInt (y29_5))), (6, .int (Int32.ofInt (y29_6)))], [.ref 39, .ref 39], M_29)) rfl ?_
          refine w_gf (v := .ref 26) hR_29 rfl rfl rfl rfl ?_
          refine w_adv (n := 1) (F' := (136, [(0, .ref 39), (1, .int (Int32.ofInt (n))), (2, .int (Int32.ofInt (x))), (3, .int (Int32.ofInt (v13))), (4, .int (Int32.ofInt (y29_4))), (5, .int (Int32.ofInt (y29_5))), (6, .int (Int32.ofInt (y29_6)))], [.int (Int32.ofInt (n)), .ref 26, .ref 39], M_29)) rfl ?_
          refine w_call (cm := 174) (as := [(0, .ref 26), (1, .int (Int32.ofInt (n)))]) (rest := [.ref 39]) (o := some (8, 26)) rfl (w_fitR hR_29 rfl) (c_Tc (n) hR_29 (show 1 ≤ d by omega) ⟨by omega, by omega⟩) (fun r46 M47 q48 => ?_)
          rcases q48 with ⟨v49, e50, ⟨r51, r52⟩, e53, f54⟩
          rw [e50, e53]
          replace f54 : c_rd (A_29 30) n v49 := f54
          have ev49 : v49 = (A 30 n) := by rw [c_rd_eq f54 (by omega) (by omega)]; exact (c_bz_n (show c_bz I A I_29 A_29 p q (I 2503) from hi29_0) (by omega)).2
          show w_W _ _ _ (139, [(0, .ref 39), (1, .int (Int32.ofInt (n))), (2, .int (Int32.ofInt (x))), (3, .int (Int32.ofInt (v13))), (4, .int (Int32.ofInt (y29_4))), (5, .int (Int32.ofInt (y29_5))), (6, .int (Int32.ofInt (y29_6)))], [.int (Int32.ofInt (v49)), .ref 39], M_29) _
          refine w_adv (n := 1) (F' := (140, [(0, .ref 39), (1, .int (Int32.ofInt (n))), (2, .int (Int32.ofInt (x))), (3, .int (Int32.ofInt (v13))), (4, .int (Int32.ofInt (y29_4))), (5, .int (Int32.ofInt (y29_5))), (6, .int (Int32.ofInt (y29_6)))], [.int (Int32.ofInt (x)), .int (Int32.ofInt (v49)), .ref 39], M_29)) rfl ?_
          refine w_call (cm := 144) (as := [(0, .ref 39), (1, .int (Int32.ofInt (v49))), (2, .int (Int32.ofInt (x)))]) (rest := []) (o := some (1, 39)) rfl (w_fitR hR_29 rfl) ((hB0 d (Nat.lt_succ_self d)).2 (v49) (x) (j) (s) (n) hR_29 (show 8 * j + 7 ≤ d by omega) ⟨by omega, by omega⟩ ⟨by omega, by omega⟩ (show 0 ≤ (I_29 1035) ∧ (I_29 1035) ≤ 10000 by (repeat' apply And.intro) <;> first | assumption | omega) (show c_ks A_29 by exact (show c_bz I A I_29 A_29 p q (I 2503) from hi29_0).2.2.2.2 hKS) (show 36 ≤ (I_29 200) ∧ (I_29 200) ≤ 419 ∧ 0 ≤ (I_29 202) ∧ (I_29 202) ≤ 24 by (repeat' apply And.intro) <;> first | assumption | omega) (show ∀ i, (A_29 5) i ≤ 24 by rw [show (A_29 5) = (A 5) from (show c_bz I A I_29 A_29 p q (I 2503) from hi29_0).2.1 5 rfl]; exact hLN) (show 0 ≤ (I_29 2503) by omega) (show (I_29 2503) + 7000 * (j : Int) ≤ 1000000 by first | assumption | omega) (show c_Bd A_29 (c_W A_29 j) v49 s n by rw [ev49]; exact cwb) (show 0 ≤ s ∧ n ≤ 3002 by first | assumption | omega)) (fun r55 M56 q57 => ?_)
          rcases q57 with ⟨v58, I57a, A57a, B57a, C57a, e59, ⟨r60, r61⟩, hR57a, f62, f63⟩
          rw [e59]
          replace hR57a : w_Rep w_TC fr X u l I57a A57a B57a C57a M56 := hR57a
          replace f62 : c_bz I_29 A_29 I57a A57a s n (I_29 2503) := f62
          replace f63 : (I57a 2503) = (I_29 2503) ∧ (0 ≤ (I57a 1035) ∧ (I57a 1035) ≤ 10000) ∧ (I57a 200) = (I_29 200) ∧ (I57a 202) = (I_29 202) := f63
          obtain ⟨n64, ⟨n65, n66⟩, n67, n68⟩ := id f63
          clear f63
          have bx69 : c_bz I A I57a A57a p q (I 2503) := c_bz_trans (show c_bz I A I_29 A_29 p q (I 2503) from hi29_0) f62 (Int.le_refl _) (Int.le_refl _) (show p ≤ s ∨ n ≤ s by omega) (show n ≤ q ∨ n ≤ s by omega) (Int.le_refl _) (show (I 2503) ≤ (I_29 2503) by omega)
          have k70 : c_Ch (A57a 31) (c_P2 A57a j) y29_5 w_29 s := c_Ch_agr c_P2_fam hi29_2 (c_bz_r f62 (show s ≤ s ∨ n ≤ w_29 ∨ n ≤ s by omega))
          clear hi29_2
          show w_W _ _ _ (143, [(0, .ref 39), (1, .int (Int32.ofInt (n))), (2, .int (Int32.ofInt (x))), (3, .int (Int32.ofInt (v13))), (4, .int (Int32.ofInt (y29_4))), (5, .int (Int32.ofInt (y29_5))), (6, .int (Int32.ofInt (y29_6)))], [.int (Int32.ofInt (v58))], M56) _
          refine w_adv (n := 3) (F' := (148, [(7, .int (Int32.ofInt (0))), (6, .int (Int32.ofInt (v58))), (0, .ref 39), (1, .int (Int32.ofInt (n))), (2, .int (Int32.ofInt (x))), (3, .int (Int32.ofInt (v13))), (4, .int (Int32.ofInt (y29_4))), (5, .int (Int32.ofInt (y29_5)))], [], M56)) rfl ?_
          have lp148 : ∀ fu148 : Nat, ∀ (y148_4 : Int) (y148_6 : Int) (y148_7 : Int) (I_148 : Nat → Int) (A_148 : Nat → Int → Int) (B_148 C_148 : Nat → Nat) (M_148 : w_M) (hR_148 : w_Rep w_TC fr X u l I_148 A_148 B_148 C_148 M_148), w_in y148_4 → w_in y148_6 → w_in y148_7 → c_bz I A I_148 A_148 p q (I 2503) → (I_148 2503) = (I 2503) ∧ (0 ≤ (I_148 1035) ∧ (I_148 1035) ≤ 10000) ∧ (I_148 200) = (I 200) ∧ (I_148 202) = (I 202) → 0 ≤ y148_7 ∧ y148_7 ≤ 1500 → 1500 - y148_7 < (fu148 : Int) → w_W (z_P L xs) (d + 1) 184 (148, [(0, .ref 39), (1, .int (Int32.ofInt (n))), (2, .int (Int32.ofInt (x))), (3, .int (Int32.ofInt (v13))), (4, .int (Int32.ofInt (y148_4))), (5, .int (Int32.ofInt (y29_5))), (6, .int (Int32.ofInt (y148_6))), (7, .int (Int32.ofInt (y148_7)))], [], M_148) (cb_cases_Q fr X u l I A B C M n x i p q) := by
            intro fu148
            induction fu148 with
            | zero =>
              intro y148_4 y148_6 y148_7 I_148 A_148 B_148 C_148 M_148 hR_148 ⟨ra_y148_4, rb_y148_4⟩ ⟨ra_y148_6, rb_y148_6⟩ ⟨ra_y148_7, rb_y148_7⟩ hi148_0 hi148_1 hi148_2 hn148
              exfalso
              omega
            | succ fu148 ih148 =>
              intro y148_4 y148_6 y148_7 I_148 A_148 B_148 C_148 M_148 hR_148 ⟨ra_y148_4, rb_y148_4⟩ ⟨ra_y148_6, rb_y148_6⟩ ⟨ra_y148_7, rb_y148_7⟩ hi148_0 hi148_1 hi148_2 hn148
              have jn215 : w_W (z_P L xs) (d + 1) 184 (215, [(0, .ref 39), (1, .int (Int32.ofInt (n))), (2, .int (Int32.ofInt (x))), (3, .int (Int32.ofInt (v13))), (4, .int (Int32.ofInt (y148_4))), (5, .int (Int32.ofInt (y29_5))), (6, .int (Int32.ofInt (y148_6))), (7, .int (Int32.ofInt (y148_7)))], [], M_148) (cb_cases_Q fr X u l I A B C M n x i p q) := by
                skip
                refine w_adv (n := 2) (F' := (218, [(0, .ref 39), (1, .int (Int32.ofInt (n))), (2, .int (Int32.ofInt (x))), (3, .int (Int32.ofInt (v13))), (4, .int (Int32.ofInt (y148_4))), (5, .int (Int32.ofInt (y29_5))), (6, .int (Int32.ofInt (y148_6))), (7, .int (Int32.ofInt (y148_7)))], [.int (Int32.ofInt (y148_6)), .ref 39], M_148)) rfl ?_
                refine w_call (cm := 150) (as := [(0, .ref 39), (1, .int (Int32.ofInt (y148_6)))]) (rest := []) (o := some (1, 39)) rfl (w_fitR hR_148 rfl) (c_bapp (y148_6) hR_148 (show 3 ≤ d by omega) ⟨by omega, by omega⟩ (show 0 ≤ (I_148 1035) ∧ (I_148 1035) ≤ 10000 by (repeat' apply And.intro) <;> first | assumption | omega) (show 0 ≤ (I_148 2503) by omega)) (fun r71 M72 q73 => ?_)
                rcases q73 with ⟨I73a, A73a, B73a, C73a, e74, hR73a, f75, f76⟩
                rw [e74]
                replace hR73a : w_Rep w_TC fr X u l I73a A73a B73a C73a M72 := hR73a
                replace f75 : c_bz I_148 A_148 I73a A73a 0 0 (I_148 2503) := f75
                replace f76 : (I73a 2503) = (I_148 2503) ∧ (0 ≤ (I73a 1035) ∧ (I73a 1035) ≤ 10000) ∧ (I73a 200) = (I_148 200) ∧ (I73a 202) = (I_148 202) := f76
                obtain ⟨n77, ⟨n78, n79⟩, n80, n81⟩ := id f76
                clear f76
                have bx82 : c_bz I A I73a A73a p q (I 2503) := c_bz_trans (show c_bz I A I_148 A_148 p q (I 2503) from hi148_0) f75 (Int.le_refl _) (Int.le_refl _) (show p ≤ 0 ∨ 0 ≤ 0 by omega) (show 0 ≤ q ∨ 0 ≤ 0 by omega) (Int.le_refl _) (show (I 2503) ≤ (I_148 2503) by omega)
                show w_W _ _ _ (221, [(0, .ref 39), (1, .int (Int32.ofInt (n))), (2, .int (Int32.ofInt (x))), (3, .int (Int32.ofInt (v13))), (4, .int (Int32.ofInt (y148_4))), (5, .int (Int32.ofInt (y29_5))), (6, .int (Int32.ofInt (y148_6))), (7, .int (Int32.ofInt (y148_7)))], [], M72) _
                refine w_fin (r := .inl none) (M' := M72) rfl ?_
                exact ⟨I73a, A73a, B73a, C73a, rfl, hR73a, (show c_bz I A I73a A73a p q (I 2503) by exact bx82), (show (I73a 2503) = (I 2503) ∧ (0 ≤ (I73a 1035) ∧ (I73a 1035) ≤ 10000) ∧ (I73a 200) = (I 200) ∧ (I73a 202) = (I 202) by (repeat' apply And.intro) <;> first | assumption | omega)⟩
              refine w_adv (n := 2) (F' := (153, [(0, .ref 39), (1, .int (Int32.ofInt (n))), (2, .int (Int32.ofInt (x))), (3, .int (Int32.ofInt (v13))), (4, .int (Int32.ofInt (y148_4))), (5, .int (Int32.ofInt (y29_5))), (6, .int (Int32.ofInt (y148_6))), (7, .int (Int32.ofInt (y148_7)))], [.int (Int32.ofInt (1500)), .int (Int32.ofInt (y148_7))], M_148)) rfl ?_
              refine w_br2 (a := y148_7) (b := 1500) rfl rfl ⟨by omega, by omega⟩ ⟨by omega, by omega⟩ (fun h83 => ?_) (fun h83 => ?_)
              · have h83 : y148_7 ≥ 1500 := h83
                show w_W _ _ _ (215, [(0, .ref 39), (1, .int (Int32.ofInt (n))), (2, .int (Int32.ofInt (x))), (3, .int (Int32.ofInt (v13))), (4, .int (Int32.ofInt (y148_4))), (5, .int (Int32.ofInt (y29_5))), (6, .int (Int32.ofInt (y148_6))), (7, .int (Int32.ofInt (y148_7)))], [], M_148) _
                exact jn215   
              · have h83 : ¬ (y148_7 ≥ 1500) := h83
                show w_W _ _ _ (156, [(0, .ref 39), (1, .int (Int32.ofInt (n))), (2, .int (Int32.ofInt (x))), (3, .int (Int32.ofInt (v13))), (4, .int (Int32.ofInt (y148_4))), (5, .int (Int32.ofInt (y29_5))), (6, .int (Int32.ofInt (y148_6))), (7, .int (Int32.ofInt (y148_7)))], [], M_148) _
                refine w_adv (n := 2) (F' := (159, [(0, .ref 39), (1, .int (Int32.ofInt (n))), (2, .int (Int32.ofInt (x))), (3, .int (Int32.ofInt (v13))), (4, .int (Int32.ofInt (y148_4))), (5, .int (Int32.ofInt (y29_5))), (6, .int (Int32.ofInt (y148_6))), (7, .int (Int32.ofInt (y148_7)))], [.int (Int32.ofInt ((-1))), .int (Int32.ofInt (y148_4))], M_148)) rfl ?_
                refine w_br2 (a := y148_4) (b := (-1)) rfl rfl ⟨by omega, by omega⟩ ⟨by omega, by omega⟩ (fun h84 => ?_) (fun h84 => ?_)
                · have h84 : y148_4 = (-1) := h84
                  show w_W _ _ _ (215, [(0, .ref 39), (1, .int (Int32.ofInt (n))), (2, .int (Int32.ofInt (x))), (3, .int (Int32.ofInt (v13))), (4, .int (Int32.ofInt (y148_4))), (5, .int (Int32.ofInt (y29_5))), (6, .int (Int32.ofInt (y148_6))), (7, .int (Int32.ofInt (y148_7)))], [], M_148) _
                  exact jn215   
                · have h84 : ¬ (y148_4 = (-1)) := h84
                  show w_W _ _ _ (162, [(0, .ref 39), (1, .int (Int32.ofInt (n))), (2, .int (Int32.ofInt (x))), (3, .int (Int32.ofInt (v13))), (4, .int (Int32.ofInt (y148_4))), (5, .int (Int32.ofInt (y29_5))), (6, .int (Int32.ofInt (y148_6))), (7, .int (Int32.ofInt (y148_7)))], [], M_148) _
                  refine w_adv (n := 1) (F' := (163, [(0, .ref 39), (1, .int (Int32.ofInt (n))), (2, .int (Int32.ofInt (x))), (3, .int (Int32.ofInt (v13))), (4, .int (Int32.ofInt (y148_4))), (5, .int (Int32.ofInt (y29_5))), (6, .int (Int32.ofInt (y148_6))), (7, .int (Int32.ofInt (y148_7)))], [.ref 39], M_148)) rfl ?_
                  refine w_gf (v := .ref 16) hR_148 rfl rfl rfl rfl ?_
                  refine w_adv (n := 3) (F' := (170, [(0, .ref 39), (1, .int (Int32.ofInt (n))), (2, .int (Int32.ofInt (x))), (3, .int (Int32.ofInt (v13))), (4, .int (Int32.ofInt (y148_4))), (5, .int (Int32.ofInt (y29_5))), (6, .int (Int32.ofInt (y148_6))), (7, .int (Int32.ofInt (y148_7)))], [.ref 39, .int (Int32.ofInt (v13)), .int (Int32.ofInt (12)), .ref 16], M_148)) rfl ?_
                  refine w_gf (v := .ref 26) hR_148 rfl rfl rfl rfl ?_
                  refine w_adv (n := 1) (F' := (175, [(0, .ref 39), (1, .int (Int32.ofInt (n))), (2, .int (Int32.ofInt (x))), (3, .int (Int32.ofInt (v13))), (4, .int (Int32.ofInt (y148_4))), (5, .int (Int32.ofInt (y29_5))), (6, .int (Int32.ofInt (y148_6))), (7, .int (Int32.ofInt (y148_7)))], [.int (Int32.ofInt (y148_4)), .ref 26, .int (Int32.ofInt (v13)), .int (Int32.ofInt (12)), .ref 16], M_148)) rfl ?_
                  refine w_call (cm := 152) (as := [(0, .ref 26), (1, .int (Int32.ofInt (y148_4)))]) (rest := [.int (Int32.ofInt (v13)), .int (Int32.ofInt (12)), .ref 16]) (o := some (8, 26)) rfl (w_fitR hR_148 rfl) (c_Tb (y148_4) hR_148 (show 1 ≤ d by omega) ⟨by omega, by omega⟩) (fun r85 M86 q87 => ?_)
                  rcases q87 with ⟨v88, e89, ⟨r90, r91⟩, e92, f93⟩
                  rw [e89, e92]
                  replace f93 : c_rd (A_148 29) y148_4 v88 := f93
                  show w_W _ _ _ (178, [(0, .ref 39), (1, .int (Int32.ofInt (n))), (2, .int (Int32.ofInt (x))), (3, .int (Int32.ofInt (v13))), (4, .int (Int32.ofInt (y148_4))), (5, .int (Int32.ofInt (y29_5))), (6, .int (Int32.ofInt (y148_6))), (7, .int (Int32.ofInt (y148_7)))], [.int (Int32.ofInt (v88)), .int (Int32.ofInt (v13)), .int (Int32.ofInt (12)), .ref 16], M_148) _
                  refine w_adv (n := 1) (F' := (180, [(0, .ref 39), (1, .int (Int32.ofInt (n))), (2, .int (Int32.ofInt (x))), (3, .int (Int32.ofInt (v13))), (4, .int (Int32.ofInt (y148_4))), (5, .int (Int32.ofInt (y29_5))), (6, .int (Int32.ofInt (y148_6))), (7, .int (Int32.ofInt (y148_7)))], [.int (Int32.ofInt (y148_6)), .int (Int32.ofInt (v88)), .int (Int32.ofInt (v13)), .int (Int32.ofInt (12)), .ref 16], M_148)) rfl ?_
                  refine w_call (cm := 149) (as := [(0, .ref 16), (1, .int (Int32.ofInt (12))), (2, .int (Int32.ofInt (v13))), (3, .int (Int32.ofInt (v88))), (4, .int (Int32.ofInt (y148_6)))]) (rest := []) (o := some (2, 16)) rfl (w_fitR hR_148 rfl) (c_kmk (12) (v13) (v88) (y148_6) hR_148 (show 2 ≤ d by omega) ⟨by omega, by omega⟩ ⟨by omega, by omega⟩ ⟨by omega, by omega⟩ ⟨by omega, by omega⟩ (show 0 ≤ (I_148 1035) ∧ (I_148 1035) ≤ 10000 by (repeat' apply And.intro) <;> first | assumption | omega) (show 0 ≤ (I_148 2503) by omega)) (fun r94 M95 q96 => ?_)
                  rcases q96 with ⟨v97, I96a, A96a, B96a, C96a, e98, ⟨r99, r100⟩, hR96a, f101, f102⟩
                  rw [e98]
                  replace hR96a : w_Rep w_TC fr X u l I96a A96a B96a C96a M95 := hR96a
                  replace f101 : c_bz I_148 A_148 I96a A96a 0 0 (I_148 2503) := f101
                  replace f102 : (I96a 2503) = (I_148 2503) ∧ (0 ≤ (I96a 1035) ∧ (I96a 1035) ≤ 10000) ∧ (I96a 200) = (I_148 200) ∧ (I96a 202) = (I_148 202) := f102
                  obtain ⟨n103, ⟨n104, n105⟩, n106, n107⟩ := id f102
                  clear f102
                  have bx108 : c_bz I A I96a A96a p q (I 2503) := c_bz_trans (show c_bz I A I_148 A_148 p q (I 2503) from hi148_0) f101 (Int.le_refl _) (Int.le_refl _) (show p ≤ 0 ∨ 0 ≤ 0 by omega) (show 0 ≤ q ∨ 0 ≤ 0 by omega) (Int.le_refl _) (show (I 2503) ≤ (I_148 2503) by omega)
                  show w_W _ _ _ (183, [(0, .ref 39), (1, .int (Int32.ofInt (n))), (2, .int (Int32.ofInt (x))), (3, .int (Int32.ofInt (v13))), (4, .int (Int32.ofInt (y148_4))), (5, .int (Int32.ofInt (y29_5))), (6, .int (Int32.ofInt (y148_6))), (7, .int (Int32.ofInt (y148_7)))], [.int (Int32.ofInt (v97))], M95) _
                  refine w_adv (n := 3) (F' := (187, [(6, .int (Int32.ofInt (v97))), (0, .ref 39), (1, .int (Int32.ofInt (n))), (2, .int (Int32.ofInt (x))), (3, .int (Int32.ofInt (v13))), (4, .int (Int32.ofInt (y148_4))), (5, .int (Int32.ofInt (y29_5))), (7, .int (Int32.ofInt (y148_7)))], [.ref 39, .ref 39], M95)) rfl ?_
                  refine w_gf (v := .ref 26) hR96a rfl rfl rfl rfl ?_
                  refine w_adv (n := 1) (F' := (192, [(6, .int (Int32.ofInt (v97))), (0, .ref 39), (1, .int (Int32.ofInt (n))), (2, .int (Int32.ofInt (x))), (3, .int (Int32.ofInt (v13))), (4, .int (Int32.ofInt (y148_4))), (5, .int (Int32.ofInt (y29_5))), (7, .int (Int32.ofInt (y148_7)))], [.int (Int32.ofInt (y148_4)), .ref 26, .ref 39], M95)) rfl ?_
                  refine w_call (cm := 145) (as := [(0, .ref 26), (1, .int (Int32.ofInt (y148_4)))]) (rest := [.ref 39]) (o := some (8, 26)) rfl (w_fitR hR96a rfl) (c_Ta (y148_4) hR96a (show 1 ≤ d by omega) ⟨by omega, by omega⟩) (fun r109 M110 q111 => ?_)
                  rcases q111 with ⟨v112, e113, ⟨r114, r115⟩, e116, f117⟩
                  rw [e113, e116]
                  replace f117 : c_rd (A96a 28) y148_4 v112 := f117
                  show w_W _ _ _ (195, [(6, .int (Int32.ofInt (v97))), (0, .ref 39), (1, .int (Int32.ofInt (n))), (2, .int (Int32.ofInt (x))), (3, .int (Int32.ofInt (v13))), (4, .int (Int32.ofInt (y148_4))), (5, .int (Int32.ofInt (y29_5))), (7, .int (Int32.ofInt (y148_7)))], [.int (Int32.ofInt (v112)), .ref 39], M95) _
                  refine w_call (cm := 188) (as := [(0, .ref 39), (1, .int (Int32.ofInt (v112)))]) (rest := []) (o := some (1, 39)) rfl (w_fitR hR96a rfl) (c_addPattern (v112) hR96a (show 6 ≤ d by omega) ⟨by omega, by omega⟩ (show 0 ≤ (I96a 1035) ∧ (I96a 1035) ≤ 10000 by (repeat' apply And.intro) <;> first | assumption | omega) (show c_ks A96a by exact (show c_bz I A I96a A96a p q (I 2503) from bx108).2.2.2.2 hKS) (show 36 ≤ (I96a 200) ∧ (I96a 200) ≤ 419 ∧ 0 ≤ (I96a 202) ∧ (I96a 202) ≤ 24 by (repeat' apply And.intro) <;> first | assumption | omega) (show ∀ i, (A96a 5) i ≤ 24 by rw [show (A96a 5) = (A 5) from (show c_bz I A I96a A96a p q (I 2503) from bx108).2.1 5 rfl]; exact hLN) (show 0 ≤ (I96a 2503) by omega)) (fun r118 M119 q120 => ?_)
                  rcases q120 with ⟨I120a, A120a, B120a, C120a, e121, hR120a, f122, f123⟩
                  rw [e121]
                  replace hR120a : w_Rep w_TC fr X u l I120a A120a B120a C120a M119 := hR120a
                  replace f122 : c_bz I96a A96a I120a A120a 0 0 (I96a 2503) := f122
                  replace f123 : (I120a 2503) = (I96a 2503) ∧ (0 ≤ (I120a 1035) ∧ (I120a 1035) ≤ 10000) ∧ (I120a 200) = (I96a 200) ∧ (I120a 202) = (I96a 202) := f123
                  obtain ⟨n124, ⟨n125, n126⟩, n127, n128⟩ := id f123
                  clear f123
                  have bx129 : c_bz I A I120a A120a p q (I 2503) := c_bz_trans (show c_bz I A I96a A96a p q (I 2503) from bx108) f122 (Int.le_refl _) (Int.le_refl _) (show p ≤ 0 ∨ 0 ≤ 0 by omega) (show 0 ≤ q ∨ 0 ≤ 0 by omega) (Int.le_refl _) (show (I 2503) ≤ (I96a 2503) by omega)
                  show w_W _ _ _ (198, [(6, .int (Int32.ofInt (v97))), (0, .ref 39), (1, .int (Int32.ofInt (n))), (2, .int (Int32.ofInt (x))), (3, .int (Int32.ofInt (v13))), (4, .int (Int32.ofInt (y148_4))), (5, .int (Int32.ofInt (y29_5))), (7, .int (Int32.ofInt (y148_7)))], [], M119) _
                  refine w_adv (n := 1) (F' := (199, [(6, .int (Int32.ofInt (v97))), (0, .ref 39), (1, .int (Int32.ofInt (n))), (2, .int (Int32.ofInt (x))), (3, .int (Int32.ofInt (v13))), (4, .int (Int32.ofInt (y148_4))), (5, .int (Int32.ofInt (y29_5))), (7, .int (Int32.ofInt (y148_7)))], [.ref 39], M119)) rfl ?_
                  refine w_gf (v := .ref 26) hR120a rfl rfl rfl rfl ?_
                  refine w_adv (n := 1) (F' := (204, [(6, .int (Int32.ofInt (v97))), (0, .ref 39), (1, .int (Int32.ofInt (n))), (2, .int (Int32.ofInt (x))), (3, .int (Int32.ofInt (v13))), (4, .int (Int32.ofInt (y148_4))), (5, .int (Int32.ofInt (y29_5))), (7, .int (Int32.ofInt (y148_7)))], [.int (Int32.ofInt (y148_4)), .ref 26], M119)) rfl ?_
                  refine w_call (cm := 174) (as := [(0, .ref 26), (1, .int (Int32.ofInt (y148_4)))]) (rest := []) (o := some (8, 26)) rfl (w_fitR hR120a rfl) (c_Tc (y148_4) hR120a (show 1 ≤ d by omega) ⟨by omega, by omega⟩) (fun r130 M131 q132 => ?_)
                  rcases q132 with ⟨v133, e134, ⟨r135, r136⟩, e137, f138⟩
                  rw [e134, e137]
                  replace f138 : c_rd (A120a 30) y148_4 v133 := f138
                  show w_W _ _ _ (207, [(6, .int (Int32.ofInt (v97))), (0, .ref 39), (1, .int (Int32.ofInt (n))), (2, .int (Int32.ofInt (x))), (3, .int (Int32.ofInt (v13))), (4, .int (Int32.ofInt (y148_4))), (5, .int (Int32.ofInt (y29_5))), (7, .int (Int32.ofInt (y148_7)))], [.int (Int32.ofInt (v133))], M119) _
                  refine w_adv (n := 1) (F' := (209, [(4, .int (Int32.ofInt (v133))), (6, .int (Int32.ofInt (v97))), (0, .ref 39), (1, .int (Int32.ofInt (n))), (2, .int (Int32.ofInt (x))), (3, .int (Int32.ofInt (v13))), (5, .int (Int32.ofInt (y29_5))), (7, .int (Int32.ofInt (y148_7)))], [], M119)) rfl ?_
                  refine w_inc (nL := 8) (a := y148_7) rfl rfl rfl (by decide) ?_
                  refine w_adv (n := 1) (F' := (148, [(7, .int (Int32.ofInt (y148_7 + 1))), (4, .int (Int32.ofInt (v133))), (6, .int (Int32.ofInt (v97))), (0, .ref 39), (1, .int (Int32.ofInt (n))), (2, .int (Int32.ofInt (x))), (3, .int (Int32.ofInt (v13))), (5, .int (Int32.ofInt (y29_5)))], [], M119)) rfl ?_
                  refine w_ls (ls := [(0, .ref 39), (1, .int (Int32.ofInt (n))), (2, .int (Int32.ofInt (x))), (3, .int (Int32.ofInt (v13))), (4, .int (Int32.ofInt (v133))), (5, .int (Int32.ofInt (y29_5))), (6, .int (Int32.ofInt (v97))), (7, .int (Int32.ofInt (y148_7 + 1)))]) (show List.Nodup [0, 1, 2, 3, 4, 5, 6, 7] by decide) (show List.Nodup [7, 4, 6, 0, 1, 2, 3, 5] by decide) (List.forall_mem_cons.mpr ⟨(List.Mem.tail _ (List.Mem.tail _ (List.Mem.tail _ (List.Mem.head _)))), (List.forall_mem_cons.mpr ⟨(List.Mem.tail _ (List.Mem.tail _ (List.Mem.tail _ (List.Mem.tail _ (List.Mem.head _))))), (List.forall_mem_cons.mpr ⟨(List.Mem.tail _ (List.Mem.tail _ (List.Mem.tail _ (List.Mem.tail _ (List.Mem.tail _ (List.Mem.head _)))))), (List.forall_mem_cons.mpr ⟨(List.Mem.tail _ (List.Mem.tail _ (List.Mem.tail _ (List.Mem.tail _ (List.Mem.tail _ (List.Mem.tail _ (List.Mem.head _))))))), (List.forall_mem_cons.mpr ⟨(List.Mem.tail _ (List.Mem.head _)), (List.forall_mem_cons.mpr ⟨(List.Mem.tail _ (List.Mem.tail _ (List.Mem.tail _ (List.Mem.tail _ (List.Mem.tail _ (List.Mem.tail _ (List.Mem.tail _ (List.Mem.head _)))))))), (List.forall_mem_cons.mpr ⟨(List.Mem.tail _ (List.Mem.tail _ (List.Mem.head _))), (List.forall_mem_cons.mpr ⟨(List.Mem.head _), (fun _ h => by cases h)⟩)⟩)⟩)⟩)⟩)⟩)⟩)⟩) ?_
                  exact ih148  (v133) (v97) (y148_7 + 1) I120a A120a B120a C120a M119 hR120a ⟨by omega, by omega⟩ ⟨by omega, by omega⟩ ⟨by omega, by omega⟩ (show c_bz I A I120a A120a p q (I 2503) by exact bx129) (show (I120a 2503) = (I 2503) ∧ (0 ≤ (I120a 1035) ∧ (I120a 1035) ≤ 10000) ∧ (I120a 200) = (I 200) ∧ (I120a 202) = (I 202) by (repeat' apply And.intro) <;> first | assumption | omega) (show 0 ≤ (y148_7 + 1) ∧ (y148_7 + 1) ≤ 1500 by omega) (show 1500 - (y148_7 + 1) < (fu148 : Int) by omega)
          refine w_ls (ls := [(0, .ref 39), (1, .int (Int32.ofInt (n))), (2, .int (Int32.ofInt (x))), (3, .int (Int32.ofInt (v13))), (4, .int (Int32.ofInt (y29_4))), (5, .int (Int32.ofInt (y29_5))), (6, .int (Int32.ofInt (v58))), (7, .int (Int32.ofInt (0)))]) (show List.Nodup [0, 1, 2, 3, 4, 5, 6, 7] by decide) (show List.Nodup [7, 6, 0, 1, 2, 3, 4, 5] by decide) (List.forall_mem_cons.mpr ⟨(List.Mem.tail _ (List.Mem.tail _ (List.Mem.head _))), (List.forall_mem_cons.mpr ⟨(List.Mem.tail _ (List.Mem.tail _ (List.Mem.tail _ (List.Mem.head _)))), (List.forall_mem_cons.mpr ⟨(List.Mem.tail _ (List.Mem.tail _ (List.Mem.tail _ (List.Mem.tail _ (List.Mem.head _))))), (List.forall_mem_cons.mpr ⟨(List.Mem.tail _ (List.Mem.tail _ (List.Mem.tail _ (List.Mem.tail _ (List.Mem.tail _ (List.Mem.head _)))))), (List.forall_mem_cons.mpr ⟨(List.Mem.tail _ (List.Mem.tail _ (List.Mem.tail _ (List.Mem.tail _ (List.Mem.tail _ (List.Mem.tail _ (List.Mem.head _))))))), (List.forall_mem_cons.mpr ⟨(List.Mem.tail _ (List.Mem.tail _ (List.Mem.tail _ (List.Mem.tail _ (List.Mem.tail _ (List.Mem.tail _ (List.Mem.tail _ (List.Mem.head _)))))))), (List.forall_mem_cons.mpr ⟨(List.Mem.tail _ (List.Mem.head _)), (List.forall_mem_cons.mpr ⟨(List.Mem.head _), (fun _ h => by cases h)⟩)⟩)⟩)⟩)⟩)⟩)⟩)⟩) ?_
          exact lp148 ((1500 - 0 : Int).toNat + 1)  (y29_4) (v58) (0) I57a A57a B57a C57a M56 hR57a ⟨by omega, by omega⟩ ⟨by omega, by omega⟩ ⟨by omega, by omega⟩ (show c_bz I A I57a A57a p q (I 2503) by exact bx69) (show (I57a 2503) = (I 2503) ∧ (0 ≤ (I57a 1035) ∧ (I57a 1035) ≤ 10000) ∧ (I57a 200) = (I 200) ∧ (I57a 202) = (I 202) by (repeat' apply And.intro) <;> first | assumption | omega) (show 0 ≤ (0 : Int) ∧ (0 : Int) ≤ 1500 by omega) (show 1500 - 0 < (((1500 - 0 : Int).toNat + 1 : Nat) : Int) by omega)
        · have h45 : ¬ (¬ v39 = (-1)) := h45
          show w_W _ _ _ (123, [(0, .ref 39), (1, .int (Int32.ofInt (n))), (2, .int (Int32.ofInt (x))), (3, .int (Int32.ofInt (v13))), (4, .int (Int32.ofInt (y29_4))), (5, .int (Int32.ofInt (y29_5))), (6, .int (Int32.ofInt (y29_6)))], [], M_29) _
          refine w_adv (n := 1) (F' := (124, [(0, .ref 39), (1, .int (Int32.ofInt (n))), (2, .int (Int32.ofInt (x))), (3, .int (Int32.ofInt (v13))), (4, .int (Int32.ofInt (y29_4))), (5, .int (Int32.ofInt (y29_5))), (6, .int (Int32.ofInt (y29_6)))], [.ref 39], M_29)) rfl ?_
          refine w_call (cm := 187) (as := [(0, .ref 39)]) (rest := []) (o := some (1, 39)) rfl (w_fitR hR_29 rfl) (c_noMatch hR_29 (show 4 ≤ d by omega) (show 0 ≤ (I_29 1035) ∧ (I_29 1035) ≤ 10000 by (repeat' apply And.intro) <;> first | assumption | omega) (show 0 ≤ (I_29 2503) by omega)) (fun r139 M140 q141 => ?_)
          rcases q141 with ⟨v142, I141a, A141a, B141a, C141a, e143, ⟨r144, r145⟩, hR141a, f146, f147⟩
          rw [e143]
          replace hR141a : w_Rep w_TC fr X u l I141a A141a B141a C141a M140 := hR141a
          replace f146 : c_bz I_29 A_29 I141a A141a 0 0 (I_29 2503) := f146
          replace f147 : (I141a 2503) = (I_29 2503) ∧ (0 ≤ (I141a 1035) ∧ (I141a 1035) ≤ 10000) ∧ (I141a 200) = (I_29 200) ∧ (I141a 202) = (I_29 202) := f147
          obtain ⟨n148, ⟨n149, n150⟩, n151, n152⟩ := id f147
          clear f147
          have bx153 : c_bz I A I141a A141a p q (I 2503) := c_bz_trans (show c_bz I A I_29 A_29 p q (I 2503) from hi29_0) f146 (Int.le_refl _) (Int.le_refl _) (show p ≤ 0 ∨ 0 ≤ 0 by omega) (show 0 ≤ q ∨ 0 ≤ 0 by omega) (Int.le_refl _) (show (I 2503) ≤ (I_29 2503) by omega)
          have k154 : c_Ch (A141a 31) (c_P2 A141a j) y29_5 w_29 s := c_Ch_agr c_P2_fam hi29_2 (c_bz_r f146 (show s ≤ 0 ∨ 0 ≤ w_29 ∨ 0 ≤ 0 by omega))
          clear hi29_2
          have k155 : (A 30 n) = -1 ∨ c_Bd A141a (c_W A141a j) (A 30 n) s n := hi29_3.imp_right (fun g => c_Bd_agr g (c_bz_r f146 (show n ≤ 0 ∨ 0 ≤ s ∨ 0 ≤ 0 by omega)))
          clear hi29_3
          show w_W _ _ _ (127, [(0, .ref 39), (1, .int (Int32.ofInt (n))), (2, .int (Int32.ofInt (x))), (3, .int (Int32.ofInt (v13))), (4, .int (Int32.ofInt (y29_4))), (5, .int (Int32.ofInt (y29_5))), (6, .int (Int32.ofInt (y29_6)))], [.int (Int32.ofInt (v142))], M140) _
          refine w_adv (n := 4) (F' := (148, [(7, .int (Int32.ofInt (0))), (6, .int (Int32.ofInt (v142))), (0, .ref 39), (1, .int (Int32.ofInt (n))), (2, .int (Int32.ofInt (x))), (3, .int (Int32.ofInt (v13))), (4, .int (Int32.ofInt (y29_4))), (5, .int (Int32.ofInt (y29_5)))], [], M140)) rfl ?_
          have lp148 : ∀ fu148 : Nat, ∀ (y148_4 : Int) (y148_6 : Int) (y148_7 : Int) (I_148 : Nat → Int) (A_148 : Nat → Int → Int) (B_148 C_148 : Nat → Nat) (M_148 : w_M) (hR_148 : w_Rep w_TC fr X u l I_148 A_148 B_148 C_148 M_148), w_in y148_4 → w_in y148_6 → w_in y148_7 → c_bz I A I_148 A_148 p q (I 2503) → (I_148 2503) = (I 2503) ∧ (0 ≤ (I_148 1035) ∧ (I_148 1035) ≤ 10000) ∧ (I_148 200) = (I 200) ∧ (I_148 202) = (I 202) → 0 ≤ y148_7 ∧ y148_7 ≤ 1500 → 1500 - y148_7 < (fu148 : Int) → w_W (z_P L xs) (d + 1) 184 (148, [(0, .ref 39), (1, .int (Int32.ofInt (n))), (2, .int (Int32.ofInt (x))), (3, .int (Int32.ofInt (v13))), (4, .int (Int32.ofInt (y148_4))), (5, .int (Int32.ofInt (y29_5))), (6, .int (Int32.ofInt (y148_6))), (7, .int (Int32.ofInt (y148_7)))], [], M_148) (cb_cases_Q fr X u l I A B C M n x i p q) := by
            intro fu148
            induction fu148 with
            | zero =>
              intro y148_4 y148_6 y148_7 I_148 A_148 B_148 C_148 M_148 hR_148 ⟨ra_y148_4, rb_y148_4⟩ ⟨ra_y148_6, rb_y148_6⟩ ⟨ra_y148_7, rb_y148_7⟩ hi148_0 hi148_1 hi148_2 hn148
              exfalso
              omega
            | succ fu148 ih148 =>
              intro y148_4 y148_6 y148_7 I_148 A_148 B_148 C_148 M_148 hR_148 ⟨ra_y148_4, rb_y148_4⟩ ⟨ra_y148_6, rb_y148_6⟩ ⟨ra_y148_7, rb_y148_7⟩ hi148_0 hi148_1 hi148_2 hn148
              have jn215 : w_W (z_P L xs) (d + 1) 184 (215, [(0, .ref 39), (1, .int (Int32.ofInt (n))), (2, .int (Int32.ofInt (x))), (3, .int (Int32.ofInt (v13))), (4, .int (Int32.ofInt (y148_4))), (5, .int (Int32.ofInt (y29_5))), (6, .int (Int32.ofInt (y148_6))), (7, .int (Int32.ofInt (y148_7)))], [], M_148) (cb_cases_Q fr X u l I A B C M n x i p q) := by
                skip
                refine w_adv (n := 2) (F' := (218, [(0, .ref 39), (1, .int (Int32.ofInt (n))), (2, .int (Int32.ofInt (x))), (3, .int (Int32.ofInt (v13))), (4, .int (Int32.ofInt (y148_4))), (5, .int (Int32.ofInt (y29_5))), (6, .int (Int32.ofInt (y148_6))), (7, .int (Int32.ofInt (y148_7)))], [.int (Int32.ofInt (y148_6)), .ref 39], M_148)) rfl ?_
                refine w_call (cm := 150) (as := [(0, .ref 39), (1, .int (Int32.ofInt (y148_6)))]) (rest := []) (o := some (1, 39)) rfl (w_fitR hR_148 rfl) (c_bapp (y148_6) hR_148 (show 3 ≤ d by omega) ⟨by omega, by omega⟩ (show 0 ≤ (I_148 1035) ∧ (I_148 1035) ≤ 10000 by (repeat' apply And.intro) <;> first | assumption | omega) (show 0 ≤ (I_148 2503) by omega)) (fun r156 M157 q158 => ?_)
                rcases q158 with ⟨I158a, A158a, B158a, C158a, e159, hR158a, f160, f161⟩
                rw [e159]
                replace hR158a : w_Rep w_TC fr X u l I158a A158a B158a C158a M157 := hR158a
                replace f160 : c_bz I_148 A_148 I158a A158a 0 0 (I_148 2503) := f160
                replace f161 : (I158a 2503) = (I_148 2503) ∧ (0 ≤ (I158a 1035) ∧ (I158a 1035) ≤ 10000) ∧ (I158a 200) = (I_148 200) ∧ (I158a 202) = (I_148 202) := f161
                obtain ⟨n162, ⟨n163, n164⟩, n165, n166⟩ := id f161
                clear f161
                have bx167 : c_bz I A I158a A158a p q (I 2503) := c_bz_trans (show c_bz I A I_148 A_148 p q (I 2503) from hi148_0) f160 (Int.le_refl _) (Int.le_refl _) (show p ≤ 0 ∨ 0 ≤ 0 by omega) (show 0 ≤ q ∨ 0 ≤ 0 by omega) (Int.le_refl _) (show (I 2503) ≤ (I_148 2503) by omega)
                show w_W _ _ _ (221, [(0, .ref 39), (1, .int (Int32.ofInt (n))), (2, .int (Int32.ofInt (x))), (3, .int (Int32.ofInt (v13))), (4, .int (Int32.ofInt (y148_4))), (5, .int (Int32.ofInt (y29_5))), (6, .int (Int32.ofInt (y148_6))), (7, .int (Int32.ofInt (y148_7)))], [], M157) _
                refine w_fin (r := .inl none) (M' := M157) rfl ?_
                exact ⟨I158a, A158a, B158a, C158a, rfl, hR158a, (show c_bz I A I158a A158a p q (I 2503) by exact bx167), (show (I158a 2503) = (I 2503) ∧ (0 ≤ (I158a 1035) ∧ (I158a 1035) ≤ 10000) ∧ (I158a 200) = (I 200) ∧ (I158a 202) = (I 202) by (repeat' apply And.intro) <;> first | assumption | omega)⟩
              refine w_adv (n := 2) (F' := (153, [(0, .ref 39), (1, .int (Int32.ofInt (n))), (2, .int (Int32.ofInt (x))), (3, .int (Int32.ofInt (v13))), (4, .int (Int32.ofInt (y148_4))), (5, .int (Int32.ofInt (y29_5))), (6, .int (Int32.ofInt (y148_6))), (7, .int (Int32.ofInt (y148_7)))], [.int (Int32.ofInt (1500)), .int (Int32.ofInt (y148_7))], M_148)) rfl ?_
              refine w_br2 (a := y148_7) (b := 1500) rfl rfl ⟨by omega, by omega⟩ ⟨by omega, by omega⟩ (fun h168 => ?_) (fun h168 => ?_)
              · have h168 : y148_7 ≥ 1500 := h168
                show w_W _ _ _ (215, [(0, .ref 39), (1, .int (Int32.ofInt (n))), (2, .int (Int32.ofInt (x))), (3, .int (Int32.ofInt (v13))), (4, .int (Int32.ofInt (y148_4))), (5, .int (Int32.ofInt (y29_5))), (6, .int (Int32.ofInt (y148_6))), (7, .int (Int32.ofInt (y148_7)))], [], M_148) _
                exact jn215   
              · have h168 : ¬ (y148_7 ≥ 1500) := h168
                show w_W _ _ _ (156, [(0, .ref 39), (1, .int (Int32.ofInt (n))), (2, .int (Int32.ofInt (x))), (3, .int (Int32.ofInt (v13))), (4, .int (Int32.ofInt (y148_4))), (5, .int (Int32.ofInt (y29_5))), (6, .int (Int32.ofInt (y148_6))), (7, .int (Int32.ofInt (y148_7)))], [], M_148) _
                refine w_adv (n := 2) (F' := (159, [(0, .ref 39), (1, .int (Int32.ofInt (n))), (2, .int (Int32.ofInt (x))), (3, .int (Int32.ofInt (v13))), (4, .int (Int32.ofInt (y148_4))), (5, .int (Int32.ofInt (y29_5))), (6, .int (Int32.ofInt (y148_6))), (7, .int (Int32.ofInt (y148_7)))], [.int (Int32.ofInt ((-1))), .int (Int32.ofInt (y148_4))], M_148)) rfl ?_
                refine w_br2 (a := y148_4) (b := (-1)) rfl rfl ⟨by omega, by omega⟩ ⟨by omega, by omega⟩ (fun h169 => ?_) (fun h169 => ?_)
                · have h169 : y148_4 = (-1) := h169
                  show w_W _ _ _ (215, [(0, .ref 39), (1, .int (Int32.ofInt (n))), (2, .int (Int32.ofInt (x))), (3, .int (Int32.ofInt (v13))), (4, .int (Int32.ofInt (y148_4))), (5, .int (Int32.ofInt (y29_5))), (6, .int (Int32.ofInt (y148_6))), (7, .int (Int32.ofInt (y148_7)))], [], M_148) _
                  exact jn215   
                · have h169 : ¬ (y148_4 = (-1)) := h169
                  show w_W _ _ _ (162, [(0, .ref 39), (1, .int (Int32.ofInt (n))), (2, .int (Int32.ofInt (x))), (3, .int (Int32.ofInt (v13))), (4, .int (Int32.ofInt (y148_4))), (5, .int (Int32.ofInt (y29_5))), (6, .int (Int32.ofInt (y148_6))), (7, .int (Int32.ofInt (y148_7)))], [], M_148) _
                  refine w_adv (n := 1) (F' := (163, [(0, .ref 39), (1, .int (Int32.ofInt (n))), (2, .int (Int32.ofInt (x))), (3, .int (Int32.ofInt (v13))), (4, .int (Int32.ofInt (y148_4))), (5, .int (Int32.ofInt (y29_5))), (6, .int (Int32.ofInt (y148_6))), (7, .int (Int32.ofInt (y148_7)))], [.ref 39], M_148)) rfl ?_
                  refine w_gf (v := .ref 16) hR_148 rfl rfl rfl rfl ?_
                  refine w_adv (n := 3) (F' := (170, [(0, .ref 39), (1, .int (Int32.ofInt (n))), (2, .int (Int32.ofInt (x))), (3, .int (Int32.ofInt (v13))), (4, .int (Int32.ofInt (y148_4))), (5, .int (Int32.ofInt (y29_5))), (6, .int (Int32.ofInt (y148_6))), (7, .int (Int32.ofInt (y148_7)))], [.ref 39, .int (Int32.ofInt (v13)), .int (Int32.ofInt (12)), .ref 16], M_148)) rfl ?_
                  refine w_gf (v := .ref 26) hR_148 rfl rfl rfl rfl ?_
                  refine w_adv (n := 1) (F' := (175, [(0, .ref 39), (1, .int (Int32.ofInt (n))), (2, .int (Int32.ofInt (x))), (3, .int (Int32.ofInt (v13))), (4, .int (Int32.ofInt (y148_4))), (5, .int (Int32.ofInt (y29_5))), (6, .int (Int32.ofInt (y148_6))), (7, .int (Int32.ofInt (y148_7)))], [.int (Int32.ofInt (y148_4)), .ref 26, .int (Int32.ofInt (v13)), .int (Int32.ofInt (12)), .ref 16], M_148)) rfl ?_
                  refine w_call (cm := 152) (as := [(0, .ref 26), (1, .int (Int32.ofInt (y148_4)))]) (rest := [.int (Int32.ofInt (v13)), .int (Int32.ofInt (12)), .ref 16]) (o := some (8, 26)) rfl (w_fitR hR_148 rfl) (c_Tb (y148_4) hR_148 (show 1 ≤ d by omega) ⟨by omega, by omega⟩) (fun r170 M171 q172 => ?_)
                  rcases q172 with ⟨v173, e174, ⟨r175, r176⟩, e177, f178⟩
                  rw [e174, e177]
                  replace f178 : c_rd (A_148 29) y148_4 v173 := f178
                  show w_W _ _ _ (178, [(0, .ref 39), (1, .int (Int32.ofInt (n))), (2, .int (Int32.ofInt (x))), (3, .int (Int32.ofInt (v13))), (4, .int (Int32.ofInt (y148_4))), (5, .int (Int32.ofInt (y29_5))), (6, .int (Int32.ofInt (y148_6))), (7, .int (Int32.ofInt (y148_7)))], [.int (Int32.ofInt (v173)), .int (Int32.ofInt (v13)), .int (Int32.ofInt (12)), .ref 16], M_148) _
                  refine w_adv (n := 1) (F' := (180, [(0, .ref 39), (1, .int (Int32.ofInt (n))), (2, .int (Int32.ofInt (x))), (3, .int (Int32.ofInt (v13))), (4, .int (Int32.ofInt (y148_4))), (5, .int (Int32.ofInt (y29_5))), (6, .int (Int32.ofInt (y148_6))), (7, .int (Int32.ofInt (y148_7)))], [.int (Int32.ofInt (y148_6)), .int (Int32.ofInt (v173)), .int (Int32.ofInt (v13)), .int (Int32.ofInt (12)), .ref 16], M_148)) rfl ?_
                  refine w_call (cm := 149) (as := [(0, .ref 16), (1, .int (Int32.ofInt (12))), (2, .int (Int32.ofInt (v13))), (3, .int (Int32.ofInt (v173))), (4, .int (Int32.ofInt (y148_6)))]) (rest := []) (o := some (2, 16)) rfl (w_fitR hR_148 rfl) (c_kmk (12) (v13) (v173) (y148_6) hR_148 (show 2 ≤ d by omega) ⟨by omega, by omega⟩ ⟨by omega, by omega⟩ ⟨by omega, by omega⟩ ⟨by omega, by omega⟩ (show 0 ≤ (I_148 1035) ∧ (I_148 1035) ≤ 10000 by (repeat' apply And.intro) <;> first | assumption | omega) (show 0 ≤ (I_148 2503) by omega)) (fun r179 M180 q181 => ?_)
                  rcases q181 with ⟨v182, I181a, A181a, B181a, C181a, e183, ⟨r184, r185⟩, hR181a, f186, f187⟩
                  rw [e183]
                  replace hR181a : w_Rep w_TC fr X u l I181a A181a B181a C181a M180 := hR181a
                  replace f186 : c_bz I_148 A_148 I181a A181a 0 0 (I_148 2503) := f186
                  replace f187 : (I181a 2503) = (I_148 2503) ∧ (0 ≤ (I181a 1035) ∧ (I181a 1035) ≤ 10000) ∧ (I181a 200) = (I_148 200) ∧ (I181a 202) = (I_148 202) := f187
                  obtain ⟨n188, ⟨n189, n190⟩, n191, n192⟩ := id f187
                  clear f187
                  have bx193 : c_bz I A I181a A181a p q (I 2503) := c_bz_trans (show c_bz I A I_148 A_148 p q (I 2503) from hi148_0) f186 (Int.le_refl _) (Int.le_refl _) (show p ≤ 0 ∨ 0 ≤ 0 by omega) (show 0 ≤ q ∨ 0 ≤ 0 by omega) (Int.le_refl _) (show (I 2503) ≤ (I_148 2503) by omega)
                  show w_W _ _ _ (183, [(0, .ref 39), (1, .int (Int32.ofInt (n))), (2, .int (Int32.ofInt (x))), (3, .int (Int32.ofInt (v13))), (4, .int (Int32.ofInt (y148_4))), (5, .int (Int32.ofInt (y29_5))), (6, .int (Int32.ofInt (y148_6))), (7, .int (Int32.ofInt (y148_7)))], [.int (Int32.ofInt (v182))], M180) _
                  refine w_adv (n := 3) (F' := (187, [(6, .int (Int32.ofInt (v182))), (0, .ref 39), (1, .int (Int32.ofInt (n))), (2, .int (Int32.ofInt (x))), (3, .int (Int32.ofInt (v13))), (4, .int (Int32.ofInt (y148_4))), (5, .int (Int32.ofInt (y29_5))), (7, .int (Int32.ofInt (y148_7)))], [.ref 39, .ref 39], M180)) rfl ?_
                  refine w_gf (v := .ref 26) hR181a rfl rfl rfl rfl ?_
                  refine w_adv (n := 1) (F' := (192, [(6, .int (Int32.ofInt (v182))), (0, .ref 39), (1, .int (Int32.ofInt (n))), (2, .int (Int32.ofInt (x))), (3, .int (Int32.ofInt (v13))), (4, .int (Int32.ofInt (y148_4))), (5, .int (Int32.ofInt (y29_5))), (7, .int (Int32.ofInt (y148_7)))], [.int (Int32.ofInt (y148_4)), .ref 26, .ref 39], M180)) rfl ?_
                  refine w_call (cm := 145) (as := [(0, .ref 26), (1, .int (Int32.ofInt (y148_4)))]) (rest := [.ref 39]) (o := some (8, 26)) rfl (w_fitR hR181a rfl) (c_Ta (y148_4) hR181a (show 1 ≤ d by omega) ⟨by omega, by omega⟩) (fun r194 M195 q196 => ?_)
                  rcases q196 with ⟨v197, e198, ⟨r199, r200⟩, e201, f202⟩
                  rw [e198, e201]
                  replace f202 : c_rd (A181a 28) y148_4 v197 := f202
                  show w_W _ _ _ (195, [(6, .int (Int32.ofInt (v182))), (0, .ref 39), (1, .int (Int32.ofInt (n))), (2, .int (Int32.ofInt (x))), (3, .int (Int32.ofInt (v13))), (4, .int (Int32.ofInt (y148_4))), (5, .int (Int32.ofInt (y29_5))), (7, .int (Int32.ofInt (y148_7)))], [.int (Int32.ofInt (v197)), .ref 39], M180) _
                  refine w_call (cm := 188) (as := [(0, .ref 39), (1, .int (Int32.ofInt (v197)))]) (rest := []) (o := some (1, 39)) rfl (w_fitR hR181a rfl) (c_addPattern (v197) hR181a (show 6 ≤ d by omega) ⟨by omega, by omega⟩ (show 0 ≤ (I181a 1035) ∧ (I181a 1035) ≤ 10000 by (repeat' apply And.intro) <;> first | assumption | omega) (show c_ks A181a by exact (show c_bz I A I181a A181a p q (I 2503) from bx193).2.2.2.2 hKS) (show 36 ≤ (I181a 200) ∧ (I181a 200) ≤ 419 ∧ 0 ≤ (I181a 202) ∧ (I181a 202) ≤ 24 by (repeat' apply And.intro) <;> first | assumption | omega) (show ∀ i, (A181a 5) i ≤ 24 by rw [show (A181a 5) = (A 5) from (show c_bz I A I181a A181a p q (I 2503) from bx193).2.1 5 rfl]; exact hLN) (show 0 ≤ (I181a 2503) by omega)) (fun r203 M204 q205 => ?_)
                  rcases q205 with ⟨I205a, A205a, B205a, C205a, e206, hR205a, f207, f208⟩
                  rw [e206]
                  replace hR205a : w_Rep w_TC fr X u l I205a A205a B205a C205a M204 := hR205a
                  replace f207 : c_bz I181a A181a I205a A205a 0 0 (I181a 2503) := f207
                  replace f208 : (I205a 2503) = (I181a 2503) ∧ (0 ≤ (I205a 1035) ∧ (I205a 1035) ≤ 10000) ∧ (I205a 200) = (I181a 200) ∧ (I205a 202) = (I181a 202) := f208
                  obtain ⟨n209, ⟨n210, n211⟩, n212, n213⟩ := id f208
                  clear f208
                  have bx214 : c_bz I A I205a A205a p q (I 2503) := c_bz_trans (show c_bz I A I181a A181a p q (I 2503) from bx193) f207 (Int.le_refl _) (Int.le_refl _) (show p ≤ 0 ∨ 0 ≤ 0 by omega) (show 0 ≤ q ∨ 0 ≤ 0 by omega) (Int.le_refl _) (show (I 2503) ≤ (I181a 2503) by omega)
                  show w_W _ _ _ (198, [(6, .int (Int32.ofInt (v182))), (0, .ref 39), (1, .int (Int32.ofInt (n))), (2, .int (Int32.ofInt (x))), (3, .int (Int32.ofInt (v13))), (4, .int (Int32.ofInt (y148_4))), (5, .int (Int32.ofInt (y29_5))), (7, .int (Int32.ofInt (y148_7)))], [], M204) _
                  refine w_adv (n := 1) (F' := (199, [(6, .int (Int32.ofInt (v182))), (0, .ref 39), (1, .int (Int32.ofInt (n))), (2, .int (Int32.ofInt (x))), (3, .int (Int32.ofInt (v13))), (4, .int (Int32.ofInt (y148_4))), (5, .int (Int32.ofInt (y29_5))), (7, .int (Int32.ofInt (y148_7)))], [.ref 39], M204)) rfl ?_
                  refine w_gf (v := .ref 26) hR205a rfl rfl rfl rfl ?_
                  refine w_adv (n := 1) (F' := (204, [(6, .int (Int32.ofInt (v182))), (0, .ref 39), (1, .int (Int32.ofInt (n))), (2, .int (Int32.ofInt (x))), (3, .int (Int32.ofInt (v13))), (4, .int (Int32.ofInt (y148_4))), (5, .int (Int32.ofInt (y29_5))), (7, .int (Int32.ofInt (y148_7)))], [.int (Int32.ofInt (y148_4)), .ref 26], M204)) rfl ?_
                  refine w_call (cm := 174) (as := [(0, .ref 26), (1, .int (Int32.ofInt (y148_4)))]) (rest := []) (o := some (8, 26)) rfl (w_fitR hR205a rfl) (c_Tc (y148_4) hR205a (show 1 ≤ d by omega) ⟨by omega, by omega⟩) (fun r215 M216 q217 => ?_)
                  rcases q217 with ⟨v218, e219, ⟨r220, r221⟩, e222, f223⟩
                  rw [e219, e222]
                  replace f223 : c_rd (A205a 30) y148_4 v218 := f223
                  show w_W _ _ _ (207, [(6, .int (Int32.ofInt (v182))), (0, .ref 39), (1, .int (Int32.ofInt (n))), (2, .int (Int32.ofInt (x))), (3, .int (Int32.ofInt (v13))), (4, .int (Int32.ofInt (y148_4))), (5, .int (Int32.ofInt (y29_5))), (7, .int (Int32.ofInt (y148_7)))], [.int (Int32.ofInt (v218))], M204) _
                  refine w_adv (n := 1) (F' := (209, [(4, .int (Int32.ofInt (v218))), (6, .int (Int32.ofInt (v182))), (0, .ref 39), (1, .int (Int32.ofInt (n))), (2, .int (Int32.ofInt (x))), (3, .int (Int32.ofInt (v13))), (5, .int (Int32.ofInt (y29_5))), (7, .int (Int32.ofInt (y148_7)))], [], M204)) rfl ?_
                  refine w_inc (nL := 8) (a := y148_7) rfl rfl rfl (by decide) ?_
                  refine w_adv (n := 1) (F' := (148, [(7, .int (Int32.ofInt (y148_7 + 1))), (4, .int (Int32.ofInt (v218))), (6, .int (Int32.ofInt (v182))), (0, .ref 39), (1, .int (Int32.ofInt (n))), (2, .int (Int32.ofInt (x))), (3, .int (Int32.ofInt (v13))), (5, .int (Int32.ofInt (y29_5)))], [], M204)) rfl ?_
                  refine w_ls (ls := [(0, .ref 39), (1, .int (Int32.ofInt (n))), (2, .int (Int32.ofInt (x))), (3, .int (Int32.ofInt (v13))), (4, .int (Int32.ofInt (v218))), (5, .int (Int32.ofInt (y29_5))), (6, .int (Int32.ofInt (v182))), (7, .int (Int32.ofInt (y148_7 + 1)))]) (show List.Nodup [0, 1, 2, 3, 4, 5, 6, 7] by decide) (show List.Nodup [7, 4, 6, 0, 1, 2, 3, 5] by decide) (List.forall_mem_cons.mpr ⟨(List.Mem.tail _ (List.Mem.tail _ (List.Mem.tail _ (List.Mem.head _)))), (List.forall_mem_cons.mpr ⟨(List.Mem.tail _ (List.Mem.tail _ (List.Mem.tail _ (List.Mem.tail _ (List.Mem.head _))))), (List.forall_mem_cons.mpr ⟨(List.Mem.tail _ (List.Mem.tail _ (List.Mem.tail _ (List.Mem.tail _ (List.Mem.tail _ (List.Mem.head _)))))), (List.forall_mem_cons.mpr ⟨(List.Mem.tail _ (List.Mem.tail _ (List.Mem.tail _ (List.Mem.tail _ (List.Mem.tail _ (List.Mem.tail _ (List.Mem.head _))))))), (List.forall_mem_cons.mpr ⟨(List.Mem.tail _ (List.Mem.head _)), (List.forall_mem_cons.mpr ⟨(List.Mem.tail _ (List.Mem.tail _ (List.Mem.tail _ (List.Mem.tail _ (List.Mem.tail _ (List.Mem.tail _ (List.Mem.tail _ (List.Mem.head _)))))))), (List.forall_mem_cons.mpr ⟨(List.Mem.tail _ (List.Mem.tail _ (List.Mem.head _))), (List.forall_mem_cons.mpr ⟨(List.Mem.head _), (fun _ h => by cases h)⟩)⟩)⟩)⟩)⟩)⟩)⟩)⟩) ?_
                  exact ih148  (v218) (v182) (y148_7 + 1) I205a A205a B205a C205a M204 hR205a ⟨by omega, by omega⟩ ⟨by omega, by omega⟩ ⟨by omega, by omega⟩ (show c_bz I A I205a A205a p q (I 2503) by exact bx214) (show (I205a 2503) = (I 2503) ∧ (0 ≤ (I205a 1035) ∧ (I205a 1035) ≤ 10000) ∧ (I205a 200) = (I 200) ∧ (I205a 202) = (I 202) by (repeat' apply And.intro) <;> first | assumption | omega) (show 0 ≤ (y148_7 + 1) ∧ (y148_7 + 1) ≤ 1500 by omega) (show 1500 - (y148_7 + 1) < (fu148 : Int) by omega)
          refine w_ls (ls := [(0, .ref 39), (1, .int (Int32.ofInt (n))), (2, .int (Int32.ofInt (x))), (3, .int (Int32.ofInt (v13))), (4, .int (Int32.ofInt (y29_4))), (5, .int (Int32.ofInt (y29_5))), (6, .int (Int32.ofInt (v142))), (7, .int (Int32.ofInt (0)))]) (show List.Nodup [0, 1, 2, 3, 4, 5, 6, 7] by decide) (show List.Nodup [7, 6, 0, 1, 2, 3, 4, 5] by decide) (List.forall_mem_cons.mpr ⟨(List.Mem.tail _ (List.Mem.tail _ (List.Mem.head _))), (List.forall_mem_cons.mpr ⟨(List.Mem.tail _ (List.Mem.tail _ (List.Mem.tail _ (List.Mem.head _)))), (List.forall_mem_cons.mpr ⟨(List.Mem.tail _ (List.Mem.tail _ (List.Mem.tail _ (List.Mem.tail _ (List.Mem.head _))))), (List.forall_mem_cons.mpr ⟨(List.Mem.tail _ (List.Mem.tail _ (List.Mem.tail _ (List.Mem.tail _ (List.Mem.tail _ (List.Mem.head _)))))), (List.forall_mem_cons.mpr ⟨(List.Mem.tail _ (List.Mem.tail _ (List.Mem.tail _ (List.Mem.tail _ (List.Mem.tail _ (List.Mem.tail _ (List.Mem.head _))))))), (List.forall_mem_cons.mpr ⟨(List.Mem.tail _ (List.Mem.tail _ (List.Mem.tail _ (List.Mem.tail _ (List.Mem.tail _ (List.Mem.tail _ (List.Mem.tail _ (List.Mem.head _)))))))), (List.forall_mem_cons.mpr ⟨(List.Mem.tail _ (List.Mem.head _)), (List.forall_mem_cons.mpr ⟨(List.Mem.head _), (fun _ h => by cases h)⟩)⟩)⟩)⟩)⟩)⟩)⟩)⟩) ?_
          exact lp148 ((1500 - 0 : Int).toNat + 1)  (y29_4) (v142) (0) I141a A141a B141a C141a M140 hR141a ⟨by omega, by omega⟩ ⟨by omega, by omega⟩ ⟨by omega, by omega⟩ (show c_bz I A I141a A141a p q (I 2503) by exact bx153) (show (I141a 2503) = (I 2503) ∧ (0 ≤ (I141a 1035) ∧ (I141a 1035) ≤ 10000) ∧ (I141a 200) = (I 200) ∧ (I141a 202) = (I 202) by (repeat' apply And.intro) <;> first | assumption | omega) (show 0 ≤ (0 : Int) ∧ (0 : Int) ≤ 1500 by omega) (show 1500 - 0 < (((1500 - 0 : Int).toNat + 1 : Nat) : Int) by omega)
      refine w_adv (n := 2) (F' := (34, [(0, .ref 39), (1, .int (Int32.ofInt (n))), (2, .int (Int32.ofInt (x))), (3, .int (Int32.ofInt (v13))), (4, .int (Int32.ofInt (y29_4))), (5, .int (Int32.ofInt (y29_5))), (6, .int (Int32.ofInt (y29_6)))], [.int (Int32.ofInt (1500)), .int (Int32.ofInt (y29_6))], M_29)) rfl ?_
      refine w_br2 (a := y29_6) (b := 1500) rfl rfl ⟨by omega, by omega⟩ ⟨by omega, by omega⟩ (fun h224 => ?_) (fun h224 => ?_)
      · have h224 : y29_6 ≥ 1500 := h224
        show w_W _ _ _ (111, [(0, .ref 39), (1, .int (Int32.ofInt (n))), (2, .int (Int32.ofInt (x))), (3, .int (Int32.ofInt (v13))), (4, .int (Int32.ofInt (y29_4))), (5, .int (Int32.ofInt (y29_5))), (6, .int (Int32.ofInt (y29_6)))], [], M_29) _
        exact jn111   
      · have h224 : ¬ (y29_6 ≥ 1500) := h224
        show w_W _ _ _ (37, [(0, .ref 39), (1, .int (Int32.ofInt (n))), (2, .int (Int32.ofInt (x))), (3, .int (Int32.ofInt (v13))), (4, .int (Int32.ofInt (y29_4))), (5, .int (Int32.ofInt (y29_5))), (6, .int (Int32.ofInt (y29_6)))], [], M_29) _
        refine w_adv (n := 2) (F' := (40, [(0, .ref 39), (1, .int (Int32.ofInt (n))), (2, .int (Int32.ofInt (x))), (3, .int (Int32.ofInt (v13))), (4, .int (Int32.ofInt (y29_4))), (5, .int (Int32.ofInt (y29_5))), (6, .int (Int32.ofInt (y29_6)))], [.int (Int32.ofInt ((-1))), .int (Int32.ofInt (y29_5))], M_29)) rfl ?_
        refine w_br2 (a := y29_5) (b := (-1)) rfl rfl ⟨by omega, by omega⟩ ⟨by omega, by omega⟩ (fun h225 => ?_) (fun h225 => ?_)
        · have h225 : y29_5 = (-1) := h225
          show w_W _ _ _ (111, [(0, .ref 39), (1, .int (Int32.ofInt (n))), (2, .int (Int32.ofInt (x))), (3, .int (Int32.ofInt (v13))), (4, .int (Int32.ofInt (y29_4))), (5, .int (Int32.ofInt (y29_5))), (6, .int (Int32.ofInt (y29_6)))], [], M_29) _
          exact jn111   
        · have h225 : ¬ (y29_5 = (-1)) := h225
          show w_W _ _ _ (43, [(0, .ref 39), (1, .int (Int32.ofInt (n))), (2, .int (Int32.ofInt (x))), (3, .int (Int32.ofInt (v13))), (4, .int (Int32.ofInt (y29_4))), (5, .int (Int32.ofInt (y29_5))), (6, .int (Int32.ofInt (y29_6)))], [], M_29) _
          obtain ⟨cr, cg1, cg2, cg3, cg4, cg5⟩ := c_Ch_ne hi29_2 (by omega)
          obtain ⟨cg16, cgb⟩ := cg4
          skip
          refine w_adv (n := 2) (F' := (45, [(0, .ref 39), (1, .int (Int32.ofInt (n))), (2, .int (Int32.ofInt (x))), (3, .int (Int32.ofInt (v13))), (4, .int (Int32.ofInt (y29_4))), (5, .int (Int32.ofInt (y29_5))), (6, .int (Int32.ofInt (y29_6)))], [.ref 39, .ref 39], M_29)) rfl ?_
          refine w_gf (v := .ref 26) hR_29 rfl rfl rfl rfl ?_
          refine w_adv (n := 1) (F' := (50, [(0, .ref 39), (1, .int (Int32.ofInt (n))), (2, .int (Int32.ofInt (x))), (3, .int (Int32.ofInt (v13))), (4, .int (Int32.ofInt (y29_4))), (5, .int (Int32.ofInt (y29_5))), (6, .int (Int32.ofInt (y29_6)))], [.int (Int32.ofInt (y29_5)), .ref 26, .ref 39], M_29)) rfl ?_
          refine w_call (cm := 145) (as := [(0, .ref 26), (1, .int (Int32.ofInt (y29_5)))]) (rest := [.ref 39]) (o := some (8, 26)) rfl (w_fitR hR_29 rfl) (c_Ta (y29_5) hR_29 (show 1 ≤ d by omega) ⟨by omega, by omega⟩) (fun r226 M227 q228 => ?_)
          rcases q228 with ⟨v229, e230, ⟨r231, r232⟩, e233, f234⟩
          rw [e230, e233]
          replace f234 : c_rd (A_29 28) y29_5 v229 := f234
          show w_W _ _ _ (53, [(0, .ref 39), (1, .int (Int32.ofInt (n))), (2, .int (Int32.ofInt (x))), (3, .int (Int32.ofInt (v13))), (4, .int (Int32.ofInt (y29_4))), (5, .int (Int32.ofInt (y29_5))), (6, .int (Int32.ofInt (y29_6)))], [.int (Int32.ofInt (v229)), .ref 39], M_29) _
          refine w_call (cm := 185) (as := [(0, .ref 39), (1, .int (Int32.ofInt (v229)))]) (rest := []) (o := some (1, 39)) rfl (w_fitR hR_29 rfl) (c_bearSlots (v229) hR_29 (show 5 ≤ d by omega) ⟨by omega, by omega⟩ (show 0 ≤ (I_29 1035) ∧ (I_29 1035) ≤ 10000 by (repeat' apply And.intro) <;> first | assumption | omega) (show 0 ≤ (I_29 2503) by omega)) (fun r235 M236 q237 => ?_)
          rcases q237 with ⟨I237a, A237a, B237a, C237a, e238, hR237a, f239, f240⟩
          rw [e238]
          replace hR237a : w_Rep w_TC fr X u l I237a A237a B237a C237a M236 := hR237a
          replace f239 : c_bz I_29 A_29 I237a A237a 0 0 (I_29 2503) := f239
          replace f240 : (I237a 2503) = (I_29 2503) ∧ (0 ≤ (I237a 1035) ∧ (I237a 1035) ≤ 10000) ∧ (I237a 200) = (I_29 200) ∧ (I237a 202) = (I_29 202) := f240
          obtain ⟨n241, ⟨n242, n243⟩, n244, n245⟩ := id f240
          clear f240
          have bx246 : c_bz I A I237a A237a p q (I 2503) := c_bz_trans (show c_bz I A I_29 A_29 p q (I 2503) from hi29_0) f239 (Int.le_refl _) (Int.le_refl _) (show p ≤ 0 ∨ 0 ≤ 0 by omega) (show 0 ≤ q ∨ 0 ≤ 0 by omega) (Int.le_refl _) (show (I 2503) ≤ (I_29 2503) by omega)
          have k247 : (A 30 n) = -1 ∨ c_Bd A237a (c_W A237a j) (A 30 n) s n := hi29_3.imp_right (fun g => c_Bd_agr g (c_bz_r f239 (show n ≤ 0 ∨ 0 ≤ s ∨ 0 ≤ 0 by omega)))
          clear hi29_3
          have k248 : c_Bd A237a (c_W A237a j) (A_29 29 y29_5) w_29 y29_5 := c_Bd_agr cgb (c_bz_r f239 (show y29_5 ≤ 0 ∨ 0 ≤ w_29 ∨ 0 ≤ 0 by omega))
          clear cgb
          have k249 : c_Ch (A237a 31) (c_P2 A237a j) (A_29 31 y29_5) cr s := c_Ch_agr c_P2_fam cg5 (c_bz_r f239 (show s ≤ 0 ∨ 0 ≤ cr ∨ 0 ≤ 0 by omega))
          clear cg5
          skip
          show w_W _ _ _ (56, [(0, .ref 39), (1, .int (Int32.ofInt (n))), (2, .int (Int32.ofInt (x))), (3, .int (Int32.ofInt (v13))), (4, .int (Int32.ofInt (y29_4))), (5, .int (Int32.ofInt (y29_5))), (6, .int (Int32.ofInt (y29_6)))], [], M236) _
          refine w_adv (n := 1) (F' := (57, [(0, .ref 39), (1, .int (Int32.ofInt (n))), (2, .int (Int32.ofInt (x))), (3, .int (Int32.ofInt (v13))), (4, .int (Int32.ofInt (y29_4))), (5, .int (Int32.ofInt (y29_5))), (6, .int (Int32.ofInt (y29_6)))], [.ref 39], M236)) rfl ?_
          refine w_gf (v := .ref 26) hR237a rfl rfl rfl rfl ?_
          refine w_adv (n := 3) (F' := (64, [(0, .ref 39), (1, .int (Int32.ofInt (n))), (2, .int (Int32.ofInt (x))), (3, .int (Int32.ofInt (v13))), (4, .int (Int32.ofInt (y29_4))), (5, .int (Int32.ofInt (y29_5))), (6, .int (Int32.ofInt (y29_6)))], [.ref 39, .ref 39, .int (Int32.ofInt (y29_5)), .ref 26], M236)) rfl ?_
          refine w_gf (v := .ref 26) hR237a rfl rfl rfl rfl ?_
          refine w_adv (n := 1) (F' := (69, [(0, .ref 39), (1, .int (Int32.ofInt (n))), (2, .int (Int32.ofInt (x))), (3, .int (Int32.ofInt (v13))), (4, .int (Int32.ofInt (y29_4))), (5, .int (Int32.ofInt (y29_5))), (6, .int (Int32.ofInt (y29_6)))], [.int (Int32.ofInt (y29_5)), .ref 26, .ref 39, .int (Int32.ofInt (y29_5)), .ref 26], M236)) rfl ?_
          refine w_call (cm := 152) (as := [(0, .ref 26), (1, .int (Int32.ofInt (y29_5)))]) (rest := [.ref 39, .int (Int32.ofInt (y29_5)), .ref 26]) (o := some (8, 26)) rfl (w_fitR hR237a rfl) (c_Tb (y29_5) hR237a (show 1 ≤ d by omega) ⟨by omega, by omega⟩) (fun r250 M251 q252 => ?_)
          rcases q252 with ⟨v253, e254, ⟨r255, r256⟩, e257, f258⟩
          rw [e254, e257]
          replace f258 : c_rd (A237a 29) y29_5 v253 := f258
          have ev253 : v253 = (A_29 29 y29_5) := by rw [c_rd_eq f258 (by omega) (by omega)]; exact (f239.2.2.1 y29_5 (by omega)).1
          show w_W _ _ _ (72, [(0, .ref 39), (1, .int (Int32.ofInt (n))), (2, .int (Int32.ofInt (x))), (3, .int (Int32.ofInt (v13))), (4, .int (Int32.ofInt (y29_4))), (5, .int (Int32.ofInt (y29_5))), (6, .int (Int32.ofInt (y29_6)))], [.int (Int32.ofInt (v253)), .ref 39, .int (Int32.ofInt (y29_5)), .ref 26], M236) _
          refine w_adv (n := 1) (F' := (73, [(0, .ref 39), (1, .int (Int32.ofInt (n))), (2, .int (Int32.ofInt (x))), (3, .int (Int32.ofInt (v13))), (4, .int (Int32.ofInt (y29_4))), (5, .int (Int32.ofInt (y29_5))), (6, .int (Int32.ofInt (y29_6)))], [.int (Int32.ofInt (x)), .int (Int32.ofInt (v253)), .ref 39, .int (Int32.ofInt (y29_5)), .ref 26], M236)) rfl ?_
          refine w_call (cm := 144) (as := [(0, .ref 39), (1, .int (Int32.ofInt (v253))), (2, .int (Int32.ofInt (x)))]) (rest := [.int (Int32.ofInt (y29_5)), .ref 26]) (o := some (1, 39)) rfl (w_fitR hR237a rfl) ((hB0 d (Nat.lt_succ_self d)).2 (v253) (x) (j) (w_29) (y29_5) hR237a (show 8 * j + 7 ≤ d by omega) ⟨by omega, by omega⟩ ⟨by omega, by omega⟩ (show 0 ≤ (I237a 1035) ∧ (I237a 1035) ≤ 10000 by (repeat' apply And.intro) <;> first | assumption | omega) (show c_ks A237a by exact (show c_bz I A I237a A237a p q (I 2503) from bx246).2.2.2.2 hKS) (show 36 ≤ (I237a 200) ∧ (I237a 200) ≤ 419 ∧ 0 ≤ (I237a 202) ∧ (I237a 202) ≤ 24 by (repeat' apply And.intro) <;> first | assumption | omega) (show ∀ i, (A237a 5) i ≤ 24 by rw [show (A237a 5) = (A 5) from (show c_bz I A I237a A237a p q (I 2503) from bx246).2.1 5 rfl]; exact hLN) (show 0 ≤ (I237a 2503) by omega) (show (I237a 2503) + 7000 * (j : Int) ≤ 1000000 by first | assumption | omega) (show c_Bd A237a (c_W A237a j) v253 w_29 y29_5 by rw [ev253]; exact k248) (show 0 ≤ w_29 ∧ y29_5 ≤ 3002 by first | assumption | omega)) (fun r259 M260 q261 => ?_)
          rcases q261 with ⟨v262, I261a, A261a, B261a, C261a, e263, ⟨r264, r265⟩, hR261a, f266, f267⟩
          rw [e263]
          replace hR261a : w_Rep w_TC fr X u l I261a A261a B261a C261a M260 := hR261a
          replace f266 : c_bz I237a A237a I261a A261a w_29 y29_5 (I237a 2503) := f266
          replace f267 : (I261a 2503) = (I237a 2503) ∧ (0 ≤ (I261a 1035) ∧ (I261a 1035) ≤ 10000) ∧ (I261a 200) = (I237a 200) ∧ (I261a 202) = (I237a 202) := f267
          obtain ⟨n268, ⟨n269, n270⟩, n271, n272⟩ := id f267
          clear f267
          have bx273 : c_bz I A I261a A261a p q (I 2503) := c_bz_trans (show c_bz I A I237a A237a p q (I 2503) from bx246) f266 (Int.le_refl _) (Int.le_refl _) (show p ≤ w_29 ∨ y29_5 ≤ w_29 by omega) (show y29_5 ≤ q ∨ y29_5 ≤ w_29 by omega) (Int.le_refl _) (show (I 2503) ≤ (I237a 2503) by omega)
          have k274 : (A 30 n) = -1 ∨ c_Bd A261a (c_W A261a j) (A 30 n) s n := k247.imp_right (fun g => c_Bd_agr g (c_bz_r f266 (show n ≤ w_29 ∨ y29_5 ≤ s ∨ y29_5 ≤ w_29 by omega)))
          clear k247
          have k275 : c_Ch (A261a 31) (c_P2 A261a j) (A_29 31 y29_5) cr s := c_Ch_agr c_P2_fam k249 (c_bz_r f266 (show s ≤ w_29 ∨ y29_5 ≤ cr ∨ y29_5 ≤ w_29 by omega))
          clear k249
          show w_W _ _ _ (76, [(0, .ref 39), (1, .int (Int32.ofInt (n))), (2, .int (Int32.ofInt (x))), (3, .int (Int32.ofInt (v13))), (4, .int (Int32.ofInt (y29_4))), (5, .int (Int32.ofInt (y29_5))), (6, .int (Int32.ofInt (y29_6)))], [.int (Int32.ofInt (v262)), .int (Int32.ofInt (y29_5)), .ref 26], M260) _
          refine w_call (cm := 115) (as := [(0, .ref 26), (1, .int (Int32.ofInt (y29_5))), (2, .int (Int32.ofInt (v262)))]) (rest := []) (o := some (8, 26)) rfl (w_fitR hR261a rfl) (cb_setB (y29_5) (v262) (y29_5) ((y29_5 + 1)) hR261a (show 2 ≤ d by omega) ⟨by omega, by omega⟩ ⟨by omega, by omega⟩ (show 0 ≤ (I261a 1035) ∧ (I261a 1035) ≤ 10000 by (repeat' apply And.intro) <;> first | assumption | omega) (show 0 ≤ (I261a 2503) by omega) (show A261a 27 y29_5 = 16 by exact (congrFun ((c_bz_ke (show c_bz I A I261a A261a p q (I 2503) from bx273)).1.trans (c_bz_ke (show c_bz I A I_29 A_29 p q (I 2503) from hi29_0)).1.symm) _).trans cg16) (show y29_5 ≤ y29_5 ∧ y29_5 < (y29_5 + 1) by omega)) (fun r276 M277 q278 => ?_)
          rcases q278 with ⟨I278a, A278a, B278a, C278a, e279, hR278a, f280, f281⟩
          rw [e279]
          replace hR278a : w_Rep w_TC fr X u l I278a A278a B278a C278a M277 := hR278a
          replace f280 : c_bz I261a A261a I278a A278a y29_5 (y29_5 + 1) (I261a 2503) := f280
          replace f281 : (I278a 2503) = (I261a 2503) ∧ (0 ≤ (I278a 1035) ∧ (I278a 1035) ≤ 10000) ∧ (I278a 200) = (I261a 200) ∧ (I278a 202) = (I261a 202) := f281
          obtain ⟨n282, ⟨n283, n284⟩, n285, n286⟩ := id f281
          clear f281
          have bx287 : c_bz I A I278a A278a p q (I 2503) := c_bz_trans (show c_bz I A I261a A261a p q (I 2503) from bx273) f280 (Int.le_refl _) (Int.le_refl _) (show p ≤ y29_5 ∨ (y29_5 + 1) ≤ y29_5 by omega) (show (y29_5 + 1) ≤ q ∨ (y29_5 + 1) ≤ y29_5 by omega) (Int.le_refl _) (show (I 2503) ≤ (I261a 2503) by omega)
          have k288 : (A 30 n) = -1 ∨ c_Bd A278a (c_W A278a j) (A 30 n) s n := k274.imp_right (fun g => c_Bd_agr g (c_bz_r f280 (show n ≤ y29_5 ∨ (y29_5 + 1) ≤ s ∨ (y29_5 + 1) ≤ y29_5 by omega)))
          clear k274
          have k289 : c_Ch (A278a 31) (c_P2 A278a j) (A_29 31 y29_5) cr s := c_Ch_agr c_P2_fam k275 (c_bz_r f280 (show s ≤ y29_5 ∨ (y29_5 + 1) ≤ cr ∨ (y29_5 + 1) ≤ y29_5 by omega))
          clear k275
          show w_W _ _ _ (79, [(0, .ref 39), (1, .int (Int32.ofInt (n))), (2, .int (Int32.ofInt (x))), (3, .int (Int32.ofInt (v13))), (4, .int (Int32.ofInt (y29_4))), (5, .int (Int32.ofInt (y29_5))), (6, .int (Int32.ofInt (y29_6)))], [], M277) _
          refine w_adv (n := 1) (F' := (80, [(0, .ref 39), (1, .int (Int32.ofInt (n))), (2, .int (Int32.ofInt (x))), (3, .int (Int32.ofInt (v13))), (4, .int (Int32.ofInt (y29_4))), (5, .int (Int32.ofInt (y29_5))), (6, .int (Int32.ofInt (y29_6)))], [.ref 39], M277)) rfl ?_
          refine w_gf (v := .ref 26) hR278a rfl rfl rfl rfl ?_
          refine w_adv (n := 2) (F' := (87, [(0, .ref 39), (1, .int (Int32.ofInt (n))), (2, .int (Int32.ofInt (x))), (3, .int (Int32.ofInt (v13))), (4, .int (Int32.ofInt (y29_4))), (5, .int (Int32.ofInt (y29_5))), (6, .int (Int32.ofInt (y29_6)))], [.int (Int32.ofInt (y29_4)), .int (Int32.ofInt (y29_5)), .ref 26], M277)) rfl ?_
          refine w_call (cm := 186) (as := [(0, .ref 26), (1, .int (Int32.ofInt (y29_5))), (2, .int (Int32.ofInt (y29_4)))]) (rest := []) (o := some (8, 26)) rfl (w_fitR hR278a rfl) (cb_setC (y29_5) (y29_4) (y29_5) ((y29_5 + 1)) hR278a (show 2 ≤ d by omega) ⟨by omega, by omega⟩ ⟨by omega, by omega⟩ (show 0 ≤ (I278a 1035) ∧ (I278a 1035) ≤ 10000 by (repeat' apply And.intro) <;> first | assumption | omega) (show 0 ≤ (I278a 2503) by omega) (show A278a 27 y29_5 = 16 by exact (congrFun ((c_bz_ke (show c_bz I A I278a A278a p q (I 2503) from bx287)).1.trans (c_bz_ke (show c_bz I A I_29 A_29 p q (I 2503) from hi29_0)).1.symm) _).trans cg16) (show y29_5 ≤ y29_5 ∧ y29_5 < (y29_5 + 1) by omega)) (fun r290 M291 q292 => ?_)
          rcases q292 with ⟨I292a, A292a, B292a, C292a, e293, hR292a, f294, f295⟩
          rw [e293]
          replace hR292a : w_Rep w_TC fr X u l I292a A292a B292a C292a M291 := hR292a
          replace f294 : c_bz I278a A278a I292a A292a y29_5 (y29_5 + 1) (I278a 2503) := f294
          replace f295 : (I292a 2503) = (I278a 2503) ∧ (0 ≤ (I292a 1035) ∧ (I292a 1035) ≤ 10000) ∧ (I292a 200) = (I278a 200) ∧ (I292a 202) = (I278a 202) := f295
          obtain ⟨n296, ⟨n297, n298⟩, n299, n300⟩ := id f295
          clear f295
          have bx301 : c_bz I A I292a A292a p q (I 2503) := c_bz_trans (show c_bz I A I278a A278a p q (I 2503) from bx287) f294 (Int.le_refl _) (Int.le_refl _) (show p ≤ y29_5 ∨ (y29_5 + 1) ≤ y29_5 by omega) (show (y29_5 + 1) ≤ q ∨ (y29_5 + 1) ≤ y29_5 by omega) (Int.le_refl _) (show (I 2503) ≤ (I278a 2503) by omega)
          have k302 : (A 30 n) = -1 ∨ c_Bd A292a (c_W A292a j) (A 30 n) s n := k288.imp_right (fun g => c_Bd_agr g (c_bz_r f294 (show n ≤ y29_5 ∨ (y29_5 + 1) ≤ s ∨ (y29_5 + 1) ≤ y29_5 by omega)))
          clear k288
          have k303 : c_Ch (A292a 31) (c_P2 A292a j) (A_29 31 y29_5) cr s := c_Ch_agr c_P2_fam k289 (c_bz_r f294 (show s ≤ y29_5 ∨ (y29_5 + 1) ≤ cr ∨ (y29_5 + 1) ≤ y29_5 by omega))
          clear k289
          show w_W _ _ _ (90, [(0, .ref 39), (1, .int (Int32.ofInt (n))), (2, .int (Int32.ofInt (x))), (3, .int (Int32.ofInt (v13))), (4, .int (Int32.ofInt (y29_4))), (5, .int (Int32.ofInt (y29_5))), (6, .int (Int32.ofInt (y29_6)))], [], M291) _
          refine w_adv (n := 3) (F' := (95, [(4, .int (Int32.ofInt (y29_5))), (0, .ref 39), (1, .int (Int32.ofInt (n))), (2, .int (Int32.ofInt (x))), (3, .int (Int32.ofInt (v13))), (5, .int (Int32.ofInt (y29_5))), (6, .int (Int32.ofInt (y29_6)))], [.ref 39], M291)) rfl ?_
          refine w_gf (v := .ref 26) hR292a rfl rfl rfl rfl ?_
          refine w_adv (n := 1) (F' := (100, [(4, .int (Int32.ofInt (y29_5))), (0, .ref 39), (1, .int (Int32.ofInt (n))), (2, .int (Int32.ofInt (x))), (3, .int (Int32.ofInt (v13))), (5, .int (Int32.ofInt (y29_5))), (6, .int (Int32.ofInt (y29_6)))], [.int (Int32.ofInt (y29_5)), .ref 26], M291)) rfl ?_
          refine w_call (cm := 161) (as := [(0, .ref 26), (1, .int (Int32.ofInt (y29_5)))]) (rest := []) (o := some (8, 26)) rfl (w_fitR hR292a rfl) (c_Tnext (y29_5) hR292a (show 1 ≤ d by omega) ⟨by omega, by omega⟩) (fun r304 M305 q306 => ?_)
          rcases q306 with ⟨v307, e308, ⟨r309, r310⟩, e311, f312⟩
          rw [e308, e311]
          replace f312 : c_rd (A292a 31) y29_5 v307 := f312
          have ev307 : v307 = (A_29 31 y29_5) := (c_rd_eq f312 (by omega) (by omega)).trans (congrFun ((c_bz_ke (show c_bz I A I292a A292a p q (I 2503) from bx301)).2.2.trans (c_bz_ke (show c_bz I A I_29 A_29 p q (I 2503) from hi29_0)).2.2.symm) _)
          show w_W _ _ _ (103, [(4, .int (Int32.ofInt (y29_5))), (0, .ref 39), (1, .int (Int32.ofInt (n))), (2, .int (Int32.ofInt (x))), (3, .int (Int32.ofInt (v13))), (5, .int (Int32.ofInt (y29_5))), (6, .int (Int32.ofInt (y29_6)))], [.int (Int32.ofInt (v307))], M291) _
          refine w_adv (n := 1) (F' := (105, [(5, .int (Int32.ofInt (v307))), (4, .int (Int32.ofInt (y29_5))), (0, .ref 39), (1, .int (Int32.ofInt (n))), (2, .int (Int32.ofInt (x))), (3, .int (Int32.ofInt (v13))), (6, .int (Int32.ofInt (y29_6)))], [], M291)) rfl ?_
          refine w_inc (nL := 8) (a := y29_6) rfl rfl rfl (by decide) ?_
          refine w_adv (n := 1) (F' := (29, [(6, .int (Int32.ofInt (y29_6 + 1))), (5, .int (Int32.ofInt (v307))), (4, .int (Int32.ofInt (y29_5))), (0, .ref 39), (1, .int (Int32.ofInt (n))), (2, .int (Int32.ofInt (x))), (3, .int (Int32.ofInt (v13)))], [], M291)) rfl ?_
          refine w_ls (ls := [(0, .ref 39), (1, .int (Int32.ofInt (n))), (2, .int (Int32.ofInt (x))), (3, .int (Int32.ofInt (v13))), (4, .int (Int32.ofInt (y29_5))), (5, .int (Int32.ofInt (v307))), (6, .int (Int32.ofInt (y29_6 + 1)))]) (show List.Nodup [0, 1, 2, 3, 4, 5, 6] by decide) (show List.Nodup [6, 5, 4, 0, 1, 2, 3] by decide) (List.forall_mem_cons.mpr ⟨(List.Mem.tail _ (List.Mem.tail _ (List.Mem.tail _ (List.Mem.head _)))), (List.forall_mem_cons.mpr ⟨(List.Mem.tail _ (List.Mem.tail _ (List.Mem.tail _ (List.Mem.tail _ (List.Mem.head _))))), (List.forall_mem_cons.mpr ⟨(List.Mem.tail _ (List.Mem.tail _ (List.Mem.tail _ (List.Mem.tail _ (List.Mem.tail _ (List.Mem.head _)))))), (List.forall_mem_cons.mpr ⟨(List.Mem.tail _ (List.Mem.tail _ (List.Mem.tail _ (List.Mem.tail _ (List.Mem.tail _ (List.Mem.tail _ (List.Mem.head _))))))), (List.forall_mem_cons.mpr ⟨(List.Mem.tail _ (List.Mem.tail _ (List.Mem.head _))), (List.forall_mem_cons.mpr ⟨(List.Mem.tail _ (List.Mem.head _)), (List.forall_mem_cons.mpr ⟨(List.Mem.head _), (fun _ h => by cases h)⟩)⟩)⟩)⟩)⟩)⟩)⟩) ?_
          exact ih29 (cr) (y29_5) (v307) (y29_6 + 1) I292a A292a B292a C292a M291 hR292a ⟨by omega, by omega⟩ ⟨by omega, by omega⟩ ⟨by omega, by omega⟩ (show c_bz I A I292a A292a p q (I 2503) by exact bx301) (show (I292a 2503) = (I 2503) ∧ (0 ≤ (I292a 1035) ∧ (I292a 1035) ≤ 10000) ∧ (I292a 200) = (I 200) ∧ (I292a 202) = (I 202) by (repeat' apply And.intro) <;> first | assumption | omega) (show c_Ch (A292a 31) (c_P2 A292a j) v307 cr s by rw [ev307]; exact k303) (show (A 30 n) = -1 ∨ c_Bd A292a (c_W A292a j) (A 30 n) s n by exact k302) (show p ≤ cr by omega) (show 0 ≤ (y29_6 + 1) ∧ (y29_6 + 1) ≤ 1500 by omega) (show 1500 - (y29_6 + 1) < (fu29 : Int) by omega)
  refine w_ls (ls := [(0, .ref 39), (1, .int (Int32.ofInt (n))), (2, .int (Int32.ofInt (x))), (3, .int (Int32.ofInt (v13))), (4, .int (Int32.ofInt ((-1)))), (5, .int (Int32.ofInt (v30))), (6, .int (Int32.ofInt (0)))]) (show List.Nodup [0, 1, 2, 3, 4, 5, 6] by decide) (show List.Nodup [6, 5, 4, 3, 0, 1, 2] by decide) (List.forall_mem_cons.mpr ⟨(List.Mem.tail _ (List.Mem.tail _ (List.Mem.tail _ (List.Mem.tail _ (List.Mem.head _))))), (List.forall_mem_cons.mpr ⟨(List.Mem.tail _ (List.Mem.tail _ (List.Mem.tail _ (List.Mem.tail _ (List.Mem.tail _ (List.Mem.head _)))))), (List.forall_mem_cons.mpr ⟨(List.Mem.tail _ (List.Mem.tail _ (List.Mem.tail _ (List.Mem.tail _ (List.Mem.tail _ (List.Mem.tail _ (List.Mem.head _))))))), (List.forall_mem_cons.mpr ⟨(List.Mem.tail _ (List.Mem.tail _ (List.Mem.tail _ (List.Mem.head _)))), (List.forall_mem_cons.mpr ⟨(List.Mem.tail _ (List.Mem.tail _ (List.Mem.head _))), (List.forall_mem_cons.mpr ⟨(List.Mem.tail _ (List.Mem.head _)), (List.forall_mem_cons.mpr ⟨(List.Mem.head _), (fun _ h => by cases h)⟩)⟩)⟩)⟩)⟩)⟩)⟩) ?_
  exact lp29 ((1500 - 0 : Int).toNat + 1) (r) ((-1)) (v30) (0) I12a A12a B12a C12a M11 hR12a ⟨by omega, by omega⟩ ⟨by omega, by omega⟩ ⟨by omega, by omega⟩ (show c_bz I A I12a A12a p q (I 2503) by exact bx24) (show (I12a 2503) = (I 2503) ∧ (0 ≤ (I12a 1035) ∧ (I12a 1035) ≤ 10000) ∧ (I12a 200) = (I 200) ∧ (I12a 202) = (I 202) by (repeat' apply And.intro) <;> first | assumption | omega) (show c_Ch (A12a 31) (c_P2 A12a j) v30 r s by rw [ev30]; exact k25) (show (A 30 n) = -1 ∨ c_Bd A12a (c_W A12a j) (A 30 n) s n by exact k26) (show p ≤ r by omega) (show 0 ≤ (0 : Int) ∧ (0 : Int) ≤ 1500 by omega) (show 1500 - 0 < (((1500 - 0 : Int).toNat + 1 : Nat) : Int) by omega)
