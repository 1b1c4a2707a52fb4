/-! BUILDER of the class: items. -/
def c_plainItem_Q (fr : Nat → Bool) (X : Nat → Option (q_C (Nat → Int32))) (u l : Nat) (I : Nat → Int) (A : Nat → Int → Int) (B C : Nat → Nat) (M : w_M) (n : Int) (i : Nat) (p q : Int) : w_X → w_M → Prop := fun r M' => (∃ (I' : Nat → Int) (A' : Nat → Int → Int) (B' C' : Nat → Nat), (r = .inl none) ∧ (w_Rep w_TC fr X u l I' A' B' C' M') ∧ (c_bz I A I' A' p q (I 2503)) ∧ ((I' 2503) = (I 2503) ∧ (0 ≤ (I' 1035) ∧ (I' 1035) ≤ 10000) ∧ (I' 200) = (I 200) ∧ (I' 202) = (I 202)))
set_option maxHeartbeats 100000000 in
set_option maxRecDepth 100000 in
theorem c_plainItem {L : Nat} {xs : Nat → Int32} {d : Nat} {fr : Nat → Bool} {X : Nat → Option (q_C (Nat → Int32))} {u l : Nat} {I : Nat → Int} {A : Nat → Int → Int} {B C : Nat → Nat} {M : w_M} (hB0 : c_BALL L xs d) (n : Int) (i : Nat) (p q : Int) (hR : w_Rep w_TC fr X u l I A B C M) (hd : 8 * i + 5 ≤ d) (r_n : w_in n) (hKI : 0 ≤ (I 1035) ∧ (I 1035) ≤ 10000) (hKS : c_ks A) (hNM : 36 ≤ (I 200) ∧ (I 200) ≤ 419 ∧ 0 ≤ (I 202) ∧ (I 202) ≤ 24) (hLN : ∀ i, (A 5) i ≤ 24) (hW0 : 0 ≤ (I 2503)) (hWB : (I 2503) + 7000 * (i : Int) ≤ 1000000) (hW : c_W A i n p q) (hpq : 0 ≤ p ∧ q ≤ 3001) : w_W (z_P L xs) d 147 (0, [(0, .ref 39), (1, .int (Int32.ofInt (n)))], [], M) (c_plainItem_Q fr X u l I A B C M n i p q) := by
  obtain ⟨ra_n, rb_n⟩ := r_n
  obtain ⟨d, rfl⟩ : ∃ d0, d = d0 + 1 := ⟨d - 1, by omega⟩
  obtain ⟨nb1, nb2⟩ := c_W_in hW
  obtain ⟨j, hj⟩ := c_W_succ hW
  have hW1 : c_W A (j + 1) n p q := by rw [← hj]; exact hW
  refine w_adv (n := 1) (F' := (1, [(0, .ref 39), (1, .int (Int32.ofInt (n)))], [.ref 39], M)) rfl ?_
  refine w_gf (v := .ref 26) hR rfl rfl rfl rfl ?_
  refine w_adv (n := 1) (F' := (5, [(0, .ref 39), (1, .int (Int32.ofInt (n)))], [.int (Int32.ofInt (n)), .ref 26], M)) rfl ?_
  refine w_call (cm := 145) (as := [(0, .ref 26), (1, .int (Int32.ofInt (n)))]) (rest := []) (o := some (8, 26)) rfl (w_fitR hR rfl) (c_Ta (n) hR (show 1 ≤ d by omega) ⟨by omega, by omega⟩) (fun r1 M2 q3 => ?_)
  rcases q3 with ⟨v4, e5, ⟨r6, r7⟩, e8, f9⟩
  rw [e5, e8]
  replace f9 : c_rd (A 28) n v4 := f9
  have ev4 : v4 = (A 28 n) := (c_rd_eq f9 (by omega) (by omega)).trans (congrFun (c_bz_ke (show c_bz I A I A p q (I 2503) from c_bz_refl)).2.1 _)
  show w_W _ _ _ (8, [(0, .ref 39), (1, .int (Int32.ofInt (n)))], [.int (Int32.ofInt (v4))], M) _
  refine w_adv (n := 2) (F' := (10, [(2, .int (Int32.ofInt (v4))), (0, .ref 39), (1, .int (Int32.ofInt (n)))], [.ref 39], M)) rfl ?_
  refine w_gf (v := .ref 26) hR rfl rfl rfl rfl ?_
  refine w_adv (n := 1) (F' := (14, [(2, .int (Int32.ofInt (v4))), (0, .ref 39), (1, .int (Int32.ofInt (n)))], [.int (Int32.ofInt (n)), .ref 26], M)) rfl ?_
  refine w_call (cm := 135) (as := [(0, .ref 26), (1, .int (Int32.ofInt (n)))]) (rest := []) (o := some (8, 26)) rfl (w_fitR hR rfl) (c_Tkind (n) hR (show 1 ≤ d by omega) ⟨by omega, by omega⟩) (fun r10 M11 q12 => ?_)
  rcases q12 with ⟨v13, e14, ⟨r15, r16⟩, e17, f18⟩
  rw [e14, e17]
  replace f18 : c_rd (A 27) n v13 := f18
  have ev13 : v13 = (A 27 n) := (c_rd_eq f18 (by omega) (by omega)).trans (congrFun (c_bz_ke (show c_bz I A I A p q (I 2503) from c_bz_refl)).1 _)
  show w_W _ _ _ (17, [(2, .int (Int32.ofInt (v4))), (0, .ref 39), (1, .int (Int32.ofInt (n)))], [.int (Int32.ofInt (v13))], M) _
  rcases (show (v13 < 20 ∨ 24 < v13) ∨ v13 = 20 ∨ v13 = 21 ∨ v13 = 22 ∨ v13 = 23 ∨ v13 = 24 by omega) with h19 | h19 | h19 | h19 | h19 | h19
  · refine w_swd rfl ⟨by omega, by omega⟩ h19 rfl ?_
    show w_W _ _ _ (119, [(2, .int (Int32.ofInt (v4))), (0, .ref 39), (1, .int (Int32.ofInt (n)))], [], M) _
    refine w_adv (n := 3) (F' := (122, [(2, .int (Int32.ofInt (v4))), (0, .ref 39), (1, .int (Int32.ofInt (n)))], [.int (Int32.ofInt ((-1))), .int (Int32.ofInt (n)), .ref 39], M)) rfl ?_
    refine w_call (cm := 156) (as := [(0, .ref 39), (1, .int (Int32.ofInt (n))), (2, .int (Int32.ofInt ((-1))))]) (rest := []) (o := some (1, 39)) rfl (w_fitR hR rfl) ((hB0 d (Nat.lt_succ_self d)).1 (n) ((-1)) (i) (p) (q) hR (show 8 * i + 4 ≤ d by omega) ⟨by omega, by omega⟩ ⟨by omega, by omega⟩ (show 0 ≤ (I 1035) ∧ (I 1035) ≤ 10000 by (repeat' apply And.intro) <;> first | assumption | omega) (show c_ks A by exact (show c_bz I A I A p q (I 2503) from c_bz_refl).2.2.2.2 hKS) (show 36 ≤ (I 200) ∧ (I 200) ≤ 419 ∧ 0 ≤ (I 202) ∧ (I 202) ≤ 24 by (repeat' apply And.intro) <;> first | assumption | omega) (show ∀ i, (A 5) i ≤ 24 by rw [show (A 5) = (A 5) from (show c_bz I A I A p q (I 2503) from c_bz_refl).2.1 5 rfl]; exact hLN) (show 0 ≤ (I 2503) by omega) (show (I 2503) + 7000 * (i : Int) ≤ 1000000 by first | assumption | omega) (show c_W A i n p q by exact hW) (show 0 ≤ p ∧ q ≤ 3001 by first | assumption | omega)) (fun r20 M21 q22 => ?_)
    rcases q22 with ⟨I22a, A22a, B22a, C22a, e23, hR22a, f24, f25⟩
    rw [e23]
    replace hR22a : w_Rep w_TC fr X u l I22a A22a B22a C22a M21 := hR22a
    replace f24 : c_bz I A I22a A22a p q (I 2503) := f24
    replace f25 : (I22a 2503) = (I 2503) ∧ (0 ≤ (I22a 1035) ∧ (I22a 1035) ≤ 10000) ∧ (I22a 200) = (I 200) ∧ (I22a 202) = (I 202) := f25
    obtain ⟨n26, ⟨n27, n28⟩, n29, n30⟩ := id f25
    clear f25
    have bx31 : c_bz I A I22a A22a p q (I 2503) := c_bz_trans (show c_bz I A I A p q (I 2503) from c_bz_refl) f24 (Int.le_refl _) (Int.le_refl _) (show p ≤ p ∨ q ≤ p by omega) (show q ≤ q ∨ q ≤ p by omega) (Int.le_refl _) (show (I 2503) ≤ (I 2503) by omega)
    show w_W _ _ _ (125, [(2, .int (Int32.ofInt (v4))), (0, .ref 39), (1, .int (Int32.ofInt (n)))], [], M21) _
    refine w_fin (r := .inl none) (M' := M21) rfl ?_
    exact ⟨I22a, A22a, B22a, C22a, rfl, hR22a, (show c_bz I A I22a A22a p q (I 2503) by exact bx31), (show (I22a 2503) = (I 2503) ∧ (0 ≤ (I22a 1035) ∧ (I22a 1035) ≤ 10000) ∧ (I22a 200) = (I 200) ∧ (I22a 202) = (I 202) by (repeat' apply And.intro) <;> first | assumption | omega)⟩
  · refine w_sw (v := 20) (F' := (111, [(2, .int (Int32.ofInt (v4))), (0, .ref 39), (1, .int (Int32.ofInt (n)))], [], M)) h19 rfl rfl ?_
    refine w_adv (n := 2) (F' := (113, [(2, .int (Int32.ofInt (v4))), (0, .ref 39), (1, .int (Int32.ofInt (n)))], [.int (Int32.ofInt (n)), .ref 39], M)) rfl ?_
    refine w_call (cm := 189) (as := [(0, .ref 39), (1, .int (Int32.ofInt (n)))]) (rest := []) (o := some (1, 39)) rfl (w_fitR hR rfl) (cb_attempt (c_BALL_dn hB0) (n) (i) (p) (q) hR (show 8 * i + 4 ≤ d by omega) ⟨by omega, by omega⟩ (show 0 ≤ (I 1035) ∧ (I 1035) ≤ 10000 by (repeat' apply And.intro) <;> first | assumption | omega) (show c_ks A by exact (show c_bz I A I A p q (I 2503) from c_bz_refl).2.2.2.2 hKS) (show 36 ≤ (I 200) ∧ (I 200) ≤ 419 ∧ 0 ≤ (I 202) ∧ (I 202) ≤ 24 by (repeat' apply And.intro) <;> first | assumption | omega) (show ∀ i, (A 5) i ≤ 24 by rw [show (A 5) = (A 5) from (show c_bz I A I A p q (I 2503) from c_bz_refl).2.1 5 rfl]; exact hLN) (show 0 ≤ (I 2503) by omega) (show (I 2503) + 7000 * (i : Int) ≤ 1000000 by first | assumption | omega) (show c_W A i n p q by exact hW) (show (A 27) n = 20 by omega) (show 0 ≤ p ∧ q ≤ 3001 by first | assumption | omega)) (fun r32 M33 q34 => ?_)
    rcases q34 with ⟨I34a, A34a, B34a, C34a, e35, hR34a, f36, f37⟩
    rw [e35]
    replace hR34a : w_Rep w_TC fr X u l I34a A34a B34a C34a M33 := hR34a
    replace f36 : c_bz I A I34a A34a p q (I 2503) := f36
    replace f37 : (I34a 2503) = (I 2503) ∧ (0 ≤ (I34a 1035) ∧ (I34a 1035) ≤ 10000) ∧ (I34a 200) = (I 200) ∧ (I34a 202) = (I 202) := f37
    obtain ⟨n38, ⟨n39, n40⟩, n41, n42⟩ := id f37
    clear f37
    have bx43 : c_bz I A I34a A34a p q (I 2503) := c_bz_trans (show c_bz I A I A p q (I 2503) from c_bz_refl) f36 (Int.le_refl _) (Int.le_refl _) (show p ≤ p ∨ q ≤ p by omega) (show q ≤ q ∨ q ≤ p by omega) (Int.le_refl _) (show (I 2503) ≤ (I 2503) by omega)
    show w_W _ _ _ (116, [(2, .int (Int32.ofInt (v4))), (0, .ref 39), (1, .int (Int32.ofInt (n)))], [], M33) _
    refine w_adv (n := 1) (F' := (125, [(2, .int (Int32.ofInt (v4))), (0, .ref 39), (1, .int (Int32.ofInt (n)))], [], M33)) rfl ?_
    refine w_fin (r := .inl none) (M' := M33) rfl ?_
    exact ⟨I34a, A34a, B34a, C34a, rfl, hR34a, (show c_bz I A I34a A34a p q (I 2503) by exact bx43), (show (I34a 2503) = (I 2503) ∧ (0 ≤ (I34a 1035) ∧ (I34a 1035) ≤ 10000) ∧ (I34a 200) = (I 200) ∧ (I34a 202) = (I 202) by (repeat' apply And.intro) <;> first | assumption | omega)⟩
  · refine w_sw (v := 21) (F' := (79, [(2, .int (Int32.ofInt (v4))), (0, .ref 39), (1, .int (Int32.ofInt (n)))], [], M)) h19 rfl rfl ?_
    have cu : c_W A j (A 28 n) p n := hW1.2.2.k21 (by omega)
    refine w_adv (n := 4) (F' := (84, [(2, .int (Int32.ofInt (v4))), (0, .ref 39), (1, .int (Int32.ofInt (n)))], [.int (Int32.ofInt (v4)), .ref 39, .int (Int32.ofInt (16)), .ref 39], M)) rfl ?_
    refine w_call (cm := 177) (as := [(0, .ref 39), (1, .int (Int32.ofInt (v4)))]) (rest := [.int (Int32.ofInt (16)), .ref 39]) (o := some (1, 39)) rfl (w_fitR hR rfl) (c_asVariable (c_BALL_dn hB0) (v4) (j) (p) (n) hR (show 8 * j + 5 ≤ d by omega) ⟨by omega, by omega⟩ (show 0 ≤ (I 1035) ∧ (I 1035) ≤ 10000 by (repeat' apply And.intro) <;> first | assumption | omega) (show c_ks A by exact (show c_bz I A I A p q (I 2503) from c_bz_refl).2.2.2.2 hKS) (show 36 ≤ (I 200) ∧ (I 200) ≤ 419 ∧ 0 ≤ (I 202) ∧ (I 202) ≤ 24 by (repeat' apply And.intro) <;> first | assumption | omega) (show ∀ i, (A 5) i ≤ 24 by rw [show (A 5) = (A 5) from (show c_bz I A I A p q (I 2503) from c_bz_refl).2.1 5 rfl]; exact hLN) (show 0 ≤ (I 2503) by omega) (show (I 2503) + 7000 * (j : Int) ≤ 1000000 by first | assumption | omega) (show c_W A j v4 p n by rw [ev4]; exact cu) (show 0 ≤ p ∧ n ≤ 3001 by first | assumption | omega)) (fun r44 M45 q46 => ?_)
    rcases q46 with ⟨v47, I46a, A46a, B46a, C46a, e48, ⟨r49, r50⟩, hR46a, f51, f52⟩
    rw [e48]
    replace hR46a : w_Rep w_TC fr X u l I46a A46a B46a C46a M45 := hR46a
    replace f51 : c_bz I A I46a A46a p n (I 2503) := f51
    replace f52 : (I46a 2503) = (I 2503) ∧ (0 ≤ (I46a 1035) ∧ (I46a 1035) ≤ 10000) ∧ (I46a 200) = (I 200) ∧ (I46a 202) = (I 202) := f52
    obtain ⟨n53, ⟨n54, n55⟩, n56, n57⟩ := id f52
    clear f52
    have bx58 : c_bz I A I46a A46a p q (I 2503) := c_bz_trans (show c_bz I A I A p q (I 2503) from c_bz_refl) f51 (Int.le_refl _) (Int.le_refl _) (show p ≤ p ∨ n ≤ p by omega) (show n ≤ q ∨ n ≤ p by omega) (Int.le_refl _) (show (I 2503) ≤ (I 2503) by omega)
    show w_W _ _ _ (87, [(2, .int (Int32.ofInt (v4))), (0, .ref 39), (1, .int (Int32.ofInt (n)))], [.int (Int32.ofInt (v47)), .int (Int32.ofInt (16)), .ref 39], M45) _
    refine w_adv (n := 2) (F' := (89, [(2, .int (Int32.ofInt (v4))), (0, .ref 39), (1, .int (Int32.ofInt (n)))], [.int (Int32.ofInt ((-1))), .int (Int32.ofInt ((-1))), .int (Int32.ofInt (v47)), .int (Int32.ofInt (16)), .ref 39], M45)) rfl ?_
    refine w_call (cm := 148) (as := [(0, .ref 39), (1, .int (Int32.ofInt (16))), (2, .int (Int32.ofInt (v47))), (3, .int (Int32.ofInt ((-1)))), (4, .int (Int32.ofInt ((-1))))]) (rest := []) (o := some (1, 39)) rfl (w_fitR hR46a rfl) (c_emit (16) (v47) ((-1)) ((-1)) hR46a (show 4 ≤ d by omega) ⟨by omega, by omega⟩ ⟨by omega, by omega⟩ ⟨by omega, by omega⟩ ⟨by omega, by omega⟩ (show 0 ≤ (I46a 1035) ∧ (I46a 1035) ≤ 10000 by (repeat' apply And.intro) <;> first | assumption | omega) (show 0 ≤ (I46a 2503) by omega)) (fun r59 M60 q61 => ?_)
    rcases q61 with ⟨I61a, A61a, B61a, C61a, e62, hR61a, f63, f64⟩
    rw [e62]
    replace hR61a : w_Rep w_TC fr X u l I61a A61a B61a C61a M60 := hR61a
    replace f63 : c_bz I46a A46a I61a A61a 0 0 (I46a 2503) := f63
    replace f64 : (I61a 2503) = (I46a 2503) ∧ (0 ≤ (I61a 1035) ∧ (I61a 1035) ≤ 10000) ∧ (I61a 200) = (I46a 200) ∧ (I61a 202) = (I46a 202) := f64
    obtain ⟨n65, ⟨n66, n67⟩, n68, n69⟩ := id f64
    clear f64
    have bx70 : c_bz I A I61a A61a p q (I 2503) := c_bz_trans (show c_bz I A I46a A46a p q (I 2503) from bx58) f63 (Int.le_refl _) (Int.le_refl _) (show p ≤ 0 ∨ 0 ≤ 0 by omega) (show 0 ≤ q ∨ 0 ≤ 0 by omega) (Int.le_refl _) (show (I 2503) ≤ (I46a 2503) by omega)
    show w_W _ _ _ (92, [(2, .int (Int32.ofInt (v4))), (0, .ref 39), (1, .int (Int32.ofInt (n)))], [], M60) _
    refine w_adv (n := 1) (F' := (125, [(2, .int (Int32.ofInt (v4))), (0, .ref 39), (1, .int (Int32.ofInt (n)))], [], M60)) rfl ?_
    refine w_fin (r := .inl none) (M' := M60) rfl ?_
    exact ⟨I61a, A61a, B61a, C61a, rfl, hR61a, (show c_bz I A I61a A61a p q (I 2503) by exact bx70), (show (I61a 2503) = (I 2503) ∧ (0 ≤ (I61a 1035) ∧ (I61a 1035) ≤ 10000) ∧ (I61a 200) = (I 200) ∧ (I61a 202) = (I 202) by (repeat' apply And.intro) <;> first | assumption | omega)⟩
  · refine w_sw (v := 22) (F' := (95, [(2, .int (Int32.ofInt (v4))), (0, .ref 39), (1, .int (Int32.ofInt (n)))], [], M)) h19 rfl rfl ?_
    have cu : c_W A j (A 28 n) p n := hW1.2.2.k21 (by omega)
    refine w_adv (n := 4) (F' := (100, [(2, .int (Int32.ofInt (v4))), (0, .ref 39), (1, .int (Int32.ofInt (n)))], [.int (Int32.ofInt (v4)), .ref 39, .int (Int32.ofInt (17)), .ref 39], M)) rfl ?_
    refine w_call (cm := 177) (as := [(0, .ref 39), (1, .int (Int32.ofInt (v4)))]) (rest := [.int (Int32.ofInt (17)), .ref 39]) (o := some (1, 39)) rfl (w_fitR hR rfl) (c_asVariable (c_BALL_dn hB0) (v4) (j) (p) (n) hR (show 8 * j + 5 ≤ d by omega) ⟨by omega, by omega⟩ (show 0 ≤ (I 1035) ∧ (I 1035) ≤ 10000 by (repeat' apply And.intro) <;> first | assumption | omega) (show c_ks A by exact (show c_bz I A I A p q (I 2503) from c_bz_refl).2.2.2.2 hKS) (show 36 ≤ (I 200) ∧ (I 200) ≤ 419 ∧ 0 ≤ (I 202) ∧ (I 202) ≤ 24 by (repeat' apply And.intro) <;> first | assumption | omega) (show ∀ i, (A 5) i ≤ 24 by rw [show (A 5) = (A 5) from (show c_bz I A I A p q (I 2503) from c_bz_refl).2.1 5 rfl]; exact hLN) (show 0 ≤ (I 2503) by omega) (show (I 2503) + 7000 * (j : Int) ≤ 1000000 by first | assumption | omega) (show c_W A j v4 p n by rw [ev4]; exact cu) (show 0 ≤ p ∧ n ≤ 3001 by first | assumption | omega)) (fun r71 M72 q73 => ?_)
    rcases q73 with ⟨v74, I73a, A73a, B73a, C73a, e75, ⟨r76, r77⟩, hR73a, f78, f79⟩
    rw [e75]
    replace hR73a : w_Rep w_TC fr X u l I73a A73a B73a C73a M72 := hR73a
    replace f78 : c_bz I A I73a A73a p n (I 2503) := f78
    replace f79 : (I73a 2503) = (I 2503) ∧ (0 ≤ (I73a 1035) ∧ (I73a 1035) ≤ 10000) ∧ (I73a 200) = (I 200) ∧ (I73a 202) = (I 202) := f79
    obtain ⟨n80, ⟨n81, n82⟩, n83, n84⟩ := id f79
    clear f79
    have bx85 : c_bz I A I73a A73a p q (I 2503) := c_bz_trans (show c_bz I A I A p q (I 2503) from c_bz_refl) f78 (Int.le_refl _) (Int.le_refl _) (show p ≤ p ∨ n ≤ p by omega) (show n ≤ q ∨ n ≤ p by omega) (Int.le_refl _) (show (I 2503) ≤ (I 2503) by omega)
    show w_W _ _ _ (103, [(2, .int (Int32.ofInt (v4))), (0, .ref 39), (1, .int (Int32.ofInt (n)))], [.int (Int32.ofInt (v74)), .int (Int32.ofInt (17)), .ref 39], M72) _
    refine w_adv (n := 2) (F' := (105, [(2, .int (Int32.ofInt (v4))), (0, .ref 39), (1, .int (Int32.ofInt (n)))], [.int (Int32.ofInt ((-1))), .int (Int32.ofInt ((-1))), .int (Int32.ofInt (v74)), .int (Int32.ofInt (17)), .ref 39], M72)) rfl ?_
    refine w_call (cm := 148) (as := [(0, .ref 39), (1, .int (Int32.ofInt (17))), (2, .int (Int32.ofInt (v74))), (3, .int (Int32.ofInt ((-1)))), (4, .int (Int32.ofInt ((-1))))]) (rest := []) (o := some (1, 39)) rfl (w_fitR hR73a rfl) (c_emit (17) (v74) ((-1)) ((-1)) hR73a (show 4 ≤ d by omega) ⟨by omega, by omega⟩ ⟨by omega, by omega⟩ ⟨by omega, by omega⟩ ⟨by omega, by omega⟩ (show 0 ≤ (I73a 1035) ∧ (I73a 1035) ≤ 10000 by (repeat' apply And.intro) <;> first | assumption | omega) (show 0 ≤ (I73a 2503) by omega)) (fun r86 M87 q88 => ?_)
    rcases q88 with ⟨I88a, A88a, B88a, C88a, e89, hR88a, f90, f91⟩
    rw [e89]
    replace hR88a : w_Rep w_TC fr X u l I88a A88a B88a C88a M87 := hR88a
    replace f90 : c_bz I73a A73a I88a A88a 0 0 (I73a 2503) := f90
    replace f91 : (I88a 2503) = (I73a 2503) ∧ (0 ≤ (I88a 1035) ∧ (I88a 1035) ≤ 10000) ∧ (I88a 200) = (I73a 200) ∧ (I88a 202) = (I73a 202) := f91
    obtain ⟨n92, ⟨n93, n94⟩, n95, n96⟩ := id f91
    clear f91
    have bx97 : c_bz I A I88a A88a p q (I 2503) := c_bz_trans (show c_bz I A I73a A73a p q (I 2503) from bx85) f90 (Int.le_refl _) (Int.le_refl _) (show p ≤ 0 ∨ 0 ≤ 0 by omega) (show 0 ≤ q ∨ 0 ≤ 0 by omega) (Int.le_refl _) (show (I 2503) ≤ (I73a 2503) by omega)
    show w_W _ _ _ (108, [(2, .int (Int32.ofInt (v4))), (0, .ref 39), (1, .int (Int32.ofInt (n)))], [], M87) _
    refine w_adv (n := 1) (F' := (125, [(2, .int (Int32.ofInt (v4))), (0, .ref 39), (1, .int (Int32.ofInt (n)))], [], M87)) rfl ?_
    refine w_fin (r := .inl none) (M' := M87) rfl ?_
    exact ⟨I88a, A88a, B88a, C88a, rfl, hR88a, (show c_bz I A I88a A88a p q (I 2503) by exact bx97), (show (I88a 2503) = (I 2503) ∧ (0 ≤ (I88a 1035) ∧ (I88a 1035) ≤ 10000) ∧ (I88a 200) = (I 200) ∧ (I88a 202) = (I 202) by (repeat' apply And.intro) <;> first | assumption | omega)⟩
  · refine w_sw (v := 23) (F' := (63, [(2, .int (Int32.ofInt (v4))), (0, .ref 39), (1, .int (Int32.ofInt (n)))], [], M)) h19 rfl rfl ?_
    obtain ⟨r, cu1, cu2, cu3⟩ := hW1.2.2.k23 (by omega)
    obtain ⟨cu4, cu5⟩ := c_W_in cu2
    refine w_adv (n := 3) (F' := (66, [(2, .int (Int32.ofInt (v4))), (0, .ref 39), (1, .int (Int32.ofInt (n)))], [.ref 39, .int (Int32.ofInt (v4)), .ref 39], M)) rfl ?_
    refine w_gf (v := .ref 26) hR rfl rfl rfl rfl ?_
    refine w_adv (n := 1) (F' := (70, [(2, .int (Int32.ofInt (v4))), (0, .ref 39), (1, .int (Int32.ofInt (n)))], [.int (Int32.ofInt (n)), .ref 26, .int (Int32.ofInt (v4)), .ref 39], M)) rfl ?_
    refine w_call (cm := 152) (as := [(0, .ref 26), (1, .int (Int32.ofInt (n)))]) (rest := [.int (Int32.ofInt (v4)), .ref 39]) (o := some (8, 26)) rfl (w_fitR hR rfl) (c_Tb (n) hR (show 1 ≤ d by omega) ⟨by omega, by omega⟩) (fun r98 M99 q100 => ?_)
    rcases q100 with ⟨v101, e102, ⟨r103, r104⟩, e105, f106⟩
    rw [e102, e105]
    replace f106 : c_rd (A 29) n v101 := f106
    have ev101 : v101 = (A 29 n) := (c_rd_eq f106 (by omega) (by omega)).trans (c_bz_n (show c_bz I A I A p q (I 2503) from c_bz_refl) (show A 27 n ≠ 16 from (by omega))).1
    show w_W _ _ _ (73, [(2, .int (Int32.ofInt (v4))), (0, .ref 39), (1, .int (Int32.ofInt (n)))], [.int (Int32.ofInt (v101)), .int (Int32.ofInt (v4)), .ref 39], M) _
    refine w_call (cm := 153) (as := [(0, .ref 39), (1, .int (Int32.ofInt (v4))), (2, .int (Int32.ofInt (v101)))]) (rest := []) (o := some (1, 39)) rfl (w_fitR hR rfl) (c_unify (c_BALL_dn hB0) (v4) (v101) (j) (p) (n) (r) hR (show 8 * j + 5 ≤ d by omega) ⟨by omega, by omega⟩ ⟨by omega, by omega⟩ (show 0 ≤ (I 1035) ∧ (I 1035) ≤ 10000 by (repeat' apply And.intro) <;> first | assumption | omega) (show c_ks A by exact (show c_bz I A I A p q (I 2503) from c_bz_refl).2.2.2.2 hKS) (show 36 ≤ (I 200) ∧ (I 200) ≤ 419 ∧ 0 ≤ (I 202) ∧ (I 202) ≤ 24 by (repeat' apply And.intro) <;> first | assumption | omega) (show ∀ i, (A 5) i ≤ 24 by rw [show (A 5) = (A 5) from (show c_bz I A I A p q (I 2503) from c_bz_refl).2.1 5 rfl]; exact hLN) (show 0 ≤ (I 2503) by omega) (show (I 2503) + 7000 * (j : Int) ≤ 1000000 by first | assumption | omega) (show c_W A j v4 p r by rw [ev4]; exact cu2) (show c_W A j v101 r n by rw [ev101]; exact cu3) (show 0 ≤ p ∧ n ≤ 3001 by first | assumption | omega)) (fun r107 M108 q109 => ?_)
    rcases q109 with ⟨I109a, A109a, B109a, C109a, e110, hR109a, f111, f112⟩
    rw [e110]
    replace hR109a : w_Rep w_TC fr X u l I109a A109a B109a C109a M108 := hR109a
    replace f111 : c_bz I A I109a A109a p n (I 2503) := f111
    replace f112 : (I109a 2503) = (I 2503) ∧ (0 ≤ (I109a 1035) ∧ (I109a 1035) ≤ 10000) ∧ (I109a 200) = (I 200) ∧ (I109a 202) = (I 202) := f112
    obtain ⟨n113, ⟨n114, n115⟩, n116, n117⟩ := id f112
    clear f112
    have bx118 : c_bz I A I109a A109a p q (I 2503) := c_bz_trans (show c_bz I A I A p q (I 2503) from c_bz_refl) f111 (Int.le_refl _) (Int.le_refl _) (show p ≤ p ∨ n ≤ p by omega) (show n ≤ q ∨ n ≤ p by omega) (Int.le_refl _) (show (I 2503) ≤ (I 2503) by omega)
    show w_W _ _ _ (76, [(2, .int (Int32.ofInt (v4))), (0, .ref 39), (1, .int (Int32.ofInt (n)))], [], M108) _
    refine w_adv (n := 1) (F' := (125, [(2, .int (Int32.ofInt (v4))), (0, .ref 39), (1, .int (Int32.ofInt (n)))], [], M108)) rfl ?_
    refine w_fin (r := .inl none) (M' := M108) rfl ?_
    exact ⟨I109a, A109a, B109a, C109a, rfl, hR109a, (show c_bz I A I109a A109a p q (I 2503) by exact bx118), (show (I109a 2503) = (I 2503) ∧ (0 ≤ (I109a 1035) ∧ (I109a 1035) ≤ 10000) ∧ (I109a 200) = (I 200) ∧ (I109a 202) = (I 202) by (repeat' apply And.intro) <;> first | assumption | omega)⟩
  · refine w_sw (v := 24) (F' := (52, [(2, .int (Int32.ofInt (v4))), (0, .ref 39), (1, .int (Int32.ofInt (n)))], [], M)) h19 rfl rfl ?_
    refine w_adv (n := 5) (F' := (57, [(2, .int (Int32.ofInt (v4))), (0, .ref 39), (1, .int (Int32.ofInt (n)))], [.int (Int32.ofInt ((-1))), .int (Int32.ofInt ((-1))), .int (Int32.ofInt ((-1))), .int (Int32.ofInt (1)), .ref 39], M)) rfl ?_
    refine w_call (cm := 148) (as := [(0, .ref 39), (1, .int (Int32.ofInt (1))), (2, .int (Int32.ofInt ((-1)))), (3, .int (Int32.ofInt ((-1)))), (4, .int (Int32.ofInt ((-1))))]) (rest := []) (o := some (1, 39)) rfl (w_fitR hR rfl) (c_emit (1) ((-1)) ((-1)) ((-1)) hR (show 4 ≤ d by omega) ⟨by omega, by omega⟩ ⟨by omega, by omega⟩ ⟨by omega, by omega⟩ ⟨by omega, by omega⟩ (show 0 ≤ (I 1035) ∧ (I 1035) ≤ 10000 by (repeat' apply And.intro) <;> first | assumption | omega) (show 0 ≤ (I 2503) by omega)) (fun r119 M120 q121 => ?_)
    rcases q121 with ⟨I121a, A121a, B121a, C121a, e122, hR121a, f123, f124⟩
    rw [e122]
    replace hR121a : w_Rep w_TC fr X u l I121a A121a B121a C121a M120 := hR121a
    replace f123 : c_bz I A I121a A121a 0 0 (I 2503) := f123
    replace f124 : (I121a 2503) = (I 2503) ∧ (0 ≤ (I121a 1035) ∧ (I121a 1035) ≤ 10000) ∧ (I121a 200) = (I 200) ∧ (I121a 202) = (I 202) := f124
    obtain ⟨n125, ⟨n126, n127⟩, n128, n129⟩ := id f124
    clear f124
    have bx130 : c_bz I A I121a A121a p q (I 2503) := c_bz_trans (show c_bz I A I A p q (I 2503) from c_bz_refl) f123 (Int.le_refl _) (Int.le_refl _) (show p ≤ 0 ∨ 0 ≤ 0 by omega) (show 0 ≤ q ∨ 0 ≤ 0 by omega) (Int.le_refl _) (show (I 2503) ≤ (I 2503) by omega)
    have k131 : c_W A121a i n p q := c_W_agr hW (c_bz_r f123 (show q ≤ 0 ∨ 0 ≤ p ∨ 0 ≤ 0 by omega))
    show w_W _ _ _ (60, [(2, .int (Int32.ofInt (v4))), (0, .ref 39), (1, .int (Int32.ofInt (n)))], [], M120) _
    refine w_adv (n := 1) (F' := (125, [(2, .int (Int32.ofInt (v4))), (0, .ref 39), (1, .int (Int32.ofInt (n)))], [], M120)) rfl ?_
    refine w_fin (r := .inl none) (M' := M120) rfl ?_
    exact ⟨I121a, A121a, B121a, C121a, rfl, hR121a, (show c_bz I A I121a A121a p q (I 2503) by exact bx130), (show (I121a 2503) = (I 2503) ∧ (0 ≤ (I121a 1035) ∧ (I121a 1035) ≤ 10000) ∧ (I121a 200) = (I 200) ∧ (I121a 202) = (I 202) by (repeat' apply And.intro) <;> first | assumption | omega)⟩
def c_single_Q (fr : Nat → Bool) (X : Nat → Option (q_C (Nat → Int32))) (u l : Nat) (I : Nat → Int) (A : Nat → Int → Int) (B C : Nat → Nat) (M : w_M) (n : Int) (x : Int) (i : Nat) (p q : Int) : w_X → w_M → Prop := fun r M' => (∃ (I' : Nat → Int) (A' : Nat → Int → Int) (B' C' : Nat → Nat), (r = .inl none) ∧ (w_Rep w_TC fr X u l I' A' B' C' M') ∧ (c_bz I A I' A' p q (I 2503)) ∧ ((I' 2503) = (I 2503) ∧ (0 ≤ (I' 1035) ∧ (I' 1035) ≤ 10000) ∧ (I' 200) = (I 200) ∧ (I' 202) = (I 202)))
set_option maxHeartbeats 100000000 in
set_option maxRecDepth 100000 in
theorem c_single {L : Nat} {xs : Nat → Int32} {d : Nat} {fr : Nat → Bool} {X : Nat → Option (q_C (Nat → Int32))} {u l : Nat} {I : Nat → Int} {A : Nat → Int → Int} {B C : Nat → Nat} {M : w_M} (hB0 : c_BALL L xs d) (n : Int) (x : Int) (i : Nat) (p q : Int) (hR : w_Rep w_TC fr X u l I A B C M) (hd : 8 * i + 6 ≤ d) (r_n : w_in n) (r_x : w_in x) (hKI : 0 ≤ (I 1035) ∧ (I 1035) ≤ 10000) (hKS : c_ks A) (hNM : 36 ≤ (I 200) ∧ (I 200) ≤ 419 ∧ 0 ≤ (I 202) ∧ (I 202) ≤ 24) (hLN : ∀ i, (A 5) i ≤ 24) (hW0 : 0 ≤ (I 2503)) (hWB : (I 2503) + 7000 * (i : Int) ≤ 1000000) (hW : c_W A i n p q) (hpq : 0 ≤ p ∧ q ≤ 3001) : w_W (z_P L xs) d 146 (0, [(0, .ref 39), (1, .int (Int32.ofInt (n))), (2, .int (Int32.ofInt (x)))], [], M) (c_single_Q fr X u l I A B C M n x i p q) := by
  obtain ⟨ra_n, rb_n⟩ := r_n
  obtain ⟨ra_x, rb_x⟩ := r_x
  obtain ⟨d, rfl⟩ : ∃ d0, d = d0 + 1 := ⟨d - 1, by omega⟩
  obtain ⟨nb1, nb2⟩ := c_W_in hW
  refine w_adv (n := 1) (F' := (1, [(0, .ref 39), (1, .int (Int32.ofInt (n))), (2, .int (Int32.ofInt (x)))], [.ref 39], M)) rfl ?_
  refine w_gf (v := .int (Int32.ofInt ((I 2505)))) hR rfl rfl rfl rfl ?_
  obtain ⟨r1, r2⟩ : -2147483648 ≤ (I 2505) ∧ (I 2505) ≤ 2147483647 := hR.ri 2505
  refine w_adv (n := 2) (F' := (6, [(3, .int (Int32.ofInt ((I 2505)))), (0, .ref 39), (1, .int (Int32.ofInt (n))), (2, .int (Int32.ofInt (x)))], [.ref 39], M)) rfl ?_
  refine w_gf (v := .int (Int32.ofInt ((I 2502)))) hR rfl rfl rfl rfl ?_
  obtain ⟨r3, r4⟩ : -2147483648 ≤ (I 2502) ∧ (I 2502) ≤ 2147483647 := hR.ri 2502
  refine w_adv (n := 3) (F' := (13, [(4, .int (Int32.ofInt ((I 2502)))), (3, .int (Int32.ofInt ((I 2505)))), (0, .ref 39), (1, .int (Int32.ofInt (n))), (2, .int (Int32.ofInt (x)))], [.int (Int32.ofInt ((-1))), .int (Int32.ofInt (x))], M)) rfl ?_
  refine w_br2 (a := x) (b := (-1)) rfl rfl ⟨by omega, by omega⟩ ⟨by omega, by omega⟩ (fun h5 => ?_) (fun h5 => ?_)
  · have h5 : ¬ x = (-1) := h5
    show w_W _ _ _ (24, [(4, .int (Int32.ofInt ((I 2502)))), (3, .int (Int32.ofInt ((I 2505)))), (0, .ref 39), (1, .int (Int32.ofInt (n))), (2, .int (Int32.ofInt (x)))], [], M) _
    refine w_adv (n := 3) (F' := (27, [(4, .int (Int32.ofInt ((I 2502)))), (3, .int (Int32.ofInt ((I 2505)))), (0, .ref 39), (1, .int (Int32.ofInt (n))), (2, .int (Int32.ofInt (x)))], [.int (Int32.ofInt (x)), .int (Int32.ofInt (n)), .ref 39], M)) rfl ?_
    refine w_call (cm := 156) (as := [(0, .ref 39), (1, .int (Int32.ofInt (n))), (2, .int (Int32.ofInt (x)))]) (rest := []) (o := some (1, 39)) rfl (w_fitR hR rfl) ((hB0 d (Nat.lt_succ_self d)).1 (n) (x) (i) (p) (q) hR (show 8 * i + 4 ≤ d by omega) ⟨by omega, by omega⟩ ⟨by omega, by omega⟩ (show 0 ≤ (I 1035) ∧ (I 1035) ≤ 10000 by (repeat' apply And.intro) <;> first | assumption | omega) (show c_ks A by exact (show c_bz I A I A p q (I 2503) from c_bz_refl).2.2.2.2 hKS) (show 36 ≤ (I 200) ∧ (I 200) ≤ 419 ∧ 0 ≤ (I 202) ∧ (I 202) ≤ 24 by (repeat' apply And.intro) <;> first | assumption | omega) (show ∀ i, (A 5) i ≤ 24 by rw [show (A 5) = (A 5) from (show c_bz I A I A p q (I 2503) from c_bz_refl).2.1 5 rfl]; exact hLN) (show 0 ≤ (I 2503) by omega) (show (I 2503) + 7000 * (i : Int) ≤ 1000000 by first | assumption | omega) (show c_W A i n p q by exact hW) (show 0 ≤ p ∧ q ≤ 3001 by first | assumption | omega)) (fun r6 M7 q8 => ?_)
    rcases q8 with ⟨I8a, A8a, B8a, C8a, e9, hR8a, f10, f11⟩
    rw [e9]
    replace hR8a : w_Rep w_TC fr X u l I8a A8a B8a C8a M7 := hR8a
    replace f10 : c_bz I A I8a A8a p q (I 2503) := f10
    replace f11 : (I8a 2503) = (I 2503) ∧ (0 ≤ (I8a 1035) ∧ (I8a 1035) ≤ 10000) ∧ (I8a 200) = (I 200) ∧ (I8a 202) = (I 202) := f11
    obtain ⟨n12, ⟨n13, n14⟩, n15, n16⟩ := id f11
    clear f11
    have bx17 : c_bz I A I8a A8a p q (I 2503) := c_bz_trans (show c_bz I A I A p q (I 2503) from c_bz_refl) f10 (Int.le_refl _) (Int.le_refl _) (show p ≤ p ∨ q ≤ p by omega) (show q ≤ q ∨ q ≤ p by omega) (Int.le_refl _) (show (I 2503) ≤ (I 2503) by omega)
    show w_W _ _ _ (30, [(4, .int (Int32.ofInt ((I 2502)))), (3, .int (Int32.ofInt ((I 2505)))), (0, .ref 39), (1, .int (Int32.ofInt (n))), (2, .int (Int32.ofInt (x)))], [], M7) _
    refine w_adv (n := 1) (F' := (31, [(4, .int (Int32.ofInt ((I 2502)))), (3, .int (Int32.ofInt ((I 2505)))), (0, .ref 39), (1, .int (Int32.ofInt (n))), (2, .int (Int32.ofInt (x)))], [.ref 39], M7)) rfl ?_
    refine w_gf (v := .int (Int32.ofInt ((I8a 2502)))) hR8a rfl rfl rfl rfl ?_
    obtain ⟨r18, r19⟩ : -2147483648 ≤ (I8a 2502) ∧ (I8a 2502) ≤ 2147483647 := hR8a.ri 2502
    refine w_adv (n := 1) (F' := (36, [(4, .int (Int32.ofInt ((I 2502)))), (3, .int (Int32.ofInt ((I 2505)))), (0, .ref 39), (1, .int (Int32.ofInt (n))), (2, .int (Int32.ofInt (x)))], [.int (Int32.ofInt ((I 2502))), .int (Int32.ofInt ((I8a 2502)))], M7)) rfl ?_
    refine w_br2 (a := (I8a 2502)) (b := (I 2502)) rfl rfl ⟨by omega, by omega⟩ ⟨by omega, by omega⟩ (fun h20 => ?_) (fun h20 => ?_)
    · have h20 : ¬ (I8a 2502) = (I 2502) := h20
      show w_W _ _ _ (40, [(4, .int (Int32.ofInt ((I 2502)))), (3, .int (Int32.ofInt ((I 2505)))), (0, .ref 39), (1, .int (Int32.ofInt (n))), (2, .int (Int32.ofInt (x)))], [], M7) _
      refine w_adv (n := 2) (F' := (42, [(4, .int (Int32.ofInt ((I 2502)))), (3, .int (Int32.ofInt ((I 2505)))), (0, .ref 39), (1, .int (Int32.ofInt (n))), (2, .int (Int32.ofInt (x)))], [.int (Int32.ofInt ((-1))), .int (Int32.ofInt ((I 2505)))], M7)) rfl ?_
      refine w_br2 (a := (I 2505)) (b := (-1)) rfl rfl ⟨by omega, by omega⟩ ⟨by omega, by omega⟩ (fun h21 => ?_) (fun h21 => ?_)
      · have h21 : ¬ (I 2505) = (-1) := h21
        show w_W _ _ _ (52, [(4, .int (Int32.ofInt ((I 2502)))), (3, .int (Int32.ofInt ((I 2505)))), (0, .ref 39), (1, .int (Int32.ofInt (n))), (2, .int (Int32.ofInt (x)))], [], M7) _
        refine w_adv (n := 1) (F' := (53, [(4, .int (Int32.ofInt ((I 2502)))), (3, .int (Int32.ofInt ((I 2505)))), (0, .ref 39), (1, .int (Int32.ofInt (n))), (2, .int (Int32.ofInt (x)))], [.ref 39], M7)) rfl ?_
        refine w_gf (v := .ref 16) hR8a rfl rfl rfl rfl ?_
        refine w_adv (n := 1) (F' := (57, [(4, .int (Int32.ofInt ((I 2502)))), (3, .int (Int32.ofInt ((I 2505)))), (0, .ref 39), (1, .int (Int32.ofInt (n))), (2, .int (Int32.ofInt (x)))], [.int (Int32.ofInt ((I 2505))), .ref 16], M7)) rfl ?_
        refine w_call (cm := 190) (as := [(0, .ref 16), (1, .int (Int32.ofInt ((I 2505))))]) (rest := []) (o := some (2, 16)) rfl (w_fitR hR8a rfl) (c_Kernel_next ((I 2505)) hR8a (show 2 ≤ d by omega) ⟨by omega, by omega⟩) (fun r22 M23 q24 => ?_)
        rcases q24 with ⟨v25, e26, ⟨r27, r28⟩, e29⟩
        rw [e26, e29]
        show w_W _ _ _ (60, [(4, .int (Int32.ofInt ((I 2502)))), (3, .int (Int32.ofInt ((I 2505)))), (0, .ref 39), (1, .int (Int32.ofInt (n))), (2, .int (Int32.ofInt (x)))], [.int (Int32.ofInt (v25))], M7) _
        refine w_adv (n := 3) (F' := (64, [(5, .int (Int32.ofInt (v25))), (4, .int (Int32.ofInt ((I 2502)))), (3, .int (Int32.ofInt ((I 2505)))), (0, .ref 39), (1, .int (Int32.ofInt (n))), (2, .int (Int32.ofInt (x)))], [.int (Int32.ofInt ((I 2505))), .ref 39], M7)) rfl ?_
        refine w_pf hR8a rfl rfl rfl rfl (show w_in ((I 2505)) from ⟨by omega, by omega⟩) (fun h => absurd h (by decide)) (fun M30 hR31 => ?_)
        replace hR31 : w_Rep w_TC fr X u l (w_up I8a 2505 ((I 2505))) A8a B8a C8a M30 := hR31
        refine w_adv (n := 2) (F' := (69, [(5, .int (Int32.ofInt (v25))), (4, .int (Int32.ofInt ((I 2502)))), (3, .int (Int32.ofInt ((I 2505)))), (0, .ref 39), (1, .int (Int32.ofInt (n))), (2, .int (Int32.ofInt (x)))], [.int (Int32.ofInt ((-1))), .int (Int32.ofInt ((I 2505)))], M30)) rfl ?_
        refine w_br2 (a := (I 2505)) (b := (-1)) rfl rfl ⟨by omega, by omega⟩ ⟨by omega, by omega⟩ (fun h32 => ?_) (fun h32 => ?_)
        · have h32 : ¬ (I 2505) = (-1) := h32
          show w_W _ _ _ (77, [(5, .int (Int32.ofInt (v25))), (4, .int (Int32.ofInt ((I 2502)))), (3, .int (Int32.ofInt ((I 2505)))), (0, .ref 39), (1, .int (Int32.ofInt (n))), (2, .int (Int32.ofInt (x)))], [], M30) _
          refine w_adv (n := 5) (F' := (83, [(5, .int (Int32.ofInt (v25))), (4, .int (Int32.ofInt ((I 2502)))), (3, .int (Int32.ofInt ((I 2505)))), (0, .ref 39), (1, .int (Int32.ofInt (n))), (2, .int (Int32.ofInt (x)))], [.int (Int32.ofInt ((-1))), .int (Int32.ofInt (v25)), .int (Int32.ofInt ((-1))), .int (Int32.ofInt (2)), .ref 39], M30)) rfl ?_
          refine w_call (cm := 148) (as := [(0, .ref 39), (1, .int (Int32.ofInt (2))), (2, .int (Int32.ofInt ((-1)))), (3, .int (Int32.ofInt (v25))), (4, .int (Int32.ofInt ((-1))))]) (rest := []) (o := some (1, 39)) rfl (w_fitR hR31 rfl) (c_emit (2) ((-1)) (v25) ((-1)) hR31 (show 4 ≤ d by omega) ⟨by omega, by omega⟩ ⟨by omega, by omega⟩ ⟨by omega, by omega⟩ ⟨by omega, by omega⟩ (show 0 ≤ (I8a 1035) ∧ (I8a 1035) ≤ 10000 by (repeat' apply And.intro) <;> first | assumption | omega) (show 0 ≤ (I8a 2503) by omega)) (fun r33 M34 q35 => ?_)
          rcases q35 with ⟨I35a, A35a, B35a, C35a, e36, hR35a, f37, f38⟩
          rw [e36]
          replace hR35a : w_Rep w_TC fr X u l I35a A35a B35a C35a M34 := hR35a
          replace f37 : c_bz (w_up I8a 2505 ((I 2505))) A8a I35a A35a 0 0 (I8a 2503) := f37
          replace f38 : (I35a 2503) = (I8a 2503) ∧ (0 ≤ (I35a 1035) ∧ (I35a 1035) ≤ 10000) ∧ (I35a 200) = (I8a 200) ∧ (I35a 202) = (I8a 202) := f38
          obtain ⟨n39, ⟨n40, n41⟩, n42, n43⟩ := id f38
          clear f38
          have bx44 : c_bz I A I35a A35a p q (I 2503) := c_bz_trans (show c_bz I A (w_up I8a 2505 ((I 2505))) A8a p q (I 2503) from (c_bz_up bx17 rfl)) f37 (Int.le_refl _) (Int.le_refl _) (show p ≤ 0 ∨ 0 ≤ 0 by omega) (show 0 ≤ q ∨ 0 ≤ 0 by omega) (Int.le_refl _) (show (I 2503) ≤ (I8a 2503) by omega)
          show w_W _ _ _ (86, [(5, .int (Int32.ofInt (v25))), (4, .int (Int32.ofInt ((I 2502)))), (3, .int (Int32.ofInt ((I 2505)))), (0, .ref 39), (1, .int (Int32.ofInt (n))), (2, .int (Int32.ofInt (x)))], [], M34) _
          refine w_adv (n := 2) (F' := (90, [(6, .int (Int32.ofInt ((I 2502)))), (5, .int (Int32.ofInt (v25))), (4, .int (Int32.ofInt ((I 2502)))), (3, .int (Int32.ofInt ((I 2505)))), (0, .ref 39), (1, .int (Int32.ofInt (n))), (2, .int (Int32.ofInt (x)))], [], M34)) rfl ?_
          have lp90 : ∀ fu90 : Nat, ∀ (y90_6 : Int) (I_90 : Nat → Int) (A_90 : Nat → Int → Int) (B_90 C_90 : Nat → Nat) (M_90 : w_M) (hR_90 : w_Rep w_TC fr X u l I_90 A_90 B_90 C_90 M_90), w_in y90_6 → c_bz I A I_90 A_90 p q (I 2503) → (I_90 2503) = (I 2503) ∧ (0 ≤ (I_90 1035) ∧ (I_90 1035) ≤ 10000) ∧ (I_90 200) = (I 200) ∧ (I_90 202) = (I 202) → (if y90_6 < (I_90 2502) then (I_90 2502) - y90_6 else 0) < (fu90 : Int) → w_W (z_P L xs) (d + 1) 146 (90, [(0, .ref 39), (1, .int (Int32.ofInt (n))), (2, .int (Int32.ofInt (x))), (3, .int (Int32.ofInt ((I 2505)))), (4, .int (Int32.ofInt ((I 2502)))), (5, .int (Int32.ofInt (v25))), (6, .int (Int32.ofInt (y90_6)))], [], M_90) (c_single_Q fr X u l I A B C M n x i p q) := by
            intro fu90
            induction fu90 with
            | zero =>
              intro y90_6 I_90 A_90 B_90 C_90 M_90 hR_90 ⟨ra_y90_6, rb_y90_6⟩ hi90_0 hi90_1 hn90
              exfalso
              omega
            | succ fu90 ih90 =>
              intro y90_6 I_90 A_90 B_90 C_90 M_90 hR_90 ⟨ra_y90_6, rb_y90_6⟩ hi90_0 hi90_1 hn90
              refine w_adv (n := 2) (F' := (93, [(0, .ref 39), (1, .int (Int32.ofInt (n))), (2, .int (Int32.ofInt (x))), (3, .int (Int32.ofInt ((I 2505)))), (4, .int (Int32.ofInt ((I 2502)))), (5, .int (Int32.ofInt (v25))), (6, .int (Int32.ofInt (y90_6)))], [.ref 39, .int (Int32.ofInt (y90_6))], M_90)) rfl ?_
              refine w_gf (v := .int (Int32.ofInt ((I_90 2502)))) hR_90 rfl rfl rfl rfl ?_
              obtain ⟨r45, r46⟩ : -2147483648 ≤ (I_90 2502) ∧ (I_90 2502) ≤ 2147483647 := hR_90.ri 2502
              refine w_br2 (a := y90_6) (b := (I_90 2502)) rfl rfl ⟨by omega, by omega⟩ ⟨by omega, by omega⟩ (fun h47 => ?_) (fun h47 => ?_)
              · have h47 : y90_6 ≥ (I_90 2502) := h47
                show w_W _ _ _ (121, [(0, .ref 39), (1, .int (Int32.ofInt (n))), (2, .int (Int32.ofInt (x))), (3, .int (Int32.ofInt ((I 2505)))), (4, .int (Int32.ofInt ((I 2502)))), (5, .int (Int32.ofInt (v25))), (6, .int (Int32.ofInt (y90_6)))], [], M_90) _
                refine w_adv (n := 2) (F' := (124, [(0, .ref 39), (1, .int (Int32.ofInt (n))), (2, .int (Int32.ofInt (x))), (3, .int (Int32.ofInt ((I 2505)))), (4, .int (Int32.ofInt ((I 2502)))), (5, .int (Int32.ofInt (v25))), (6, .int (Int32.ofInt (y90_6)))], [.int (Int32.ofInt ((I 2502))), .ref 39], M_90)) rfl ?_
                refine w_pf hR_90 rfl rfl rfl rfl (show w_in ((I 2502)) from ⟨by omega, by omega⟩) (fun h => absurd h (by decide)) (fun M48 hR49 => ?_)
                replace hR49 : w_Rep w_TC fr X u l (w_up I_90 2502 ((I 2502))) A_90 B_90 C_90 M48 := hR49
                refine w_fin (r := .inl none) (M' := M48) rfl ?_
                exact ⟨(w_up I_90 2502 ((I 2502))), A_90, B_90, C_90, rfl, hR49, (show c_bz I A (w_up I_90 2502 ((I 2502))) A_90 p q (I 2503) by exact (c_bz_up hi90_0 rfl)), (show (I_90 2503) = (I 2503) ∧ (0 ≤ (I_90 1035) ∧ (I_90 1035) ≤ 10000) ∧ (I_90 200) = (I 200) ∧ (I_90 202) = (I 202) by (repeat' apply And.intro) <;> first | assumption | omega)⟩
              · have h47 : ¬ (y90_6 ≥ (I_90 2502)) := h47
                show w_W _ _ _ (99, [(0, .ref 39), (1, .int (Int32.ofInt (n))), (2, .int (Int32.ofInt (x))), (3, .int (Int32.ofInt ((I 2505)))), (4, .int (Int32.ofInt ((I 2502)))), (5, .int (Int32.ofInt (v25))), (6, .int (Int32.ofInt (y90_6)))], [], M_90) _
                refine w_adv (n := 1) (F' := (100, [(0, .ref 39), (1, .int (Int32.ofInt (n))), (2, .int (Int32.ofInt (x))), (3, .int (Int32.ofInt ((I 2505)))), (4, .int (Int32.ofInt ((I 2502)))), (5, .int (Int32.ofInt (v25))), (6, .int (Int32.ofInt (y90_6)))], [.ref 39], M_90)) rfl ?_
                refine w_gf (v := .ref 16) hR_90 rfl rfl rfl rfl ?_
                refine w_adv (n := 1) (F' := (104, [(0, .ref 39), (1, .int (Int32.ofInt (n))), (2, .int (Int32.ofInt (x))), (3, .int (Int32.ofInt ((I 2505)))), (4, .int (Int32.ofInt ((I 2502)))), (5, .int (Int32.ofInt (v25))), (6, .int (Int32.ofInt (y90_6)))], [.ref 39, .ref 16], M_90)) rfl ?_
                refine w_gf (v := .ref 40) hR_90 rfl rfl rfl rfl ?_
                refine w_adv (n := 1) (F' := (109, [(0, .ref 39), (1, .int (Int32.ofInt (n))), (2, .int (Int32.ofInt (x))), (3, .int (Int32.ofInt ((I 2505)))), (4, .int (Int32.ofInt ((I 2502)))), (5, .int (Int32.ofInt (v25))), (6, .int (Int32.ofInt (y90_6)))], [.int (Int32.ofInt (y90_6)), .ref 40, .ref 16], M_90)) rfl ?_
                refine w_call (cm := 21) (as := [(0, .ref 40), (1, .int (Int32.ofInt (y90_6)))]) (rest := [.ref 16]) (o := none) rfl (trivial) (c_at (y90_6) 40 3107 rfl (by decide) hR_90 ⟨by omega, by omega⟩) (fun r50 M51 q52 => ?_)
                rcases q52 with ⟨v53, e54, ⟨r55, r56⟩, e57, f58⟩
                rw [e54, e57]
                replace f58 : ((0 ≤ y90_6 ∧ y90_6 < (3107 : Int) ∧ v53 = (A_90 40) (y90_6)) ∨ (¬ (0 ≤ y90_6 ∧ y90_6 < (3107 : Int)) ∧ v53 = -1)) := f58
                show w_W _ _ _ (112, [(0, .ref 39), (1, .int (Int32.ofInt (n))), (2, .int (Int32.ofInt (x))), (3, .int (Int32.ofInt ((I 2505)))), (4, .int (Int32.ofInt ((I 2502)))), (5, .int (Int32.ofInt (v25))), (6, .int (Int32.ofInt (y90_6)))], [.int (Int32.ofInt (v53)), .ref 16], M_90) _
                refine w_call (cm := 164) (as := [(0, .ref 16), (1, .int (Int32.ofInt (v53)))]) (rest := []) (o := some (2, 16)) rfl (w_fitR hR_90 rfl) (c_kad (v53) hR_90 (show 1 ≤ d by omega) ⟨by omega, by omega⟩ (show 0 ≤ (I_90 1035) ∧ (I_90 1035) ≤ 10000 by (repeat' apply And.intro) <;> first | assumption | omega) (show 0 ≤ (I_90 2503) by omega)) (fun r59 M60 q61 => ?_)
                rcases q61 with ⟨I61a, A61a, B61a, C61a, e62, hR61a, f63, f64, f65⟩
                rw [e62]
                replace hR61a : w_Rep w_TC fr X u l I61a A61a B61a C61a M60 := hR61a
                replace f63 : c_bz I_90 A_90 I61a A61a 0 0 (I_90 2503) := f63
                replace f64 : (I61a 2503) = (I_90 2503) ∧ (0 ≤ (I61a 1035) ∧ (I61a 1035) ≤ 10000) ∧ (I61a 200) = (I_90 200) ∧ (I61a 202) = (I_90 202) := f64
                obtain ⟨n66, ⟨n67, n68⟩, n69, n70⟩ := id f64
                clear f64
                replace f65 : (I61a 2502) = (I_90 2502) := f65
                have bx71 : c_bz I A I61a A61a p q (I 2503) := c_bz_trans (show c_bz I A I_90 A_90 p q (I 2503) from hi90_0) f63 (Int.le_refl _) (Int.le_refl _) (show p ≤ 0 ∨ 0 ≤ 0 by omega) (show 0 ≤ q ∨ 0 ≤ 0 by omega) (Int.le_refl _) (show (I 2503) ≤ (I_90 2503) by omega)
                show w_W _ _ _ (115, [(0, .ref 39), (1, .int (Int32.ofInt (n))), (2, .int (Int32.ofInt (x))), (3, .int (Int32.ofInt ((I 2505)))), (4, .int (Int32.ofInt ((I 2502)))), (5, .int (Int32.ofInt (v25))), (6, .int (Int32.ofInt (y90_6)))], [], M60) _
                refine w_inc (nL := 7) (a := y90_6) rfl rfl rfl (by decide) ?_
                refine w_adv (n := 1) (F' := (90, [(6, .int (Int32.ofInt (y90_6 + 1))), (0, .ref 39), (1, .int (Int32.ofInt (n))), (2, .int (Int32.ofInt (x))), (3, .int (Int32.ofInt ((I 2505)))), (4, .int (Int32.ofInt ((I 2502)))), (5, .int (Int32.ofInt (v25)))], [], M60)) rfl ?_
                refine w_ls (ls := [(0, .ref 39), (1, .int (Int32.ofInt (n))), (2, .int (Int32.ofInt (x))), (3, .int (Int32.ofInt ((I 2505)))), (4, .int (Int32.ofInt ((I 2502)))), (5, .int (Int32.ofInt (v25))), (6, .int (Int32.ofInt (y90_6 + 1)))]) (show List.Nodup [0, 1, 2, 3, 4, 5, 6] by decide) (show List.Nodup [6, 0, 1, 2, 3, 4, 5] by decide) (List.forall_mem_cons.mpr ⟨(List.Mem.tail _ (List.Mem.head _)), (List.forall_mem_cons.mpr ⟨(List.Mem.tail _ (List.Mem.tail _ (List.Mem.head _))), (List.forall_mem_cons.mpr ⟨(List.Mem.tail _ (List.Mem.tail _ (List.Mem.tail _ (List.Mem.head _)))), (List.forall_mem_cons.mpr ⟨(List.Mem.tail _ (List.Mem.tail _ (List.Mem.tail _ (List.Mem.tail _ (List.Mem.head _))))), (List.forall_mem_cons.mpr ⟨(List.Mem.tail _ (List.Mem.tail _ (List.Mem.tail _ (List.Mem.tail _ (List.Mem.tail _ (List.Mem.head _)))))), (List.forall_mem_cons.mpr ⟨(List.Mem.tail _ (List.Mem.tail _ (List.Mem.tail _ (List.Mem.tail _ (List.Mem.tail _ (List.Mem.tail _ (List.Mem.head _))))))), (List.forall_mem_cons.mpr ⟨(List.Mem.head _), (fun _ h => by cases h)⟩)⟩)⟩)⟩)⟩)⟩)⟩) ?_
                exact ih90  (y90_6 + 1) I61a A61a B61a C61a M60 hR61a ⟨by omega, by omega⟩ (show c_bz I A I61a A61a p q (I 2503) by exact bx71) (show (I61a 2503) = (I 2503) ∧ (0 ≤ (I61a 1035) ∧ (I61a 1035) ≤ 10000) ∧ (I61a 200) = (I 200) ∧ (I61a 202) = (I 202) by (repeat' apply And.intro) <;> first | assumption | omega) (show (if (y90_6 + 1) < (I61a 2502) then (I61a 2502) - (y90_6 + 1) else 0) < (fu90 : Int) by omega)
          refine w_ls (ls := [(0, .ref 39), (1, .int (Int32.ofInt (n))), (2, .int (Int32.ofInt (x))), (3, .int (Int32.ofInt ((I 2505)))), (4, .int (Int32.ofInt ((I 2502)))), (5, .int (Int32.ofInt (v25))), (6, .int (Int32.ofInt ((I 2502))))]) (show List.Nodup [0, 1, 2, 3, 4, 5, 6] by decide) (show List.Nodup [6, 5, 4, 3, 0, 1, 2] by decide) (List.forall_mem_cons.mpr ⟨(List.Mem.tail _ (List.Mem.tail _ (List.Mem.tail _ (List.Mem.tail _ (List.Mem.head _))))), (List.forall_mem_cons.mpr ⟨(List.Mem.tail _ (List.Mem.tail _ (List.Mem.tail _ (List.Mem.tail _ (List.Mem.tail _ (List.Mem.head _)))))), (List.forall_mem_cons.mpr ⟨(List.Mem.tail _ (List.Mem.tail _ (List.Mem.tail _ (List.Mem.tail _ (List.Mem.tail _ (List.Mem.tail _ (List.Mem.head _))))))), (List.forall_mem_cons.mpr ⟨(List.Mem.tail _ (List.Mem.tail _ (List.Mem.tail _ (List.Mem.head _)))), (List.forall_mem_cons.mpr ⟨(List.Mem.tail _ (List.Mem.tail _ (List.Mem.head _))), (List.forall_mem_cons.mpr ⟨(List.Mem.tail _ (List.Mem.head _)), (List.forall_mem_cons.mpr ⟨(List.Mem.head _), (fun _ h => by cases h)⟩)⟩)⟩)⟩)⟩)⟩)⟩) ?_
          exact lp90 (((if (I 2502) < (I35a 2502) then (I35a 2502) - (I 2502) else 0) : Int).toNat + 1)  ((I 2502)) I35a A35a B35a C35a M34 hR35a ⟨by omega, by omega⟩ (show c_bz I A I35a A35a p q (I 2503) by exact bx44) (show (I35a 2503) = (I 2503) ∧ (0 ≤ (I35a 1035) ∧ (I35a 1035) ≤ 10000) ∧ (I35a 200) = (I 200) ∧ (I35a 202) = (I 202) by (repeat' apply And.intro) <;> first | assumption | omega) (show (if (I 2502) < (I35a 2502) then (I35a 2502) - (I 2502) else 0) < ((((if (I 2502) < (I35a 2502) then (I35a 2502) - (I 2502) else 0) : Int).toNat + 1 : Nat) : Int) by omega)
        · have h32 : ¬ (¬ (I 2505) = (-1)) := h32
          exfalso; omega
      · have h21 : ¬ (¬ (I 2505) = (-1)) := h21
        show w_W _ _ _ (45, [(4, .int (Int32.ofInt ((I 2502)))), (3, .int (Int32.ofInt ((I 2505)))), (0, .ref 39), (1, .int (Int32.ofInt (n))), (2, .int (Int32.ofInt (x)))], [], M7) _
        refine w_adv (n := 1) (F' := (46, [(4, .int (Int32.ofInt ((I 2502)))), (3, .int (Int32.ofInt ((I 2505)))), (0, .ref 39), (1, .int (Int32.ofInt (n))), (2, .int (Int32.ofInt (x)))], [.ref 39], M7)) rfl ?_
        refine w_gf (v := .int (Int32.ofInt ((I8a 2504)))) hR8a rfl rfl rfl rfl ?_
        obtain ⟨r72, r73⟩ : -2147483648 ≤ (I8a 2504) ∧ (I8a 2504) ≤ 2147483647 := hR8a.ri 2504
        refine w_adv (n := 4) (F' := (64, [(5, .int (Int32.ofInt ((I8a 2504)))), (4, .int (Int32.ofInt ((I 2502)))), (3, .int (Int32.ofInt ((I 2505)))), (0, .ref 39), (1, .int (Int32.ofInt (n))), (2, .int (Int32.ofInt (x)))], [.int (Int32.ofInt ((I 2505))), .ref 39], M7)) rfl ?_
        refine w_pf hR8a rfl rfl rfl rfl (show w_in ((I 2505)) from ⟨by omega, by omega⟩) (fun h => absurd h (by decide)) (fun M74 hR75 => ?_)
        replace hR75 : w_Rep w_TC fr X u l (w_up I8a 2505 ((I 2505))) A8a B8a C8a M74 := hR75
        refine w_adv (n := 2) (F' := (69, [(5, .int (Int32.ofInt ((I8a 2504)))), (4, .int (Int32.ofInt ((I 2502)))), (3, .int (Int32.ofInt ((I 2505)))), (0, .ref 39), (1, .int (Int32.ofInt (n))), (2, .int (Int32.ofInt (x)))], [.int (Int32.ofInt ((-1))), .int (Int32.ofInt ((I 2505)))], M74)) rfl ?_
        refine w_br2 (a := (I 2505)) (b := (-1)) rfl rfl ⟨by omega, by omega⟩ ⟨by omega, by omega⟩ (fun h76 => ?_) (fun h76 => ?_)
        · have h76 : ¬ (I 2505) = (-1) := h76
          exfalso; omega
        · have h76 : ¬ (¬ (I 2505) = (-1)) := h76
          show w_W _ _ _ (72, [(5, .int (Int32.ofInt ((I8a 2504)))), (4, .int (Int32.ofInt ((I 2502)))), (3, .int (Int32.ofInt ((I 2505)))), (0, .ref 39), (1, .int (Int32.ofInt (n))), (2, .int (Int32.ofInt (x)))], [], M74) _
          refine w_adv (n := 2) (F' := (74, [(5, .int (Int32.ofInt ((I8a 2504)))), (4, .int (Int32.ofInt ((I 2502)))), (3, .int (Int32.ofInt ((I 2505)))), (0, .ref 39), (1, .int (Int32.ofInt (n))), (2, .int (Int32.ofInt (x)))], [.int (Int32.ofInt ((-1))), .ref 39], M74)) rfl ?_
          refine w_pf hR75 rfl rfl rfl rfl (show w_in ((-1)) from ⟨by omega, by omega⟩) (fun h => absurd h (by decide)) (fun M77 hR78 => ?_)
          replace hR78 : w_Rep w_TC fr X u l (w_up (w_up I8a 2505 ((I 2505))) 2504 ((-1))) A8a B8a C8a M77 := hR78
          refine w_adv (n := 5) (F' := (83, [(5, .int (Int32.ofInt ((I8a 2504)))), (4, .int (Int32.ofInt ((I 2502)))), (3, .int (Int32.ofInt ((I 2505)))), (0, .ref 39), (1, .int (Int32.ofInt (n))), (2, .int (Int32.ofInt (x)))], [.int (Int32.ofInt ((-1))), .int (Int32.ofInt ((I8a 2504))), .int (Int32.ofInt ((-1))), .int (Int32.ofInt (2)), .ref 39], M77)) rfl ?_
          refine w_call (cm := 148) (as := [(0, .ref 39), (1, .int (Int32.ofInt (2))), (2, .int (Int32.ofInt ((-1)))), (3, .int (Int32.ofInt ((I8a 2504)))), (4, .int (Int32.ofInt ((-1))))]) (rest := []) (o := some (1, 39)) rfl (w_fitR hR78 rfl) (c_emit (2) ((-1)) ((I8a 2504)) ((-1)) hR78 (show 4 ≤ d by omega) ⟨by omega, by omega⟩ ⟨by omega, by omega⟩ ⟨by omega, by omega⟩ ⟨by omega, by omega⟩ (show 0 ≤ (I8a 1035) ∧ (I8a 1035) ≤ 10000 by (repeat' apply And.intro) <;> first | assumption | omega) (show 0 ≤ (I8a 2503) by omega)) (fun r79 M80 q81 => ?_)
          rcases q81 with ⟨I81a, A81a, B81a, C81a, e82, hR81a, f83, f84⟩
          rw [e82]
          replace hR81a : w_Rep w_TC fr X u l I81a A81a B81a C81a M80 := hR81a
          replace f83 : c_bz (w_up (w_up I8a 2505 ((I 2505))) 2504 ((-1))) A8a I81a A81a 0 0 (I8a 2503) := f83
          replace f84 : (I81a 2503) = (I8a 2503) ∧ (0 ≤ (I81a 1035) ∧ (I81a 1035) ≤ 10000) ∧ (I81a 200) = (I8a 200) ∧ (I81a 202) = (I8a 202) := f84
          obtain ⟨n85, ⟨n86, n87⟩, n88, n89⟩ := id f84
          clear f84
          have bx90 : c_bz I A I81a A81a p q (I 2503) := c_bz_trans (show c_bz I A (w_up (w_up I8a 2505 ((I 2505))) 2504 ((-1))) A8a p q (I 2503) from (c_bz_up (c_bz_up bx17 rfl) rfl)) f83 (Int.le_refl _) (Int.le_refl _) (show p ≤ 0 ∨ 0 ≤ 0 by omega) (show 0 ≤ q ∨ 0 ≤ 0 by omega) (Int.le_refl _) (show (I 2503) ≤ (I8a 2503) by omega)
          show w_W _ _ _ (86, [(5, .int (Int32.ofInt ((I8a 2504)))), (4, .int (Int32.ofInt ((I 2502)))), (3, .int (Int32.ofInt ((I 2505)))), (0, .ref 39), (1, .int (Int32.ofInt (n))), (2, .int (Int32.ofInt (x)))], [], M80) _
          refine w_adv (n := 2) (F' := (90, [(6, .int (Int32.ofInt ((I 2502)))), (5, .int (Int32.ofInt ((I8a 2504)))), (4, .int (Int32.ofInt ((I 2502)))), (3, .int (Int32.ofInt ((I 2505)))), (0, .ref 39), (1, .int (Int32.ofInt (n))), (2, .int (Int32.ofInt (x)))], [], M80)) rfl ?_
          have lp90 : ∀ fu90 : Nat, ∀ (y90_6 : Int) (I_90 : Nat → Int) (A_90 : Nat → Int → Int) (B_90 C_90 : Nat → Nat) (M_90 : w_M) (hR_90 : w_Rep w_TC fr X u l I_90 A_90 B_90 C_90 M_90), w_in y90_6 → c_bz I A I_90 A_90 p q (I 2503) → (I_90 2503) = (I 2503) ∧ (0 ≤ (I_90 1035) ∧ (I_90 1035) ≤ 10000) ∧ (I_90 200) = (I 200) ∧ (I_90 202) = (I 202) → (if y90_6 < (I_90 2502) then (I_90 2502) - y90_6 else 0) < (fu90 : Int) → w_W (z_P L xs) (d + 1) 146 (90, [(0, .ref 39), (1, .int (Int32.ofInt (n))), (2, .int (Int32.ofInt (x))), (3, .int (Int32.ofInt ((I 2505)))), (4, .int (Int32.ofInt ((I 2502)))), (5, .int (Int32.ofInt ((I8a 2504)))), (6, .int (Int32.ofInt (y90_6)))], [], M_90) (c_single_Q fr X u l I A B C M n x i p q) := by
            intro fu90
            induction fu90 with
            | zero =>
              intro y90_6 I_90 A_90 B_90 C_90 M_90 hR_90 ⟨ra_y90_6, rb_y90_6⟩ hi90_0 hi90_1 hn90
              exfalso
              omega
            | succ fu90 ih90 =>
              intro y90_6 I_90 A_90 B_90 C_90 M_90 hR_90 ⟨ra_y90_6, rb_y90_6⟩ hi90_0 hi90_1 hn90
              refine w_adv (n := 2) (F' := (93, [(0, .ref 39), (1, .int (Int32.ofInt (n))), (2, .int (Int32.ofInt (x))), (3, .int (Int32.ofInt ((I 2505)))), (4, .int (Int32.ofInt ((I 2502)))), (5, .int (Int32.ofInt ((I8a 2504)))), (6, .int (Int32.ofInt (y90_6)))], [.ref 39, .int (Int32.ofInt (y90_6))], M_90)) rfl ?_
              refine w_gf (v := .int (Int32.ofInt ((I_90 2502)))) hR_90 rfl rfl rfl rfl ?_
              obtain ⟨r91, r92⟩ : -2147483648 ≤ (I_90 2502) ∧ (I_90 2502) ≤ 2147483647 := hR_90.ri 2502
              refine w_br2 (a := y90_6) (b := (I_90 2502)) rfl rfl ⟨by omega, by omega⟩ ⟨by omega, by omega⟩ (fun h93 => ?_) (fun h93 => ?_)
              · have h93 : y90_6 ≥ (I_90 2502) := h93
                show w_W _ _ _ (121, [(0, .ref 39), (1, .int (Int32.ofInt (n))), (2, .int (Int32.ofInt (x))), (3, .int (Int32.ofInt ((I 2505)))), (4, .int (Int32.ofInt ((I 2502)))), (5, .int (Int32.ofInt ((I8a 2504)))), (6, .int (Int32.ofInt (y90_6)))], [], M_90) _
                refine w_adv (n := 2) (F' := (124, [(0, .ref 39), (1, .int (Int32.ofInt (n))), (2, .int (Int32.ofInt (x))), (3, .int (Int32.ofInt ((I 2505)))), (4, .int (Int32.ofInt ((I 2502)))), (5, .int (Int32.ofInt ((I8a 2504)))), (6, .int (Int32.ofInt (y90_6)))], [.int (Int32.ofInt ((I 2502))), .ref 39], M_90)) rfl ?_
                refine w_pf hR_90 rfl rfl rfl rfl (show w_in ((I 2502)) from ⟨by omega, by omega⟩) (fun h => absurd h (by decide)) (fun M94 hR95 => ?_)
                replace hR95 : w_Rep w_TC fr X u l (w_up I_90 2502 ((I 2502))) A_90 B_90 C_90 M94 := hR95
                refine w_fin (r := .inl none) (M' := M94) rfl ?_
                exact ⟨(w_up I_90 2502 ((I 2502))), A_90, B_90, C_90, rfl, hR95, (show c_bz I A (w_up I_90 2502 ((I 2502))) A_90 p q (I 2503) by exact (c_bz_up hi90_0 rfl)), (show (I_90 2503) = (I 2503) ∧ (0 ≤ (I_90 1035) ∧ (I_90 1035) ≤ 10000) ∧ (I_90 200) = (I 200) ∧ (I_90 202) = (I 202) by (repeat' apply And.intro) <;> first | assumption | omega)⟩
              · have h93 : ¬ (y90_6 ≥ (I_90 2502)) := h93
                show w_W _ _ _ (99, [(0, .ref 39), (1, .int (Int32.ofInt (n))), (2, .int (Int32.ofInt (x))), (3, .int (Int32.ofInt ((I 2505)))), (4, .int (Int32.ofInt ((I 2502)))), (5, .int (Int32.ofInt ((I8a 2504)))), (6, .int (Int32.ofInt (y90_6)))], [], M_90) _
                refine w_adv (n := 1) (F' := (100, [(0, .ref 39), (1, .int (Int32.ofInt (n))), (2, .int (Int32.ofInt (x))), (3, .int (Int32.ofInt ((I 2505)))), (4, .int (Int32.ofInt ((I 2502)))), (5, .int (Int32.ofInt ((I8a 2504)))), (6, .int (Int32.ofInt (y90_6)))], [.ref 39], M_90)) rfl ?_
                refine w_gf (v := .ref 16) hR_90 rfl rfl rfl rfl ?_
                refine w_adv (n := 1) (F' := (104, [(0, .ref 39), (1, .int (Int32.ofInt (n))), (2, .int (Int32.ofInt (x))), (3, .int (Int32.ofInt ((I 2505)))), (4, .int (Int32.ofInt ((I 2502)))), (5, .int (Int32.ofInt ((I8a 2504)))), (6, .int (Int32.ofInt (y90_6)))], [.ref 39, .ref 16], M_90)) rfl ?_
                refine w_gf (v := .ref 40) hR_90 rfl rfl rfl rfl ?_
                refine w_adv (n := 1) (F' := (109, [(0, .ref 39), (1, .int (Int32.ofInt (n))), (2, .int (Int32.ofInt (x))), (3, .int (Int32.ofInt ((I 2505)))), (4, .int (Int32.ofInt ((I 2502)))), (5, .int (Int32.ofInt ((I8a 2504)))), (6, .int (Int32.ofInt (y90_6)))], [.int (Int32.ofInt (y90_6)), .ref 40, .ref 16], M_90)) rfl ?_
                refine w_call (cm := 21) (as := [(0, .ref 40), (1, .int (Int32.ofInt (y90_6)))]) (rest := [.ref 16]) (o := none) rfl (trivial) (c_at (y90_6) 40 3107 rfl (by decide) hR_90 ⟨by omega, by omega⟩) (fun r96 M97 q98 => ?_)
                rcases q98 with ⟨v99, e100, ⟨r101, r102⟩, e103, f104⟩
                rw [e100, e103]
                replace f104 : ((0 ≤ y90_6 ∧ y90_6 < (3107 : Int) ∧ v99 = (A_90 40) (y90_6)) ∨ (¬ (0 ≤ y90_6 ∧ y90_6 < (3107 : Int)) ∧ v99 = -1)) := f104
                show w_W _ _ _ (112, [(0, .ref 39), (1, .int (Int32.ofInt (n))), (2, .int (Int32.ofInt (x))), (3, .int (Int32.ofInt ((I 2505)))), (4, .int (Int32.ofInt ((I 2502)))), (5, .int (Int32.ofInt ((I8a 2504)))), (6, .int (Int32.ofInt (y90_6)))], [.int (Int32.ofInt (v99)), .ref 16], M_90) _
                refine w_call (cm := 164) (as := [(0, .ref 16), (1, .int (Int32.ofInt (v99)))]) (rest := []) (o := some (2, 16)) rfl (w_fitR hR_90 rfl) (c_kad (v99) hR_90 (show 1 ≤ d by omega) ⟨by omega, by omega⟩ (show 0 ≤ (I_90 1035) ∧ (I_90 1035) ≤ 10000 by (repeat' apply And.intro) <;> first | assumption | omega) (show 0 ≤ (I_90 2503) by omega)) (fun r105 M106 q107 => ?_)
                rcases q107 with ⟨I107a, A107a, B107a, C107a, e108, hR107a, f109, f110, f111⟩
                rw [e108]
                replace hR107a : w_Rep w_TC fr X u l I107a A107a B107a C107a M106 := hR107a
                replace f109 : c_bz I_90 A_90 I107a A107a 0 0 (I_90 2503) := f109
                replace f110 : (I107a 2503) = (I_90 2503) ∧ (0 ≤ (I107a 1035) ∧ (I107a 1035) ≤ 10000) ∧ (I107a 200) = (I_90 200) ∧ (I107a 202) = (I_90 202) := f110
                obtain ⟨n112, ⟨n113, n114⟩, n115, n116⟩ := id f110
                clear f110
                replace f111 : (I107a 2502) = (I_90 2502) := f111
                have bx117 : c_bz I A I107a A107a p q (I 2503) := c_bz_trans (show c_bz I A I_90 A_90 p q (I 2503) from hi90_0) f109 (Int.le_refl _) (Int.le_refl _) (show p ≤ 0 ∨ 0 ≤ 0 by omega) (show 0 ≤ q ∨ 0 ≤ 0 by omega) (Int.le_refl _) (show (I 2503) ≤ (I_90 2503) by omega)
                show w_W _ _ _ (115, [(0, .ref 39), (1, .int (Int32.ofInt (n))), (2, .int (Int32.ofInt (x))), (3, .int (Int32.ofInt ((I 2505)))), (4, .int (Int32.ofInt ((I 2502)))), (5, .int (Int32.ofInt ((I8a 2504)))), (6, .int (Int32.ofInt (y90_6)))], [], M106) _
                refine w_inc (nL := 7) (a := y90_6) rfl rfl rfl (by decide) ?_
                refine w_adv (n := 1) (F' := (90, [(6, .int (Int32.ofInt (y90_6 + 1))), (0, .ref 39), (1, .int (Int32.ofInt (n))), (2, .int (Int32.ofInt (x))), (3, .int (Int32.ofInt ((I 2505)))), (4, .int (Int32.ofInt ((I 2502)))), (5, .int (Int32.ofInt ((I8a 2504))))], [], M106)) rfl ?_
                refine w_ls (ls := [(0, .ref 39), (1, .int (Int32.ofInt (n))), (2, .int (Int32.ofInt (x))), (3, .int (Int32.ofInt ((I 2505)))), (4, .int (Int32.ofInt ((I 2502)))), (5, .int (Int32.ofInt ((I8a 2504)))), (6, .int (Int32.ofInt (y90_6 + 1)))]) (show List.Nodup [0, 1, 2, 3, 4, 5, 6] by decide) (show List.Nodup [6, 0, 1, 2, 3, 4, 5] by decide) (List.forall_mem_cons.mpr ⟨(List.Mem.tail _ (List.Mem.head _)), (List.forall_mem_cons.mpr ⟨(List.Mem.tail _ (List.Mem.tail _ (List.Mem.head _))), (List.forall_mem_cons.mpr ⟨(List.Mem.tail _ (List.Mem.tail _ (List.Mem.tail _ (List.Mem.head _)))), (List.forall_mem_cons.mpr ⟨(List.Mem.tail _ (List.Mem.tail _ (List.Mem.tail _ (List.Mem.tail _ (List.Mem.head _))))), (List.forall_mem_cons.mpr ⟨(List.Mem.tail _ (List.Mem.tail _ (List.Mem.tail _ (List.Mem.tail _ (List.Mem.tail _ (List.Mem.head _)))))), (List.forall_mem_cons.mpr ⟨(List.Mem.tail _ (List.Mem.tail _ (List.Mem.tail _ (List.Mem.tail _ (List.Mem.tail _ (List.Mem.tail _ (List.Mem.head _))))))), (List.forall_mem_cons.mpr ⟨(List.Mem.head _), (fun _ h => by cases h)⟩)⟩)⟩)⟩)⟩)⟩)⟩) ?_
                exact ih90  (y90_6 + 1) I107a A107a B107a C107a M106 hR107a ⟨by omega, by omega⟩ (show c_bz I A I107a A107a p q (I 2503) by exact bx117) (show (I107a 2503) = (I 2503) ∧ (0 ≤ (I107a 1035) ∧ (I107a 1035) ≤ 10000) ∧ (I107a 200) = (I 200) ∧ (I107a 202) = (I 202) by (repeat' apply And.intro) <;> first | assumption | omega) (show (if (y90_6 + 1) < (I107a 2502) then (I107a 2502) - (y90_6 + 1) else 0) < (fu90 : Int) by omega)
          refine w_ls (ls := [(0, .ref 39), (1, .int (Int32.ofInt (n))), (2, .int (Int32.ofInt (x))), (3, .int (Int32.ofInt ((I 2505)))), (4, .int (Int32.ofInt ((I 2502)))), (5, .int (Int32.ofInt ((I8a 2504)))), (6, .int (Int32.ofInt ((I 2502))))]) (show List.Nodup [0, 1, 2, 3, 4, 5, 6] by decide) (show List.Nodup [6, 5, 4, 3, 0, 1, 2] by decide) (List.forall_mem_cons.mpr ⟨(List.Mem.tail _ (List.Mem.tail _ (List.Mem.tail _ (List.Mem.tail _ (List.Mem.head _))))), (List.forall_mem_cons.mpr ⟨(List.Mem.tail _ (List.Mem.tail _ (List.Mem.tail _ (List.Mem.tail _ (List.Mem.tail _ (List.Mem.head _)))))), (List.forall_mem_cons.mpr ⟨(List.Mem.tail _ (List.Mem.tail _ (List.Mem.tail _ (List.Mem.tail _ (List.Mem.tail _ (List.Mem.tail _ (List.Mem.head _))))))), (List.forall_mem_cons.mpr ⟨(List.Mem.tail _ (List.Mem.tail _ (List.Mem.tail _ (List.Mem.head _)))), (List.forall_mem_cons.mpr ⟨(List.Mem.tail _ (List.Mem.tail _ (List.Mem.head _))), (List.forall_mem_cons.mpr ⟨(List.Mem.tail _ (List.Mem.head _)), (List.forall_mem_cons.mpr ⟨(List.Mem.head _), (fun _ h => by cases h)⟩)⟩)⟩)⟩)⟩)⟩)⟩) ?_
          exact lp90 (((if (I 2502) < (I81a 2502) then (I81a 2502) - (I 2502) else 0) : Int).toNat + 1)  ((I 2502)) I81a A81a B81a C81a M80 hR81a ⟨by omega, by omega⟩ (show c_bz I A I81a A81a p q (I 2503) by exact bx90) (show (I81a 2503) = (I 2503) ∧ (0 ≤ (I81a 1035) ∧ (I81a 1035) ≤ 10000) ∧ (I81a 200) = (I 200) ∧ (I81a 202) = (I 202) by (repeat' apply And.intro) <;> first | assumption | omega) (show (if (I 2502) < (I81a 2502) then (I81a 2502) - (I 2502) else 0) < ((((if (I 2502) < (I81a 2502) then (I81a 2502) - (I 2502) else 0) : Int).toNat + 1 : Nat) : Int) by omega)
    · have h20 : ¬ (¬ (I8a 2502) = (I 2502)) := h20
      show w_W _ _ _ (39, [(4, .int (Int32.ofInt ((I 2502)))), (3, .int (Int32.ofInt ((I 2505)))), (0, .ref 39), (1, .int (Int32.ofInt (n))), (2, .int (Int32.ofInt (x)))], [], M7) _
      refine w_fin (r := .inl none) (M' := M7) rfl ?_
      exact ⟨I8a, A8a, B8a, C8a, rfl, hR8a, (show c_bz I A I8a A8a p q (I 2503) by exact bx17), (show (I8a 2503) = (I 2503) ∧ (0 ≤ (I8a 1035) ∧ (I8a 1035) ≤ 10000) ∧ (I8a 200) = (I 200) ∧ (I8a 202) = (I 202) by (repeat' apply And.intro) <;> first | assumption | omega)⟩
  · have h5 : ¬ (¬ x = (-1)) := h5
    show w_W _ _ _ (16, [(4, .int (Int32.ofInt ((I 2502)))), (3, .int (Int32.ofInt ((I 2505)))), (0, .ref 39), (1, .int (Int32.ofInt (n))), (2, .int (Int32.ofInt (x)))], [], M) _
    refine w_adv (n := 2) (F' := (18, [(4, .int (Int32.ofInt ((I 2502)))), (3, .int (Int32.ofInt ((I 2505)))), (0, .ref 39), (1, .int (Int32.ofInt (n))), (2, .int (Int32.ofInt (x)))], [.int (Int32.ofInt (n)), .ref 39], M)) rfl ?_
    refine w_call (cm := 147) (as := [(0, .ref 39), (1, .int (Int32.ofInt (n)))]) (rest := []) (o := some (1, 39)) rfl (w_fitR hR rfl) (c_plainItem (c_BALL_dn hB0) (n) (i) (p) (q) hR (show 8 * i + 5 ≤ d by omega) ⟨by omega, by omega⟩ (show 0 ≤ (I 1035) ∧ (I 1035) ≤ 10000 by (repeat' apply And.intro) <;> first | assumption | omega) (show c_ks A by exact (show c_bz I A I A p q (I 2503) from c_bz_refl).2.2.2.2 hKS) (show 36 ≤ (I 200) ∧ (I 200) ≤ 419 ∧ 0 ≤ (I 202) ∧ (I 202) ≤ 24 by (repeat' apply And.intro) <;> first | assumption | omega) (show ∀ i, (A 5) i ≤ 24 by rw [show (A 5) = (A 5) from (show c_bz I A I A p q (I 2503) from c_bz_refl).2.1 5 rfl]; exact hLN) (show 0 ≤ (I 2503) by omega) (show (I 2503) + 7000 * (i : Int) ≤ 1000000 by first | assumption | omega) (show c_W A i n p q by exact hW) (show 0 ≤ p ∧ q ≤ 3001 by first | assumption | omega)) (fun r118 M119 q120 => ?_)
    rcases q120 with ⟨I120a, A120a, B120a, C120a, e121, hR120a, f122, f123⟩
    rw [e121]
    replace hR120a : w_Rep w_TC fr X u l I120a A120a B120a C120a M119 := hR120a
    replace f122 : c_bz I A I120a A120a p q (I 2503) := f122
    replace f123 : (I120a 2503) = (I 2503) ∧ (0 ≤ (I120a 1035) ∧ (I120a 1035) ≤ 10000) ∧ (I120a 200) = (I 200) ∧ (I120a 202) = (I 202) := f123
    obtain ⟨n124, ⟨n125, n126⟩, n127, n128⟩ := id f123
    clear f123
    have bx129 : c_bz I A I120a A120a p q (I 2503) := c_bz_trans (show c_bz I A I A p q (I 2503) from c_bz_refl) f122 (Int.le_refl _) (Int.le_refl _) (show p ≤ p ∨ q ≤ p by omega) (show q ≤ q ∨ q ≤ p by omega) (Int.le_refl _) (show (I 2503) ≤ (I 2503) by omega)
    show w_W _ _ _ (21, [(4, .int (Int32.ofInt ((I 2502)))), (3, .int (Int32.ofInt ((I 2505)))), (0, .ref 39), (1, .int (Int32.ofInt (n))), (2, .int (Int32.ofInt (x)))], [], M119) _
    refine w_adv (n := 2) (F' := (31, [(4, .int (Int32.ofInt ((I 2502)))), (3, .int (Int32.ofInt ((I 2505)))), (0, .ref 39), (1, .int (Int32.ofInt (n))), (2, .int (Int32.ofInt (x)))], [.ref 39], M119)) rfl ?_
    refine w_gf (v := .int (Int32.ofInt ((I120a 2502)))) hR120a rfl rfl rfl rfl ?_
    obtain ⟨r130, r131⟩ : -2147483648 ≤ (I120a 2502) ∧ (I120a 2502) ≤ 2147483647 := hR120a.ri 2502
    refine w_adv (n := 1) (F' := (36, [(4, .int (Int32.ofInt ((I 2502)))), (3, .int (Int32.ofInt ((I 2505)))), (0, .ref 39), (1, .int (Int32.ofInt (n))), (2, .int (Int32.ofInt (x)))], [.int (Int32.ofInt ((I 2502))), .int (Int32.ofInt ((I120a 2502)))], M119)) rfl ?_
    refine w_br2 (a := (I120a 2502)) (b := (I 2502)) rfl rfl ⟨by omega, by omega⟩ ⟨by omega, by omega⟩ (fun h132 => ?_) (fun h132 => ?_)
    · have h132 : ¬ (I120a 2502) = (I 2502) := h132
      show w_W _ _ _ (40, [(4, .int (Int32.ofInt ((I 2502)))), (3, .int (Int32.ofInt ((I 2505)))), (0, .ref 39), (1, .int (Int32.ofInt (n))), (2, .int (Int32.ofInt (x)))], [], M119) _
      refine w_adv (n := 2) (F' := (42, [(4, .int (Int32.ofInt ((I 2502)))), (3, .int (Int32.ofInt ((I 2505)))), (0, .ref 39), (1, .int (Int32.ofInt (n))), (2, .int (Int32.ofInt (x)))], [.int (Int32.ofInt ((-1))), .int (Int32.ofInt ((I 2505)))], M119)) rfl ?_
      refine w_br2 (a := (I 2505)) (b := (-1)) rfl rfl ⟨by omega, by omega⟩ ⟨by omega, by omega⟩ (fun h133 => ?_) (fun h133 => ?_)
      · have h133 : ¬ (I 2505) = (-1) := h133
        show w_W _ _ _ (52, [(4, .int (Int32.ofInt ((I 2502)))), (3, .int (Int32.ofInt ((I 2505)))), (0, .ref 39), (1, .int (Int32.ofInt (n))), (2, .int (Int32.ofInt (x)))], [], M119) _
        refine w_adv (n := 1) (F' := (53, [(4, .int (Int32.ofInt ((I 2502)))), (3, .int (Int32.ofInt ((I 2505)))), (0, .ref 39), (1, .int (Int32.ofInt (n))), (2, .int (Int32.ofInt (x)))], [.ref 39], M119)) rfl ?_
        refine w_gf (v := .ref 16) hR120a rfl rfl rfl rfl ?_
        refine w_adv (n := 1) (F' := (57, [(4, .int (Int32.ofInt ((I 2502)))), (3, .int (Int32.ofInt ((I 2505)))), (0, .ref 39), (1, .int (Int32.ofInt (n))), (2, .int (Int32.ofInt (x)))], [.int (Int32.ofInt ((I 2505))), .ref 16], M119)) rfl ?_
        refine w_call (cm := 190) (as := [(0, .ref 16), (1, .int (Int32.ofInt ((I 2505))))]) (rest := []) (o := some (2, 16)) rfl (w_fitR hR120a rfl) (c_Kernel_next ((I 2505)) hR120a (show 2 ≤ d by omega) ⟨by omega, by omega⟩) (fun r134 M135 q136 => ?_)
        rcases q136 with ⟨v137, e138, ⟨r139, r140⟩, e141⟩
        rw [e138, e141]
        show w_W _ _ _ (60, [(4, .int (Int32.ofInt ((I 2502)))), (3, .int (Int32.ofInt ((I 2505)))), (0, .ref 39), (1, .int (Int32.ofInt (n))), (2, .int (Int32.ofInt (x)))], [.int (Int32.ofInt (v137))], M119) _
        refine w_adv (n := 3) (F' := (64, [(5, .int (Int32.ofInt (v137))), (4, .int (Int32.ofInt ((I 2502)))), (3, .int (Int32.ofInt ((I 2505)))), (0, .ref 39), (1, .int (Int32.ofInt (n))), (2, .int (Int32.ofInt (x)))], [.int (Int32.ofInt ((I 2505))), .ref 39], M119)) rfl ?_
        refine w_pf hR120a rfl rfl rfl rfl (show w_in ((I 2505)) from ⟨by omega, by omega⟩) (fun h => absurd h (by decide)) (fun M142 hR143 => ?_)
        replace hR143 : w_Rep w_TC fr X u l (w_up I120a 2505 ((I 2505))) A120a B120a C120a M142 := hR143
        refine w_adv (n := 2) (F' := (69, [(5, .int (Int32.ofInt (v137))), (4, .int (Int32.ofInt ((I 2502)))), (3, .int (Int32.ofInt ((I 2505)))), (0, .ref 39), (1, .int (Int32.ofInt (n))), (2, .int (Int32.ofInt (x)))], [.int (Int32.ofInt ((-1))), .int (Int32.ofInt ((I 2505)))], M142)) rfl ?_
        refine w_br2 (a := (I 2505)) (b := (-1)) rfl rfl ⟨by omega, by omega⟩ ⟨by omega, by omega⟩ (fun h144 => ?_) (fun h144 => ?_)
        · have h144 : ¬ (I 2505) = (-1) := h144
          show w_W _ _ _ (77, [(5, .int (Int32.ofInt (v137))), (4, .int (Int32.ofInt ((I 2502)))), (3, .int (Int32.ofInt ((I 2505)))), (0, .ref 39), (1, .int (Int32.ofInt (n))), (2, .int (Int32.ofInt (x)))], [], M142) _
          refine w_adv (n := 5) (F' := (83, [(5, .int (Int32.ofInt (v137))), (4, .int (Int32.ofInt ((I 2502)))), (3, .int (Int32.ofInt ((I 2505)))), (0, .ref 39), (1, .int (Int32.ofInt (n))), (2, .int (Int32.ofInt (x)))], [.int (Int32.ofInt ((-1))), .int (Int32.ofInt (v137)), .int (Int32.ofInt ((-1))), .int (Int32.ofInt (2)), .ref 39], M142)) rfl ?_
          refine w_call (cm := 148) (as := [(0, .ref 39), (1, .int (Int32.ofInt (2))), (2, .int (Int32.ofInt ((-1)))), (3, .int (Int32.ofInt (v137))), (4, .int (Int32.ofInt ((-1))))]) (rest := []) (o := some (1, 39)) rfl (w_fitR hR143 rfl) (c_emit (2) ((-1)) (v137) ((-1)) hR143 (show 4 ≤ d by omega) ⟨by omega, by omega⟩ ⟨by omega, by omega⟩ ⟨by omega, by omega⟩ ⟨by omega, by omega⟩ (show 0 ≤ (I120a 1035) ∧ (I120a 1035) ≤ 10000 by (repeat' apply And.intro) <;> first | assumption | omega) (show 0 ≤ (I120a 2503) by omega)) (fun r145 M146 q147 => ?_)
          rcases q147 with ⟨I147a, A147a, B147a, C147a, e148, hR147a, f149, f150⟩
          rw [e148]
          replace hR147a : w_Rep w_TC fr X u l I147a A147a B147a C147a M146 := hR147a
          replace f149 : c_bz (w_up I120a 2505 ((I 2505))) A120a I147a A147a 0 0 (I120a 2503) := f149
          replace f150 : (I147a 2503) = (I120a 2503) ∧ (0 ≤ (I147a 1035) ∧ (I147a 1035) ≤ 10000) ∧ (I147a 200) = (I120a 200) ∧ (I147a 202) = (I120a 202) := f150
          obtain ⟨n151, ⟨n152, n153⟩, n154, n155⟩ := id f150
          clear f150
          have bx156 : c_bz I A I147a A147a p q (I 2503) := c_bz_trans (show c_bz I A (w_up I120a 2505 ((I 2505))) A120a p q (I 2503) from (c_bz_up bx129 rfl)) f149 (Int.le_refl _) (Int.le_refl _) (show p ≤ 0 ∨ 0 ≤ 0 by omega) (show 0 ≤ q ∨ 0 ≤ 0 by omega) (Int.le_refl _) (show (I 2503) ≤ (I120a 2503) by omega)
          show w_W _ _ _ (86, [(5, .int (Int32.ofInt (v137))), (4, .int (Int32.ofInt ((I 2502)))), (3, .int (Int32.ofInt ((I 2505)))), (0, .ref 39), (1, .int (Int32.ofInt (n))), (2, .int (Int32.ofInt (x)))], [], M146) _
          refine w_adv (n := 2) (F' := (90, [(6, .int (Int32.ofInt ((I 2502)))), (5, .int (Int32.ofInt (v137))), (4, .int (Int32.ofInt ((I 2502)))), (3, .int (Int32.ofInt ((I 2505)))), (0, .ref 39), (1, .int (Int32.ofInt (n))), (2, .int (Int32.ofInt (x)))], [], M146)) rfl ?_
          have lp90 : ∀ fu90 : Nat, ∀ (y90_6 : Int) (I_90 : Nat → Int) (A_90 : Nat → Int → Int) (B_90 C_90 : Nat → Nat) (M_90 : w_M) (hR_90 : w_Rep w_TC fr X u l I_90 A_90 B_90 C_90 M_90), w_in y90_6 → c_bz I A I_90 A_90 p q (I 2503) → (I_90 2503) = (I 2503) ∧ (0 ≤ (I_90 1035) ∧ (I_90 1035) ≤ 10000) ∧ (I_90 200) = (I 200) ∧ (I_90 202) = (I 202) → (if y90_6 < (I_90 2502) then (I_90 2502) - y90_6 else 0) < (fu90 : Int) → w_W (z_P L xs) (d + 1) 146 (90, [(0, .ref 39), (1, .int (Int32.ofInt (n))), (2, .int (Int32.ofInt (x))), (3, .int (Int32.ofInt ((I 2505)))), (4, .int (Int32.ofInt ((I 2502)))), (5, .int (Int32.ofInt (v137))), (6, .int (Int32.ofInt (y90_6)))], [], M_90) (c_single_Q fr X u l I A B C M n x i p q) := by
            intro fu90
            induction fu90 with
            | zero =>
              intro y90_6 I_90 A_90 B_90 C_90 M_90 hR_90 ⟨ra_y90_6, rb_y90_6⟩ hi90_0 hi90_1 hn90
              exfalso
              omega
            | succ fu90 ih90 =>
              intro y90_6 I_90 A_90 B_90 C_90 M_90 hR_90 ⟨ra_y90_6, rb_y90_6⟩ hi90_0 hi90_1 hn90
              refine w_adv (n := 2) (F' := (93, [(0, .ref 39), (1, .int (Int32.ofInt (n))), (2, .int (Int32.ofInt (x))), (3, .int (Int32.ofInt ((I 2505)))), (4, .int (Int32.ofInt ((I 2502)))), (5, .int (Int32.ofInt (v137))), (6, .int (Int32.ofInt (y90_6)))], [.ref 39, .int (Int32.ofInt (y90_6))], M_90)) rfl ?_
              refine w_gf (v := .int (Int32.ofInt ((I_90 2502)))) hR_90 rfl rfl rfl rfl ?_
              obtain ⟨r157, r158⟩ : -2147483648 ≤ (I_90 2502) ∧ (I_90 2502) ≤ 2147483647 := hR_90.ri 2502
              refine w_br2 (a := y90_6) (b := (I_90 2502)) rfl rfl ⟨by omega, by omega⟩ ⟨by omega, by omega⟩ (fun h159 => ?_) (fun h159 => ?_)
              · have h159 : y90_6 ≥ (I_90 2502) := h159
                show w_W _ _ _ (121, [(0, .ref 39), (1, .int (Int32.ofInt (n))), (2, .int (Int32.ofInt (x))), (3, .int (Int32.ofInt ((I 2505)))), (4, .int (Int32.ofInt ((I 2502)))), (5, .int (Int32.ofInt (v137))), (6, .int (Int32.ofInt (y90_6)))], [], M_90) _
                refine w_adv (n := 2) (F' := (124, [(0, .ref 39), (1, .int (Int32.ofInt (n))), (2, .int (Int32.ofInt (x))), (3, .int (Int32.ofInt ((I 2505)))), (4, .int (Int32.ofInt ((I 2502)))), (5, .int (Int32.ofInt (v137))), (6, .int (Int32.ofInt (y90_6)))], [.int (Int32.ofInt ((I 2502))), .ref 39], M_90)) rfl ?_
                refine w_pf hR_90 rfl rfl rfl rfl (show w_in ((I 2502)) from ⟨by omega, by omega⟩) (fun h => absurd h (by decide)) (fun M160 hR161 => ?_)
                replace hR161 : w_Rep w_TC fr X u l (w_up I_90 2502 ((I 2502))) A_90 B_90 C_90 M160 := hR161
                refine w_fin (r := .inl none) (M' := M160) rfl ?_
                exact ⟨(w_up I_90 2502 ((I 2502))), A_90, B_90, C_90, rfl, hR161, (show c_bz I A (w_up I_90 2502 ((I 2502))) A_90 p q (I 2503) by exact (c_bz_up hi90_0 rfl)), (show (I_90 2503) = (I 2503) ∧ (0 ≤ (I_90 1035) ∧ (I_90 1035) ≤ 10000) ∧ (I_90 200) = (I 200) ∧ (I_90 202) = (I 202) by (repeat' apply And.intro) <;> first | assumption | omega)⟩
              · have h159 : ¬ (y90_6 ≥ (I_90 2502)) := h159
                show w_W _ _ _ (99, [(0, .ref 39), (1, .int (Int32.ofInt (n))), (2, .int (Int32.ofInt (x))), (3, .int (Int32.ofInt ((I 2505)))), (4, .int (Int32.ofInt ((I 2502)))), (5, .int (Int32.ofInt (v137))), (6, .int (Int32.ofInt (y90_6)))], [], M_90) _
                refine w_adv (n := 1) (F' := (100, [(0, .ref 39), (1, .int (Int32.ofInt (n))), (2, .int (Int32.ofInt (x))), (3, .int (Int32.ofInt ((I 2505)))), (4, .int (Int32.ofInt ((I 2502)))), (5, .int (Int32.ofInt (v137))), (6, .int (Int32.ofInt (y90_6)))], [.ref 39], M_90)) rfl ?_
                refine w_gf (v := .ref 16) hR_90 rfl rfl rfl rfl ?_
                refine w_adv (n := 1) (F' := (104, [(0, .ref 39), (1, .int (Int32.ofInt (n))), (2, .int (Int32.ofInt (x))), (3, .int (Int32.ofInt ((I 2505)))), (4, .int (Int32.ofInt ((I 2502)))), (5, .int (Int32.ofInt (v137))), (6, .int (Int32.ofInt (y90_6)))], [.ref 39, .ref 16], M_90)) rfl ?_
                refine w_gf (v := .ref 40) hR_90 rfl rfl rfl rfl ?_
                refine w_adv (n := 1) (F' := (109, [(0, .ref 39), (1, .int (Int32.ofInt (n))), (2, .int (Int32.ofInt (x))), (3, .int (Int32.ofInt ((I 2505)))), (4, .int (Int32.ofInt ((I 2502)))), (5, .int (Int32.ofInt (v137))), (6, .int (Int32.ofInt (y90_6)))], [.int (Int32.ofInt (y90_6)), .ref 40, .ref 16], M_90)) rfl ?_
                refine w_call (cm := 21) (as := [(0, .ref 40), (1, .int (Int32.ofInt (y90_6)))]) (rest := [.ref 16]) (o := none) rfl (trivial) (c_at (y90_6) 40 3107 rfl (by decide) hR_90 ⟨by omega, by omega⟩) (fun r162 M163 q164 => ?_)
                rcases q164 with ⟨v165, e166, ⟨r167, r168⟩, e169, f170⟩
                rw [e166, e169]
                replace f170 : ((0 ≤ y90_6 ∧ y90_6 < (3107 : Int) ∧ v165 = (A_90 40) (y90_6)) ∨ (¬ (0 ≤ y90_6 ∧ y90_6 < (3107 : Int)) ∧ v165 = -1)) := f170
                show w_W _ _ _ (112, [(0, .ref 39), (1, .int (Int32.ofInt (n))), (2, .int (Int32.ofInt (x))), (3, .int (Int32.ofInt ((I 2505)))), (4, .int (Int32.ofInt ((I 2502)))), (5, .int (Int32.ofInt (v137))), (6, .int (Int32.ofInt (y90_6)))], [.int (Int32.ofInt (v165)), .ref 16], M_90) _
                refine w_call (cm := 164) (as := [(0, .ref 16), (1, .int (Int32.ofInt (v165)))]) (rest := []) (o := some (2, 16)) rfl (w_fitR hR_90 rfl) (c_kad (v165) hR_90 (show 1 ≤ d by omega) ⟨by omega, by omega⟩ (show 0 ≤ (I_90 1035) ∧ (I_90 1035) ≤ 10000 by (repeat' apply And.intro) <;> first | assumption | omega) (show 0 ≤ (I_90 2503) by omega)) (fun r171 M172 q173 => ?_)
                rcases q173 with ⟨I173a, A173a, B173a, C173a, e174, hR173a, f175, f176, f177⟩
                rw [e174]
                replace hR173a : w_Rep w_TC fr X u l I173a A173a B173a C173a M172 := hR173a
                replace f175 : c_bz I_90 A_90 I173a A173a 0 0 (I_90 2503) := f175
                replace f176 : (I173a 2503) = (I_90 2503) ∧ (0 ≤ (I173a 1035) ∧ (I173a 1035) ≤ 10000) ∧ (I173a 200) = (I_90 200) ∧ (I173a 202) = (I_90 202) := f176
                obtain ⟨n178, ⟨n179, n180⟩, n181, n182⟩ := id f176
                clear f176
                replace f177 : (I173a 2502) = (I_90 2502) := f177
                have bx183 : c_bz I A I173a A173a p q (I 2503) := c_bz_trans (show c_bz I A I_90 A_90 p q (I 2503) from hi90_0) f175 (Int.le_refl _) (Int.le_refl _) (show p ≤ 0 ∨ 0 ≤ 0 by omega) (show 0 ≤ q ∨ 0 ≤ 0 by omega) (Int.le_refl _) (show (I 2503) ≤ (I_90 2503) by omega)
                show w_W _ _ _ (115, [(0, .ref 39), (1, .int (Int32.ofInt (n))), (2, .int (Int32.ofInt (x))), (3, .int (Int32.ofInt ((I 2505)))), (4, .int (Int32.ofInt ((I 2502)))), (5, .int (Int32.ofInt (v137))), (6, .int (Int32.ofInt (y90_6)))], [], M172) _
                refine w_inc (nL := 7) (a := y90_6) rfl rfl rfl (by decide) ?_
                refine w_adv (n := 1) (F' := (90, [(6, .int (Int32.ofInt (y90_6 + 1))), (0, .ref 39), (1, .int (Int32.ofInt (n))), (2, .int (Int32.ofInt (x))), (3, .int (Int32.ofInt ((I 2505)))), (4, .int (Int32.ofInt ((I 2502)))), (5, .int (Int32.ofInt (v137)))], [], M172)) rfl ?_
                refine w_ls (ls := [(0, .ref 39), (1, .int (Int32.ofInt (n))), (2, .int (Int32.ofInt (x))), (3, .int (Int32.ofInt ((I 2505)))), (4, .int (Int32.ofInt ((I 2502)))), (5, .int (Int32.ofInt (v137))), (6, .int (Int32.ofInt (y90_6 + 1)))]) (show List.Nodup [0, 1, 2, 3, 4, 5, 6] by decide) (show List.Nodup [6, 0, 1, 2, 3, 4, 5] by decide) (List.forall_mem_cons.mpr ⟨(List.Mem.tail _ (List.Mem.head _)), (List.forall_mem_cons.mpr ⟨(List.Mem.tail _ (List.Mem.tail _ (List.Mem.head _))), (List.forall_mem_cons.mpr ⟨(List.Mem.tail _ (List.Mem.tail _ (List.Mem.tail _ (List.Mem.head _)))), (List.forall_mem_cons.mpr ⟨(List.Mem.tail _ (List.Mem.tail _ (List.Mem.tail _ (List.Mem.tail _ (List.Mem.head _))))), (List.forall_mem_cons.mpr ⟨(List.Mem.tail _ (List.Mem.tail _ (List.Mem.tail _ (List.Mem.tail _ (List.Mem.tail _ (List.Mem.head _)))))), (List.forall_mem_cons.mpr ⟨(List.Mem.tail _ (List.Mem.tail _ (List.Mem.tail _ (List.Mem.tail _ (List.Mem.tail _ (List.Mem.tail _ (List.Mem.head _))))))), (List.forall_mem_cons.mpr ⟨(List.Mem.head _), (fun _ h => by cases h)⟩)⟩)⟩)⟩)⟩)⟩)⟩) ?_
                exact ih90  (y90_6 + 1) I173a A173a B173a C173a M172 hR173a ⟨by omega, by omega⟩ (show c_bz I A I173a A173a p q (I 2503) by exact bx183) (show (I173a 2503) = (I 2503) ∧ (0 ≤ (I173a 1035) ∧ (I173a 1035) ≤ 10000) ∧ (I173a 200) = (I 200) ∧ (I173a 202) = (I 202) by (repeat' apply And.intro) <;> first | assumption | omega) (show (if (y90_6 + 1) < (I173a 2502) then (I173a 2502) - (y90_6 + 1) else 0) < (fu90 : Int) by omega)
          refine w_ls (ls := [(0, .ref 39), (1, .int (Int32.ofInt (n))), (2, .int (Int32.ofInt (x))), (3, .int (Int32.ofInt ((I 2505)))), (4, .int (Int32.ofInt ((I 2502)))), (5, .int (Int32.ofInt (v137))), (6, .int (Int32.ofInt ((I 2502))))]) (show List.Nodup [0, 1, 2, 3, 4, 5, 6] by decide) (show List.Nodup [6, 5, 4, 3, 0, 1, 2] by decide) (List.forall_mem_cons.mpr ⟨(List.Mem.tail _ (List.Mem.tail _ (List.Mem.tail _ (List.Mem.tail _ (List.Mem.head _))))), (List.forall_mem_cons.mpr ⟨(List.Mem.tail _ (List.Mem.tail _ (List.Mem.tail _ (List.Mem.tail _ (List.Mem.tail _ (List.Mem.head _)))))), (List.forall_mem_cons.mpr ⟨(List.Mem.tail _ (List.Mem.tail _ (List.Mem.tail _ (List.Mem.tail _ (List.Mem.tail _ (List.Mem.tail _ (List.Mem.head _))))))), (List.forall_mem_cons.mpr ⟨(List.Mem.tail _ (List.Mem.tail _ (List.Mem.tail _ (List.Mem.head _)))), (List.forall_mem_cons.mpr ⟨(List.Mem.tail _ (List.Mem.tail _ (List.Mem.head _))), (List.forall_mem_cons.mpr ⟨(List.Mem.tail _ (List.Mem.head _)), (List.forall_mem_cons.mpr ⟨(List.Mem.head _), (fun _ h => by cases h)⟩)⟩)⟩)⟩)⟩)⟩)⟩) ?_
          exact lp90 (((if (I 2502) < (I147a 2502) then (I147a 2502) - (I 2502) else 0) : Int).toNat + 1)  ((I 2502)) I147a A147a B147a C147a M146 hR147a ⟨by omega, by omega⟩ (show c_bz I A I147a A147a p q (I 2503) by exact bx156) (show (I147a 2503) = (I 2503) ∧ (0 ≤ (I147a 1035) ∧ (I147a 1035) ≤ 10000) ∧ (I147a 200) = (I 200) ∧ (I147a 202) = (I 202) by (repeat' apply And.intro) <;> first | assumption | omega) (show (if (I 2502) < (I147a 2502) then (I147a 2502) - (I 2502) else 0) < ((((if (I 2502) < (I147a 2502) then (I147a 2502) - (I 2502) else 0) : Int).toNat + 1 : Nat) : Int) by omega)
        · have h144 : ¬ (¬ (I 2505) = (-1)) := h144
          exfalso; omega
      · have h133 : ¬ (¬ (I 2505) = (-1)) := h133
        show w_W _ _ _ (45, [(4, .int (Int32.ofInt ((I 2502)))), (3, .int (Int32.ofInt ((I 2505)))), (0, .ref 39), (1, .int (Int32.ofInt (n))), (2, .int (Int32.ofInt (x)))], [], M119) _
        refine w_adv (n := 1) (F' := (46, [(4, .int (Int32.ofInt ((I 2502)))), (3, .int (Int32.ofInt ((I 2505)))), (0, .ref 39), (1, .int (Int32.ofInt (n))), (2, .int (Int32.ofInt (x)))], [.ref 39], M119)) rfl ?_
        refine w_gf (v := .int (Int32.ofInt ((I120a 2504)))) hR120a rfl rfl rfl rfl ?_
        obtain ⟨r184, r185⟩ : -2147483648 ≤ (I120a 2504) ∧ (I120a 2504) ≤ 2147483647 := hR120a.ri 2504
        refine w_adv (n := 4) (F' := (64, [(5, .int (Int32.ofInt ((I120a 2504)))), (4, .int (Int32.ofInt ((I 2502)))), (3, .int (Int32.ofInt ((I 2505)))), (0, .ref 39), (1, .int (Int32.ofInt (n))), (2, .int (Int32.ofInt (x)))], [.int (Int32.ofInt ((I 2505))), .ref 39], M119)) rfl ?_
        refine w_pf hR120a rfl rfl rfl rfl (show w_in ((I 2505)) from ⟨by omega, by omega⟩) (fun h => absurd h (by decide)) (fun M186 hR187 => ?_)
        replace hR187 : w_Rep w_TC fr X u l (w_up I120a 2505 ((I 2505))) A120a B120a C120a M186 := hR187
        refine w_adv (n := 2) (F' := (69, [(5, .int (Int32.ofInt ((I120a 2504)))), (4, .int (Int32.ofInt ((I 2502)))), (3, .int (Int32.ofInt ((I 2505)))), (0, .ref 39), (1, .int (Int32.ofInt (n))), (2, .int (Int32.ofInt (x)))], [.int (Int32.ofInt ((-1))), .int (Int32.ofInt ((I 2505)))], M186)) rfl ?_
        refine w_br2 (a := (I 2505)) (b := (-1)) rfl rfl ⟨by omega, by omega⟩ ⟨by omega, by omega⟩ (fun h188 => ?_) (fun h188 => ?_)
        · have h188 : ¬ (I 2505) = (-1) := h188
          exfalso; omega
        · have h188 : ¬ (¬ (I 2505) = (-1)) := h188
          show w_W _ _ _ (72, [(5, .int (Int32.ofInt ((I120a 2504)))), (4, .int (Int32.ofInt ((I 2502)))), (3, .int (Int32.ofInt ((I 2505)))), (0, .ref 39), (1, .int (Int32.ofInt (n))), (2, .int (Int32.ofInt (x)))], [], M186) _
          refine w_adv (n := 2) (F' := (74, [(5, .int (Int32.ofInt ((I120a 2504)))), (4, .int (Int32.ofInt ((I 2502)))), (3, .int (Int32.ofInt ((I 2505)))), (0, .ref 39), (1, .int (Int32.ofInt (n))), (2, .int (Int32.ofInt (x)))], [.int (Int32.ofInt ((-1))), .ref 39], M186)) rfl ?_
          refine w_pf hR187 rfl rfl rfl rfl (show w_in ((-1)) from ⟨by omega, by omega⟩) (fun h => absurd h (by decide)) (fun M189 hR190 => ?_)
          replace hR190 : w_Rep w_TC fr X u l (w_up (w_up I120a 2505 ((I 2505))) 2504 ((-1))) A120a B120a C120a M189 := hR190
          refine w_adv (n := 5) (F' := (83, [(5, .int (Int32.ofInt ((I120a 2504)))), (4, .int (Int32.ofInt ((I 2502)))), (3, .int (Int32.ofInt ((I 2505)))), (0, .ref 39), (1, .int (Int32.ofInt (n))), (2, .int (Int32.ofInt (x)))], [.int (Int32.ofInt ((-1))), .int (Int32.ofInt ((I120a 2504))), .int (Int32.ofInt ((-1))), .int (Int32.ofInt (2)), .ref 39], M189)) rfl ?_
          refine w_call (cm := 148) (as := [(0, .ref 39), (1, .int (Int32.ofInt (2))), (2, .int (Int32.ofInt ((-1)))), (3, .int (Int32.ofInt ((I120a 2504)))), (4, .int (Int32.ofInt ((-1))))]) (rest := []) (o := some (1, 39)) rfl (w_fitR hR190 rfl) (c_emit (2) ((-1)) ((I120a 2504)) ((-1)) hR190 (show 4 ≤ d by omega) ⟨by omega, by omega⟩ ⟨by omega, by omega⟩ ⟨by omega, by omega⟩ ⟨by omega, by omega⟩ (show 0 ≤ (I120a 1035) ∧ (I120a 1035) ≤ 10000 by (repeat' apply And.intro) <;> first | assumption | omega) (show 0 ≤ (I120a 2503) by omega)) (fun r191 M192 q193 => ?_)
          rcases q193 with ⟨I193a, A193a, B193a, C193a, e194, hR193a, f195, f196⟩
          rw [e194]
          replace hR193a : w_Rep w_TC fr X u l I193a A193a B193a C193a M192 := hR193a
          replace f195 : c_bz (w_up (w_up I120a 2505 ((I 2505))) 2504 ((-1))) A120a I193a A193a 0 0 (I120a 2503) := f195
          replace f196 : (I193a 2503) = (I120a 2503) ∧ (0 ≤ (I193a 1035) ∧ (I193a 1035) ≤ 10000) ∧ (I193a 200) = (I120a 200) ∧ (I193a 202) = (I120a 202) := f196
          obtain ⟨n197, ⟨n198, n199⟩, n200, n201⟩ := id f196
          clear f196
          have bx202 : c_bz I A I193a A193a p q (I 2503) := c_bz_trans (show c_bz I A (w_up (w_up I120a 2505 ((I 2505))) 2504 ((-1))) A120a p q (I 2503) from (c_bz_up (c_bz_up bx129 rfl) rfl)) f195 (Int.le_refl _) (Int.le_refl _) (show p ≤ 0 ∨ 0 ≤ 0 by omega) (show 0 ≤ q ∨ 0 ≤ 0 by omega) (Int.le_refl _) (show (I 2503) ≤ (I120a 2503) by omega)
          show w_W _ _ _ (86, [(5, .int (Int32.ofInt ((I120a 2504)))), (4, .int (Int32.ofInt ((I 2502)))), (3, .int (Int32.ofInt ((I 2505)))), (0, .ref 39), (1, .int (Int32.ofInt (n))), (2, .int (Int32.ofInt (x)))], [], M192) _
          refine w_adv (n := 2) (F' := (90, [(6, .int (Int32.ofInt ((I 2502)))), (5, .int (Int32.ofInt ((I120a 2504)))), (4, .int (Int32.ofInt ((I 2502)))), (3, .int (Int32.ofInt ((I 2505)))), (0, .ref 39), (1, .int (Int32.ofInt (n))), (2, .int (Int32.ofInt (x)))], [], M192)) rfl ?_
          have lp90 : ∀ fu90 : Nat, ∀ (y90_6 : Int) (I_90 : Nat → Int) (A_90 : Nat → Int → Int) (B_90 C_90 : Nat → Nat) (M_90 : w_M) (hR_90 : w_Rep w_TC fr X u l I_90 A_90 B_90 C_90 M_90), w_in y90_6 → c_bz I A I_90 A_90 p q (I 2503) → (I_90 2503) = (I 2503) ∧ (0 ≤ (I_90 1035) ∧ (I_90 1035) ≤ 10000) ∧ (I_90 200) = (I 200) ∧ (I_90 202) = (I 202) → (if y90_6 < (I_90 2502) then (I_90 2502) - y90_6 else 0) < (fu90 : Int) → w_W (z_P L xs) (d + 1) 146 (90, [(0, .ref 39), (1, .int (Int32.ofInt (n))), (2, .int (Int32.ofInt (x))), (3, .int (Int32.ofInt ((I 2505)))), (4, .int (Int32.ofInt ((I 2502)))), (5, .int (Int32.ofInt ((I120a 2504)))), (6, .int (Int32.ofInt (y90_6)))], [], M_90) (c_single_Q fr X u l I A B C M n x i p q) := by
            intro fu90
            induction fu90 with
            | zero =>
              intro y90_6 I_90 A_90 B_90 C_90 M_90 hR_90 ⟨ra_y90_6, rb_y90_6⟩ hi90_0 hi90_1 hn90
              exfalso
              omega
            | succ fu90 ih90 =>
              intro y90_6 I_90 A_90 B_90 C_90 M_90 hR_90 ⟨ra_y90_6, rb_y90_6⟩ hi90_0 hi90_1 hn90
              refine w_adv (n := 2) (F' := (93, [(0, .ref 39), (1, .int (Int32.ofInt (n))), (2, .int (Int32.ofInt (x))), (3, .int (Int32.ofInt ((I 2505)))), (4, .int (Int32.ofInt ((I 2502)))), (5, .int (Int32.ofInt ((I120a 2504)))), (6, .int (Int32.ofInt (y90_6)))], [.ref 39, .int (Int32.ofInt (y90_6))], M_90)) rfl ?_
              refine w_gf (v := .int (Int32.ofInt ((I_90 2502)))) hR_90 rfl rfl rfl rfl ?_
              obtain ⟨r203, r204⟩ : -2147483648 ≤ (I_90 2502) ∧ (I_90 2502) ≤ 2147483647 := hR_90.ri 2502
              refine w_br2 (a := y90_6) (b := (I_90 2502)) rfl rfl ⟨by omega, by omega⟩ ⟨by omega, by omega⟩ (fun h205 => ?_) (fun h205 => ?_)
              · have h205 : y90_6 ≥ (I_90 2502) := h205
                show w_W _ _ _ (121, [(0, .ref 39), (1, .int (Int32.ofInt (n))), (2, .int (Int32.ofInt (x))), (3, .int (Int32.ofInt ((I 2505)))), (4, .int (Int32.ofInt ((I 2502)))), (5, .int (Int32.ofInt ((I120a 2504)))), (6, .int (Int32.ofInt (y90_6)))], [], M_90) _
                refine w_adv (n := 2) (F' := (124, [(0, .ref 39), (1, .int (Int32.ofInt (n))), (2, .int (Int32.ofInt (x))), (3, .int (Int32.ofInt ((I 2505)))), (4, .int (Int32.ofInt ((I 2502)))), (5, .int (Int32.ofInt ((I120a 2504)))), (6, .int (Int32.ofInt (y90_6)))], [.int (Int32.ofInt ((I 2502))), .ref 39], M_90)) rfl ?_
                refine w_pf hR_90 rfl rfl rfl rfl (show w_in ((I 2502)) from ⟨by omega, by omega⟩) (fun h => absurd h (by decide)) (fun M206 hR207 => ?_)
                replace hR207 : w_Rep w_TC fr X u l (w_up I_90 2502 ((I 2502))) A_90 B_90 C_90 M206 := hR207
                refine w_fin (r := .inl none) (M' := M206) rfl ?_
                exact ⟨(w_up I_90 2502 ((I 2502))), A_90, B_90, C_90, rfl, hR207, (show c_bz I A (w_up I_90 2502 ((I 2502))) A_90 p q (I 2503) by exact (c_bz_up hi90_0 rfl)), (show (I_90 2503) = (I 2503) ∧ (0 ≤ (I_90 1035) ∧ (I_90 1035) ≤ 10000) ∧ (I_90 200) = (I 200) ∧ (I_90 202) = (I 202) by (repeat' apply And.intro) <;> first | assumption | omega)⟩
              · have h205 : ¬ (y90_6 ≥ (I_90 2502)) := h205
                show w_W _ _ _ (99, [(0, .ref 39), (1, .int (Int32.ofInt (n))), (2, .int (Int32.ofInt (x))), (3, .int (Int32.ofInt ((I 2505)))), (4, .int (Int32.ofInt ((I 2502)))), (5, .int (Int32.ofInt ((I120a 2504)))), (6, .int (Int32.ofInt (y90_6)))], [], M_90) _
                refine w_adv (n := 1) (F' := (100, [(0, .ref 39), (1, .int (Int32.ofInt (n))), (2, .int (Int32.ofInt (x))), (3, .int (Int32.ofInt ((I 2505)))), (4, .int (Int32.ofInt ((I 2502)))), (5, .int (Int32.ofInt ((I120a 2504)))), (6, .int (Int32.ofInt (y90_6)))], [.ref 39], M_90)) rfl ?_
                refine w_gf (v := .ref 16) hR_90 rfl rfl rfl rfl ?_
                refine w_adv (n := 1) (F' := (104, [(0, .ref 39), (1, .int (Int32.ofInt (n))), (2, .int (Int32.ofInt (x))), (3, .int (Int32.ofInt ((I 2505)))), (4, .int (Int32.ofInt ((I 2502)))), (5, .int (Int32.ofInt ((I120a 2504)))), (6, .int (Int32.ofInt (y90_6)))], [.ref 39, .ref 16], M_90)) rfl ?_
                refine w_gf (v := .ref 40) hR_90 rfl rfl rfl rfl ?_
                refine w_adv (n := 1) (F' := (109, [(0, .ref 39), (1, .int (Int32.ofInt (n))), (2, .int (Int32.ofInt (x))), (3, .int (Int32.ofInt ((I 2505)))), (4, .int (Int32.ofInt ((I 2502)))), (5, .int (Int32.ofInt ((I120a 2504)))), (6, .int (Int32.ofInt (y90_6)))], [.int (Int32.ofInt (y90_6)), .ref 40, .ref 16], M_90)) rfl ?_
                refine w_call (cm := 21) (as := [(0, .ref 40), (1, .int (Int32.ofInt (y90_6)))]) (rest := [.ref 16]) (o := none) rfl (trivial) (c_at (y90_6) 40 3107 rfl (by decide) hR_90 ⟨by omega, by omega⟩) (fun r208 M209 q210 => ?_)
                rcases q210 with ⟨v211, e212, ⟨r213, r214⟩, e215, f216⟩
                rw [e212, e215]
                replace f216 : ((0 ≤ y90_6 ∧ y90_6 < (3107 : Int) ∧ v211 = (A_90 40) (y90_6)) ∨ (¬ (0 ≤ y90_6 ∧ y90_6 < (3107 : Int)) ∧ v211 = -1)) := f216
                show w_W _ _ _ (112, [(0, .ref 39), (1, .int (Int32.ofInt (n))), (2, .int (Int32.ofInt (x))), (3, .int (Int32.ofInt ((I 2505)))), (4, .int (Int32.ofInt ((I 2502)))), (5, .int (Int32.ofInt ((I120a 2504)))), (6, .int (Int32.ofInt (y90_6)))], [.int (Int32.ofInt (v211)), .ref 16], M_90) _
                refine w_call (cm := 164) (as := [(0, .ref 16), (1, .int (Int32.ofInt (v211)))]) (rest := []) (o := some (2, 16)) rfl (w_fitR hR_90 rfl) (c_kad (v211) hR_90 (show 1 ≤ d by omega) ⟨by omega, by omega⟩ (show 0 ≤ (I_90 1035) ∧ (I_90 1035) ≤ 10000 by (repeat' apply And.intro) <;> first | assumption | omega) (show 0 ≤ (I_90 2503) by omega)) (fun r217 M218 q219 => ?_)
                rcases q219 with ⟨I219a, A219a, B219a, C219a, e220, hR219a, f221, f222, f223⟩
                rw [e220]
                replace hR219a : w_Rep w_TC fr X u l I219a A219a B219a C219a M218 := hR219a
                replace f221 : c_bz I_90 A_90 I219a A219a 0 0 (I_90 2503) := f221
                replace f222 : (I219a 2503) = (I_90 2503) ∧ (0 ≤ (I219a 1035) ∧ (I219a 1035) ≤ 10000) ∧ (I219a 200) = (I_90 200) ∧ (I219a 202) = (I_90 202) := f222
                obtain ⟨n224, ⟨n225, n226⟩, n227, n228⟩ := id f222
                clear f222
                replace f223 : (I219a 2502) = (I_90 2502) := f223
                have bx229 : c_bz I A I219a A219a p q (I 2503) := c_bz_trans (show c_bz I A I_90 A_90 p q (I 2503) from hi90_0) f221 (Int.le_refl _) (Int.le_refl _) (show p ≤ 0 ∨ 0 ≤ 0 by omega) (show 0 ≤ q ∨ 0 ≤ 0 by omega) (Int.le_refl _) (show (I 2503) ≤ (I_90 2503) by omega)
                show w_W _ _ _ (115, [(0, .ref 39), (1, .int (Int32.ofInt (n))), (2, .int (Int32.ofInt (x))), (3, .int (Int32.ofInt ((I 2505)))), (4, .int (Int32.ofInt ((I 2502)))), (5, .int (Int32.ofInt ((I120a 2504)))), (6, .int (Int32.ofInt (y90_6)))], [], M218) _
                refine w_inc (nL := 7) (a := y90_6) rfl rfl rfl (by decide) ?_
                refine w_adv (n := 1) (F' := (90, [(6, .int (Int32.ofInt (y90_6 + 1))), (0, .ref 39), (1, .int (Int32.ofInt (n))), (2, .int (Int32.ofInt (x))), (3, .int (Int32.ofInt ((I 2505)))), (4, .int (Int32.ofInt ((I 2502)))), (5, .int (Int32.ofInt ((I120a 2504))))], [], M218)) rfl ?_
                refine w_ls (ls := [(0, .ref 39), (1, .int (Int32.ofInt (n))), (2, .int (Int32.ofInt (x))), (3, .int (Int32.ofInt ((I 2505)))), (4, .int (Int32.ofInt ((I 2502)))), (5, .int (Int32.ofInt ((I120a 2504)))), (6, .int (Int32.ofInt (y90_6 + 1)))]) (show List.Nodup [0, 1, 2, 3, 4, 5, 6] by decide) (show List.Nodup [6, 0, 1, 2, 3, 4, 5] by decide) (List.forall_mem_cons.mpr ⟨(List.Mem.tail _ (List.Mem.head _)), (List.forall_mem_cons.mpr ⟨(List.Mem.tail _ (List.Mem.tail _ (List.Mem.head _))), (List.forall_mem_cons.mpr ⟨(List.Mem.tail _ (List.Mem.tail _ (List.Mem.tail _ (List.Mem.head _)))), (List.forall_mem_cons.mpr ⟨(List.Mem.tail _ (List.Mem.tail _ (List.Mem.tail _ (List.Mem.tail _ (List.Mem.head _))))), (List.forall_mem_cons.mpr ⟨(List.Mem.tail _ (List.Mem.tail _ (List.Mem.tail _ (List.Mem.tail _ (List.Mem.tail _ (List.Mem.head _)))))), (List.forall_mem_cons.mpr ⟨(List.Mem.tail _ (List.Mem.tail _ (List.Mem.tail _ (List.Mem.tail _ (List.Mem.tail _ (List.Mem.tail _ (List.Mem.head _))))))), (List.forall_mem_cons.mpr ⟨(List.Mem.head _), (fun _ h => by cases h)⟩)⟩)⟩)⟩)⟩)⟩)⟩) ?_
                exact ih90  (y90_6 + 1) I219a A219a B219a C219a M218 hR219a ⟨by omega, by omega⟩ (show c_bz I A I219a A219a p q (I 2503) by exact bx229) (show (I219a 2503) = (I 2503) ∧ (0 ≤ (I219a 1035) ∧ (I219a 1035) ≤ 10000) ∧ (I219a 200) = (I 200) ∧ (I219a 202) = (I 202) by (repeat' apply And.intro) <;> first | assumption | omega) (show (if (y90_6 + 1) < (I219a 2502) then (I219a 2502) - (y90_6 + 1) else 0) < (fu90 : Int) by omega)
          refine w_ls (ls := [(0, .ref 39), (1, .int (Int32.ofInt (n))), (2, .int (Int32.ofInt (x))), (3, .int (Int32.ofInt ((I 2505)))), (4, .int (Int32.ofInt ((I 2502)))), (5, .int (Int32.ofInt ((I120a 2504)))), (6, .int (Int32.ofInt ((I 2502))))]) (show List.Nodup [0, 1, 2, 3, 4, 5, 6] by decide) (show List.Nodup [6, 5, 4, 3, 0, 1, 2] by decide) (List.forall_mem_cons.mpr ⟨(List.Mem.tail _ (List.Mem.tail _ (List.Mem.tail _ (List.Mem.tail _ (List.Mem.head _))))), (List.forall_mem_cons.mpr ⟨(List.Mem.tail _ (List.Mem.tail _ (List.Mem.tail _ (List.Mem.tail _ (List.Mem.tail _ (List.Mem.head _)))))), (List.forall_mem_cons.mpr ⟨(List.Mem.tail _ (List.Mem.tail _ (List.Mem.tail _ (List.Mem.tail _ (List.Mem.tail _ (List.Mem.tail _ (List.Mem.head _))))))), (List.forall_mem_cons.mpr ⟨(List.Mem.tail _ (List.Mem.tail _ (List.Mem.tail _ (List.Mem.head _)))), (List.forall_mem_cons.mpr ⟨(List.Mem.tail _ (List.Mem.tail _ (List.Mem.head _))), (List.forall_mem_cons.mpr ⟨(List.Mem.tail _ (List.Mem.head _)), (List.forall_mem_cons.mpr ⟨(List.Mem.head _), (fun _ h => by cases h)⟩)⟩)⟩)⟩)⟩)⟩)⟩) ?_
          exact lp90 (((if (I 2502) < (I193a 2502) then (I193a 2502) - (I 2502) else 0) : Int).toNat + 1)  ((I 2502)) I193a A193a B193a C193a M192 hR193a ⟨by omega, by omega⟩ (show c_bz I A I193a A193a p q (I 2503) by exact bx202) (show (I193a 2503) = (I 2503) ∧ (0 ≤ (I193a 1035) ∧ (I193a 1035) ≤ 10000) ∧ (I193a 200) = (I 200) ∧ (I193a 202) = (I 202) by (repeat' apply And.intro) <;> first | assumption | omega) (show (if (I 2502) < (I193a 2502) then (I193a 2502) - (I 2502) else 0) < ((((if (I 2502) < (I193a 2502) then (I193a 2502) - (I 2502) else 0) : Int).toNat + 1 : Nat) : Int) by omega)
    · have h132 : ¬ (¬ (I120a 2502) = (I 2502)) := h132
      show w_W _ _ _ (39, [(4, .int (Int32.ofInt ((I 2502)))), (3, .int (Int32.ofInt ((I 2505)))), (0, .ref 39), (1, .int (Int32.ofInt (n))), (2, .int (Int32.ofInt (x)))], [], M119) _
      refine w_fin (r := .inl none) (M' := M119) rfl ?_
      exact ⟨I120a, A120a, B120a, C120a, rfl, hR120a, (show c_bz I A I120a A120a p q (I 2503) by exact bx129), (show (I120a 2503) = (I 2503) ∧ (0 ≤ (I120a 1035) ∧ (I120a 1035) ≤ 10000) ∧ (I120a 200) = (I 200) ∧ (I120a 202) = (I 202) by (repeat' apply And.intro) <;> first | assumption | omega)⟩
