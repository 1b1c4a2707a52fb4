/-! BUILDER of the class: what calls itself. -/
def c_into_Q (fr : Nat → Bool) (X : Nat → Option (q_C (Nat → Int32))) (u l : Nat) (I : Nat → Int) (A : Nat → Int → Int) (B C : Nat → Nat) (M : w_M) (n : Int) (x : Int) (i : Nat) (p q : Int) : w_X → w_M → Prop := fun r M' => (∃ (I' : Nat → Int) (A' : Nat → Int → Int) (B' C' : Nat → Nat), (r = .inl none) ∧ (w_Rep w_TC fr X u l I' A' B' C' M') ∧ (c_bz I A I' A' p q (I 2503)) ∧ ((I' 2503) = (I 2503) ∧ (0 ≤ (I' 1035) ∧ (I' 1035) ≤ 10000) ∧ (I' 200) = (I 200) ∧ (I' 202) = (I 202)))
def c_into_P (L : Nat) (xs : Nat → Int32) (d : Nat) : Prop := ∀ {fr : Nat → Bool} {X : Nat → Option (q_C (Nat → Int32))} {u l : Nat} {I : Nat → Int} {A : Nat → Int → Int} {B C : Nat → Nat} {M : w_M} (n : Int) (x : Int) (i : Nat) (p q : Int) (hR : w_Rep w_TC fr X u l I A B C M) (hd : 8 * i + 4 ≤ d) (r_n : w_in n) (r_x : w_in x) (hKI : 0 ≤ (I 1035) ∧ (I 1035) ≤ 10000) (hKS : c_ks A) (hNM : 36 ≤ (I 200) ∧ (I 200) ≤ 419 ∧ 0 ≤ (I 202) ∧ (I 202) ≤ 24) (hLN : ∀ i, (A 5) i ≤ 24) (hW0 : 0 ≤ (I 2503)) (hWB : (I 2503) + 7000 * (i : Int) ≤ 1000000) (hW : c_W A i n p q) (hpq : 0 ≤ p ∧ q ≤ 3001), w_W (z_P L xs) d 156 (0, [(0, .ref 39), (1, .int (Int32.ofInt (n))), (2, .int (Int32.ofInt (x)))], [], M) (c_into_Q fr X u l I A B C M n x i p q)
def c_body_Q (fr : Nat → Bool) (X : Nat → Option (q_C (Nat → Int32))) (u l : Nat) (I : Nat → Int) (A : Nat → Int → Int) (B C : Nat → Nat) (M : w_M) (n : Int) (x : Int) (i : Nat) (p q : Int) : w_X → w_M → Prop := fun r M' => (∃ v : Int, ∃ (I' : Nat → Int) (A' : Nat → Int → Int) (B' C' : Nat → Nat), (r = .inl (some v)) ∧ (w_in v) ∧ (w_Rep w_TC fr X u l I' A' B' C' M') ∧ (c_bz I A I' A' p q (I 2503)) ∧ ((I' 2503) = (I 2503) ∧ (0 ≤ (I' 1035) ∧ (I' 1035) ≤ 10000) ∧ (I' 200) = (I 200) ∧ (I' 202) = (I 202)))
def c_body_P (L : Nat) (xs : Nat → Int32) (d : Nat) : Prop := ∀ {fr : Nat → Bool} {X : Nat → Option (q_C (Nat → Int32))} {u l : Nat} {I : Nat → Int} {A : Nat → Int → Int} {B C : Nat → Nat} {M : w_M} (n : Int) (x : Int) (i : Nat) (p q : Int) (hR : w_Rep w_TC fr X u l I A B C M) (hd : 8 * i + 7 ≤ d) (r_n : w_in n) (r_x : w_in x) (hKI : 0 ≤ (I 1035) ∧ (I 1035) ≤ 10000) (hKS : c_ks A) (hNM : 36 ≤ (I 200) ∧ (I 200) ≤ 419 ∧ 0 ≤ (I 202) ∧ (I 202) ≤ 24) (hLN : ∀ i, (A 5) i ≤ 24) (hW0 : 0 ≤ (I 2503)) (hWB : (I 2503) + 7000 * (i : Int) ≤ 1000000) (hB : c_Bd A (c_W A i) n p q) (hpq : 0 ≤ p ∧ q ≤ 3002), w_W (z_P L xs) d 144 (0, [(0, .ref 39), (1, .int (Int32.ofInt (n))), (2, .int (Int32.ofInt (x)))], [], M) (c_body_Q fr X u l I A B C M n x i p q)
def c_BALL (L : Nat) (xs : Nat → Int32) (d : Nat) : Prop := ∀ d', d' < d → c_into_P L xs d' ∧ c_body_P L xs d'
theorem c_BALL_dn {L : Nat} {xs : Nat → Int32} {d : Nat} (h : c_BALL L xs (d + 1)) : c_BALL L xs d := fun d' a => h d' (Nat.lt_succ_of_lt a)
def c_asVariable_Q (fr : Nat → Bool) (X : Nat → Option (q_C (Nat → Int32))) (u l : Nat) (I : Nat → Int) (A : Nat → Int → Int) (B C : Nat → Nat) (M : w_M) (n : Int) (i : Nat) (p q : Int) : w_X → w_M → Prop := fun r M' => (∃ v : Int, ∃ (I' : Nat → Int) (A' : Nat → Int → Int) (B' C' : Nat → Nat), (r = .inl (some v)) ∧ (w_in v) ∧ (w_Rep w_TC fr X u l I' A' B' C' M') ∧ (c_bz I A I' A' p q (I 2503)) ∧ ((I' 2503) = (I 2503) ∧ (0 ≤ (I' 1035) ∧ (I' 1035) ≤ 10000) ∧ (I' 200) = (I 200) ∧ (I' 202) = (I 202)))
set_option maxHeartbeats 100000000 in
set_option maxRecDepth 100000 in
theorem c_asVariable {L : Nat} {xs : Nat → Int32} {d : Nat} {fr : Nat → Bool} {X : Nat → Option (q_C (Nat → Int32))} {u l : Nat} {I : Nat → Int} {A : Nat → Int → Int} {B C : Nat → Nat} {M : w_M} (hB0 : c_BALL L xs d) (n : Int) (i : Nat) (p q : Int) (hR : w_Rep w_TC fr X u l I A B C M) (hd : 8 * i + 5 ≤ d) (r_n : w_in n) (hKI : 0 ≤ (I 1035) ∧ (I 1035) ≤ 10000) (hKS : c_ks A) (hNM : 36 ≤ (I 200) ∧ (I 200) ≤ 419 ∧ 0 ≤ (I 202) ∧ (I 202) ≤ 24) (hLN : ∀ i, (A 5) i ≤ 24) (hW0 : 0 ≤ (I 2503)) (hWB : (I 2503) + 7000 * (i : Int) ≤ 1000000) (hW : c_W A i n p q) (hpq : 0 ≤ p ∧ q ≤ 3001) : w_W (z_P L xs) d 177 (0, [(0, .ref 39), (1, .int (Int32.ofInt (n)))], [], M) (c_asVariable_Q fr X u l I A B C M n i p q) := by
  obtain ⟨ra_n, rb_n⟩ := r_n
  obtain ⟨d, rfl⟩ : ∃ d0, d = d0 + 1 := ⟨d - 1, by omega⟩
  refine w_adv (n := 2) (F' := (2, [(0, .ref 39), (1, .int (Int32.ofInt (n)))], [.int (Int32.ofInt (n)), .ref 39], M)) rfl ?_
  refine w_call (cm := 158) (as := [(0, .ref 39), (1, .int (Int32.ofInt (n)))]) (rest := []) (o := some (1, 39)) rfl (w_fitR hR rfl) (c_target (n) hR (show 4 ≤ d by omega) ⟨by omega, by omega⟩ (show 0 ≤ (I 1035) ∧ (I 1035) ≤ 10000 by (repeat' apply And.intro) <;> first | assumption | omega) (show 0 ≤ (I 2503) by omega)) (fun r1 M2 q3 => ?_)
  rcases q3 with ⟨v4, I3a, A3a, B3a, C3a, e5, ⟨r6, r7⟩, hR3a, f8, f9⟩
  rw [e5]
  replace hR3a : w_Rep w_TC fr X u l I3a A3a B3a C3a M2 := hR3a
  replace f8 : c_bz I A I3a A3a 0 0 (I 2503) := f8
  replace f9 : (I3a 2503) = (I 2503) ∧ (0 ≤ (I3a 1035) ∧ (I3a 1035) ≤ 10000) ∧ (I3a 200) = (I 200) ∧ (I3a 202) = (I 202) := f9
  obtain ⟨n10, ⟨n11, n12⟩, n13, n14⟩ := id f9
  clear f9
  have bx15 : c_bz I A I3a A3a p q (I 2503) := c_bz_trans (show c_bz I A I A p q (I 2503) from c_bz_refl) f8 (Int.le_refl _) (Int.le_refl _) (show p ≤ 0 ∨ 0 ≤ 0 by omega) (show 0 ≤ q ∨ 0 ≤ 0 by omega) (Int.le_refl _) (show (I 2503) ≤ (I 2503) by omega)
  have k16 : c_W A3a i n p q := c_W_agr hW (c_bz_r f8 (show q ≤ 0 ∨ 0 ≤ p ∨ 0 ≤ 0 by omega))
  show w_W _ _ _ (5, [(0, .ref 39), (1, .int (Int32.ofInt (n)))], [.int (Int32.ofInt (v4))], M2) _
  refine w_adv (n := 3) (F' := (8, [(2, .int (Int32.ofInt (v4))), (0, .ref 39), (1, .int (Int32.ofInt (n)))], [.int (Int32.ofInt (n)), .ref 39], M2)) rfl ?_
  refine w_call (cm := 154) (as := [(0, .ref 39), (1, .int (Int32.ofInt (n)))]) (rest := []) (o := some (1, 39)) rfl (w_fitR hR3a rfl) (c_isVariable (n) hR3a (show 2 ≤ d by omega) ⟨by omega, by omega⟩) (fun r17 M18 q19 => ?_)
  rcases q19 with ⟨e20, e21⟩ | ⟨e22, e23⟩
  · rw [e20, e21]
    show w_W _ _ _ (11, [(2, .int (Int32.ofInt (v4))), (0, .ref 39), (1, .int (Int32.ofInt (n)))], [.int (Int32.ofInt (1))], M2) _
    refine w_adv (n := 2) (F' := (21, [(2, .int (Int32.ofInt (v4))), (0, .ref 39), (1, .int (Int32.ofInt (n)))], [.int (Int32.ofInt (v4))], M2)) rfl ?_
    refine w_fin (r := .inl (some (v4))) (M' := M2) rfl ?_
    exact ⟨v4, I3a, A3a, B3a, C3a, rfl, ⟨by omega, by omega⟩, hR3a, (show c_bz I A I3a A3a p q (I 2503) by exact bx15), (show (I3a 2503) = (I 2503) ∧ (0 ≤ (I3a 1035) ∧ (I3a 1035) ≤ 10000) ∧ (I3a 200) = (I 200) ∧ (I3a 202) = (I 202) by (repeat' apply And.intro) <;> first | assumption | omega)⟩
  · rw [e22, e23]
    show w_W _ _ _ (11, [(2, .int (Int32.ofInt (v4))), (0, .ref 39), (1, .int (Int32.ofInt (n)))], [.int (Int32.ofInt (0))], M2) _
    refine w_adv (n := 4) (F' := (17, [(2, .int (Int32.ofInt (v4))), (0, .ref 39), (1, .int (Int32.ofInt (n)))], [.int (Int32.ofInt (v4)), .int (Int32.ofInt (n)), .ref 39], M2)) rfl ?_
    refine w_call (cm := 156) (as := [(0, .ref 39), (1, .int (Int32.ofInt (n))), (2, .int (Int32.ofInt (v4)))]) (rest := []) (o := some (1, 39)) rfl (w_fitR hR3a rfl) ((hB0 d (Nat.lt_succ_self d)).1 (n) (v4) (i) (p) (q) hR3a (show 8 * i + 4 ≤ d by omega) ⟨by omega, by omega⟩ ⟨by omega, by omega⟩ (show 0 ≤ (I3a 1035) ∧ (I3a 1035) ≤ 10000 by (repeat' apply And.intro) <;> first | assumption | omega) (show c_ks A3a by exact (show c_bz I A I3a A3a p q (I 2503) from bx15).2.2.2.2 hKS) (show 36 ≤ (I3a 200) ∧ (I3a 200) ≤ 419 ∧ 0 ≤ (I3a 202) ∧ (I3a 202) ≤ 24 by (repeat' apply And.intro) <;> first | assumption | omega) (show ∀ i, (A3a 5) i ≤ 24 by rw [show (A3a 5) = (A 5) from (show c_bz I A I3a A3a p q (I 2503) from bx15).2.1 5 rfl]; exact hLN) (show 0 ≤ (I3a 2503) by omega) (show (I3a 2503) + 7000 * (i : Int) ≤ 1000000 by first | assumption | omega) (show c_W A3a i n p q by exact k16) (show 0 ≤ p ∧ q ≤ 3001 by first | assumption | omega)) (fun r24 M25 q26 => ?_)
    rcases q26 with ⟨I26a, A26a, B26a, C26a, e27, hR26a, f28, f29⟩
    rw [e27]
    replace hR26a : w_Rep w_TC fr X u l I26a A26a B26a C26a M25 := hR26a
    replace f28 : c_bz I3a A3a I26a A26a p q (I3a 2503) := f28
    replace f29 : (I26a 2503) = (I3a 2503) ∧ (0 ≤ (I26a 1035) ∧ (I26a 1035) ≤ 10000) ∧ (I26a 200) = (I3a 200) ∧ (I26a 202) = (I3a 202) := f29
    obtain ⟨n30, ⟨n31, n32⟩, n33, n34⟩ := id f29
    clear f29
    have bx35 : c_bz I A I26a A26a p q (I 2503) := c_bz_trans (show c_bz I A I3a A3a p q (I 2503) from bx15) f28 (Int.le_refl _) (Int.le_refl _) (show p ≤ p ∨ q ≤ p by omega) (show q ≤ q ∨ q ≤ p by omega) (Int.le_refl _) (show (I 2503) ≤ (I3a 2503) by omega)
    show w_W _ _ _ (20, [(2, .int (Int32.ofInt (v4))), (0, .ref 39), (1, .int (Int32.ofInt (n)))], [], M25) _
    refine w_adv (n := 1) (F' := (21, [(2, .int (Int32.ofInt (v4))), (0, .ref 39), (1, .int (Int32.ofInt (n)))], [.int (Int32.ofInt (v4))], M25)) rfl ?_
    refine w_fin (r := .inl (some (v4))) (M' := M25) rfl ?_
    exact ⟨v4, I26a, A26a, B26a, C26a, rfl, ⟨by omega, by omega⟩, hR26a, (show c_bz I A I26a A26a p q (I 2503) by exact bx35), (show (I26a 2503) = (I 2503) ∧ (0 ≤ (I26a 1035) ∧ (I26a 1035) ≤ 10000) ∧ (I26a 200) = (I 200) ∧ (I26a 202) = (I 202) by (repeat' apply And.intro) <;> first | assumption | omega)⟩
def c_unify_Q (fr : Nat → Bool) (X : Nat → Option (q_C (Nat → Int32))) (u l : Nat) (I : Nat → Int) (A : Nat → Int → Int) (B C : Nat → Nat) (M : w_M) (f : Int) (g : Int) (i : Nat) (p q m : Int) : w_X → w_M → Prop := fun r M' => (∃ (I' : Nat → Int) (A' : Nat → Int → Int) (B' C' : Nat → Nat), (r = .inl none) ∧ (w_Rep w_TC fr X u l I' A' B' C' M') ∧ (c_bz I A I' A' p q (I 2503)) ∧ ((I' 2503) = (I 2503) ∧ (0 ≤ (I' 1035) ∧ (I' 1035) ≤ 10000) ∧ (I' 200) = (I 200) ∧ (I' 202) = (I 202)))
set_option maxHeartbeats 100000000 in
set_option maxRecDepth 100000 in
theorem c_unify {L : Nat} {xs : Nat → Int32} {d : Nat} {fr : Nat → Bool} {X : Nat → Option (q_C (Nat → Int32))} {u l : Nat} {I : Nat → Int} {A : Nat → Int → Int} {B C : Nat → Nat} {M : w_M} (hB0 : c_BALL L xs d) (f : Int) (g : Int) (i : Nat) (p q m : Int) (hR : w_Rep w_TC fr X u l I A B C M) (hd : 8 * i + 5 ≤ d) (r_f : w_in f) (r_g : w_in g) (hKI : 0 ≤ (I 1035) ∧ (I 1035) ≤ 10000) (hKS : c_ks A) (hNM : 36 ≤ (I 200) ∧ (I 200) ≤ 419 ∧ 0 ≤ (I 202) ∧ (I 202) ≤ 24) (hLN : ∀ i, (A 5) i ≤ 24) (hW0 : 0 ≤ (I 2503)) (hWB : (I 2503) + 7000 * (i : Int) ≤ 1000000) (hW1 : c_W A i f p m) (hW2 : c_W A i g m q) (hpq : 0 ≤ p ∧ q ≤ 3001) : w_W (z_P L xs) d 153 (0, [(0, .ref 39), (1, .int (Int32.ofInt (f))), (2, .int (Int32.ofInt (g)))], [], M) (c_unify_Q fr X u l I A B C M f g i p q m) := by
  obtain ⟨ra_f, rb_f⟩ := r_f
  obtain ⟨ra_g, rb_g⟩ := r_g
  obtain ⟨d, rfl⟩ : ∃ d0, d = d0 + 1 := ⟨d - 1, by omega⟩
  obtain ⟨ub1, ub2⟩ := c_W_in hW1
  obtain ⟨ub3, ub4⟩ := c_W_in hW2
  refine w_adv (n := 2) (F' := (2, [(0, .ref 39), (1, .int (Int32.ofInt (f))), (2, .int (Int32.ofInt (g)))], [.int (Int32.ofInt (f)), .ref 39], M)) rfl ?_
  refine w_call (cm := 154) (as := [(0, .ref 39), (1, .int (Int32.ofInt (f)))]) (rest := []) (o := some (1, 39)) rfl (w_fitR hR rfl) (c_isVariable (f) hR (show 2 ≤ d by omega) ⟨by omega, by omega⟩) (fun r1 M2 q3 => ?_)
  rcases q3 with ⟨e4, e5⟩ | ⟨e6, e7⟩
  · rw [e4, e5]
    show w_W _ _ _ (5, [(0, .ref 39), (1, .int (Int32.ofInt (f))), (2, .int (Int32.ofInt (g)))], [.int (Int32.ofInt (1))], M) _
    refine w_adv (n := 4) (F' := (11, [(0, .ref 39), (1, .int (Int32.ofInt (f))), (2, .int (Int32.ofInt (g)))], [.ref 39, .int (Int32.ofInt (g)), .ref 39], M)) rfl ?_
    refine w_gf (v := .ref 33) hR rfl rfl rfl rfl ?_
    refine w_adv (n := 1) (F' := (15, [(0, .ref 39), (1, .int (Int32.ofInt (f))), (2, .int (Int32.ofInt (g)))], [.ref 39, .ref 33, .int (Int32.ofInt (g)), .ref 39], M)) rfl ?_
    refine w_gf (v := .ref 26) hR rfl rfl rfl rfl ?_
    refine w_adv (n := 1) (F' := (19, [(0, .ref 39), (1, .int (Int32.ofInt (f))), (2, .int (Int32.ofInt (g)))], [.int (Int32.ofInt (f)), .ref 26, .ref 33, .int (Int32.ofInt (g)), .ref 39], M)) rfl ?_
    refine w_call (cm := 145) (as := [(0, .ref 26), (1, .int (Int32.ofInt (f)))]) (rest := [.ref 33, .int (Int32.ofInt (g)), .ref 39]) (o := some (8, 26)) rfl (w_fitR hR rfl) (c_Ta (f) hR (show 1 ≤ d by omega) ⟨by omega, by omega⟩) (fun r8 M9 q10 => ?_)
    rcases q10 with ⟨v11, e12, ⟨r13, r14⟩, e15, f16⟩
    rw [e12, e15]
    replace f16 : c_rd (A 28) f v11 := f16
    show w_W _ _ _ (22, [(0, .ref 39), (1, .int (Int32.ofInt (f))), (2, .int (Int32.ofInt (g)))], [.int (Int32.ofInt (v11)), .ref 33, .int (Int32.ofInt (g)), .ref 39], M) _
    refine w_call (cm := 155) (as := [(0, .ref 33), (1, .int (Int32.ofInt (v11)))]) (rest := [.int (Int32.ofInt (g)), .ref 39]) (o := some (5, 33)) rfl (w_fitR hR rfl) (c_Scope_variable (v11) hR (show 2 ≤ d by omega) ⟨by omega, by omega⟩) (fun r17 M18 q19 => ?_)
    rcases q19 with ⟨v20, e21, ⟨r22, r23⟩, e24⟩
    rw [e21, e24]
    show w_W _ _ _ (25, [(0, .ref 39), (1, .int (Int32.ofInt (f))), (2, .int (Int32.ofInt (g)))], [.int (Int32.ofInt (v20)), .int (Int32.ofInt (g)), .ref 39], M) _
    refine w_call (cm := 156) (as := [(0, .ref 39), (1, .int (Int32.ofInt (g))), (2, .int (Int32.ofInt (v20)))]) (rest := []) (o := some (1, 39)) rfl (w_fitR hR rfl) ((hB0 d (Nat.lt_succ_self d)).1 (g) (v20) (i) (m) (q) hR (show 8 * i + 4 ≤ d by omega) ⟨by omega, by omega⟩ ⟨by omega, by omega⟩ (show 0 ≤ (I 1035) ∧ (I 1035) ≤ 10000 by (repeat' apply And.intro) <;> first | assumption | omega) (show c_ks A by exact (show c_bz I A I A p q (I 2503) from c_bz_refl).2.2.2.2 hKS) (show 36 ≤ (I 200) ∧ (I 200) ≤ 419 ∧ 0 ≤ (I 202) ∧ (I 202) ≤ 24 by (repeat' apply And.intro) <;> first | assumption | omega) (show ∀ i, (A 5) i ≤ 24 by rw [show (A 5) = (A 5) from (show c_bz I A I A p q (I 2503) from c_bz_refl).2.1 5 rfl]; exact hLN) (show 0 ≤ (I 2503) by omega) (show (I 2503) + 7000 * (i : Int) ≤ 1000000 by first | assumption | omega) (show c_W A i g m q by exact hW2) (show 0 ≤ m ∧ q ≤ 3001 by first | assumption | omega)) (fun r25 M26 q27 => ?_)
    rcases q27 with ⟨I27a, A27a, B27a, C27a, e28, hR27a, f29, f30⟩
    rw [e28]
    replace hR27a : w_Rep w_TC fr X u l I27a A27a B27a C27a M26 := hR27a
    replace f29 : c_bz I A I27a A27a m q (I 2503) := f29
    replace f30 : (I27a 2503) = (I 2503) ∧ (0 ≤ (I27a 1035) ∧ (I27a 1035) ≤ 10000) ∧ (I27a 200) = (I 200) ∧ (I27a 202) = (I 202) := f30
    obtain ⟨n31, ⟨n32, n33⟩, n34, n35⟩ := id f30
    clear f30
    have bx36 : c_bz I A I27a A27a p q (I 2503) := c_bz_trans (show c_bz I A I A p q (I 2503) from c_bz_refl) f29 (Int.le_refl _) (Int.le_refl _) (show p ≤ m ∨ q ≤ m by omega) (show q ≤ q ∨ q ≤ m by omega) (Int.le_refl _) (show (I 2503) ≤ (I 2503) by omega)
    have k37 : c_W A27a i f p m := c_W_agr hW1 (c_bz_r f29 (show m ≤ m ∨ q ≤ p ∨ q ≤ m by omega))
    show w_W _ _ _ (28, [(0, .ref 39), (1, .int (Int32.ofInt (f))), (2, .int (Int32.ofInt (g)))], [], M26) _
    refine w_adv (n := 1) (F' := (80, [(0, .ref 39), (1, .int (Int32.ofInt (f))), (2, .int (Int32.ofInt (g)))], [], M26)) rfl ?_
    refine w_fin (r := .inl none) (M' := M26) rfl ?_
    exact ⟨I27a, A27a, B27a, C27a, rfl, hR27a, (show c_bz I A I27a A27a p q (I 2503) by exact bx36), (show (I27a 2503) = (I 2503) ∧ (0 ≤ (I27a 1035) ∧ (I27a 1035) ≤ 10000) ∧ (I27a 200) = (I 200) ∧ (I27a 202) = (I 202) by (repeat' apply And.intro) <;> first | assumption | omega)⟩
  · rw [e6, e7]
    show w_W _ _ _ (5, [(0, .ref 39), (1, .int (Int32.ofInt (f))), (2, .int (Int32.ofInt (g)))], [.int (Int32.ofInt (0))], M) _
    refine w_adv (n := 3) (F' := (33, [(0, .ref 39), (1, .int (Int32.ofInt (f))), (2, .int (Int32.ofInt (g)))], [.int (Int32.ofInt (g)), .ref 39], M)) rfl ?_
    refine w_call (cm := 154) (as := [(0, .ref 39), (1, .int (Int32.ofInt (g)))]) (rest := []) (o := some (1, 39)) rfl (w_fitR hR rfl) (c_isVariable (g) hR (show 2 ≤ d by omega) ⟨by omega, by omega⟩) (fun r38 M39 q40 => ?_)
    rcases q40 with ⟨e41, e42⟩ | ⟨e43, e44⟩
    · rw [e41, e42]
      show w_W _ _ _ (36, [(0, .ref 39), (1, .int (Int32.ofInt (f))), (2, .int (Int32.ofInt (g)))], [.int (Int32.ofInt (1))], M) _
      refine w_adv (n := 4) (F' := (42, [(0, .ref 39), (1, .int (Int32.ofInt (f))), (2, .int (Int32.ofInt (g)))], [.ref 39, .int (Int32.ofInt (f)), .ref 39], M)) rfl ?_
      refine w_gf (v := .ref 33) hR rfl rfl rfl rfl ?_
      refine w_adv (n := 1) (F' := (46, [(0, .ref 39), (1, .int (Int32.ofInt (f))), (2, .int (Int32.ofInt (g)))], [.ref 39, .ref 33, .int (Int32.ofInt (f)), .ref 39], M)) rfl ?_
      refine w_gf (v := .ref 26) hR rfl rfl rfl rfl ?_
      refine w_adv (n := 1) (F' := (50, [(0, .ref 39), (1, .int (Int32.ofInt (f))), (2, .int (Int32.ofInt (g)))], [.int (Int32.ofInt (g)), .ref 26, .ref 33, .int (Int32.ofInt (f)), .ref 39], M)) rfl ?_
      refine w_call (cm := 145) (as := [(0, .ref 26), (1, .int (Int32.ofInt (g)))]) (rest := [.ref 33, .int (Int32.ofInt (f)), .ref 39]) (o := some (8, 26)) rfl (w_fitR hR rfl) (c_Ta (g) hR (show 1 ≤ d by omega) ⟨by omega, by omega⟩) (fun r45 M46 q47 => ?_)
      rcases q47 with ⟨v48, e49, ⟨r50, r51⟩, e52, f53⟩
      rw [e49, e52]
      replace f53 : c_rd (A 28) g v48 := f53
      show w_W _ _ _ (53, [(0, .ref 39), (1, .int (Int32.ofInt (f))), (2, .int (Int32.ofInt (g)))], [.int (Int32.ofInt (v48)), .ref 33, .int (Int32.ofInt (f)), .ref 39], M) _
      refine w_call (cm := 155) (as := [(0, .ref 33), (1, .int (Int32.ofInt (v48)))]) (rest := [.int (Int32.ofInt (f)), .ref 39]) (o := some (5, 33)) rfl (w_fitR hR rfl) (c_Scope_variable (v48) hR (show 2 ≤ d by omega) ⟨by omega, by omega⟩) (fun r54 M55 q56 => ?_)
      rcases q56 with ⟨v57, e58, ⟨r59, r60⟩, e61⟩
      rw [e58, e61]
      show w_W _ _ _ (56, [(0, .ref 39), (1, .int (Int32.ofInt (f))), (2, .int (Int32.ofInt (g)))], [.int (Int32.ofInt (v57)), .int (Int32.ofInt (f)), .ref 39], M) _
      refine w_call (cm := 156) (as := [(0, .ref 39), (1, .int (Int32.ofInt (f))), (2, .int (Int32.ofInt (v57)))]) (rest := []) (o := some (1, 39)) rfl (w_fitR hR rfl) ((hB0 d (Nat.lt_succ_self d)).1 (f) (v57) (i) (p) (m) hR (show 8 * i + 4 ≤ d by omega) ⟨by omega, by omega⟩ ⟨by omega, by omega⟩ (show 0 ≤ (I 1035) ∧ (I 1035) ≤ 10000 by (repeat' apply And.intro) <;> first | assumption | omega) (show c_ks A by exact (show c_bz I A I A p q (I 2503) from c_bz_refl).2.2.2.2 hKS) (show 36 ≤ (I 200) ∧ (I 200) ≤ 419 ∧ 0 ≤ (I 202) ∧ (I 202) ≤ 24 by (repeat' apply And.intro) <;> first | assumption | omega) (show ∀ i, (A 5) i ≤ 24 by rw [show (A 5) = (A 5) from (show c_bz I A I A p q (I 2503) from c_bz_refl).2.1 5 rfl]; exact hLN) (show 0 ≤ (I 2503) by omega) (show (I 2503) + 7000 * (i : Int) ≤ 1000000 by first | assumption | omega) (show c_W A i f p m by exact hW1) (show 0 ≤ p ∧ m ≤ 3001 by first | assumption | omega)) (fun r62 M63 q64 => ?_)
      rcases q64 with ⟨I64a, A64a, B64a, C64a, e65, hR64a, f66, f67⟩
      rw [e65]
      replace hR64a : w_Rep w_TC fr X u l I64a A64a B64a C64a M63 := hR64a
      replace f66 : c_bz I A I64a A64a p m (I 2503) := f66
      replace f67 : (I64a 2503) = (I 2503) ∧ (0 ≤ (I64a 1035) ∧ (I64a 1035) ≤ 10000) ∧ (I64a 200) = (I 200) ∧ (I64a 202) = (I 202) := f67
      obtain ⟨n68, ⟨n69, n70⟩, n71, n72⟩ := id f67
      clear f67
      have bx73 : c_bz I A I64a A64a p q (I 2503) := c_bz_trans (show c_bz I A I A p q (I 2503) from c_bz_refl) f66 (Int.le_refl _) (Int.le_refl _) (show p ≤ p ∨ m ≤ p by omega) (show m ≤ q ∨ m ≤ p by omega) (Int.le_refl _) (show (I 2503) ≤ (I 2503) by omega)
      have k74 : c_W A64a i g m q := c_W_agr hW2 (c_bz_r f66 (show q ≤ p ∨ m ≤ m ∨ m ≤ p by omega))
      show w_W _ _ _ (59, [(0, .ref 39), (1, .int (Int32.ofInt (f))), (2, .int (Int32.ofInt (g)))], [], M63) _
      refine w_adv (n := 1) (F' := (80, [(0, .ref 39), (1, .int (Int32.ofInt (f))), (2, .int (Int32.ofInt (g)))], [], M63)) rfl ?_
      refine w_fin (r := .inl none) (M' := M63) rfl ?_
      exact ⟨I64a, A64a, B64a, C64a, rfl, hR64a, (show c_bz I A I64a A64a p q (I 2503) by exact bx73), (show (I64a 2503) = (I 2503) ∧ (0 ≤ (I64a 1035) ∧ (I64a 1035) ≤ 10000) ∧ (I64a 200) = (I 200) ∧ (I64a 202) = (I 202) by (repeat' apply And.intro) <;> first | assumption | omega)⟩
    · rw [e43, e44]
      show w_W _ _ _ (36, [(0, .ref 39), (1, .int (Int32.ofInt (f))), (2, .int (Int32.ofInt (g)))], [.int (Int32.ofInt (0))], M) _
      refine w_adv (n := 3) (F' := (64, [(0, .ref 39), (1, .int (Int32.ofInt (f))), (2, .int (Int32.ofInt (g)))], [.int (Int32.ofInt (f)), .ref 39], M)) rfl ?_
      refine w_call (cm := 158) (as := [(0, .ref 39), (1, .int (Int32.ofInt (f)))]) (rest := []) (o := some (1, 39)) rfl (w_fitR hR rfl) (c_target (f) hR (show 4 ≤ d by omega) ⟨by omega, by omega⟩ (show 0 ≤ (I 1035) ∧ (I 1035) ≤ 10000 by (repeat' apply And.intro) <;> first | assumption | omega) (show 0 ≤ (I 2503) by omega)) (fun r75 M76 q77 => ?_)
      rcases q77 with ⟨v78, I77a, A77a, B77a, C77a, e79, ⟨r80, r81⟩, hR77a, f82, f83⟩
      rw [e79]
      replace hR77a : w_Rep w_TC fr X u l I77a A77a B77a C77a M76 := hR77a
      replace f82 : c_bz I A I77a A77a 0 0 (I 2503) := f82
      replace f83 : (I77a 2503) = (I 2503) ∧ (0 ≤ (I77a 1035) ∧ (I77a 1035) ≤ 10000) ∧ (I77a 200) = (I 200) ∧ (I77a 202) = (I 202) := f83
      obtain ⟨n84, ⟨n85, n86⟩, n87, n88⟩ := id f83
      clear f83
      have bx89 : c_bz I A I77a A77a p q (I 2503) := c_bz_trans (show c_bz I A I A p q (I 2503) from c_bz_refl) f82 (Int.le_refl _) (Int.le_refl _) (show p ≤ 0 ∨ 0 ≤ 0 by omega) (show 0 ≤ q ∨ 0 ≤ 0 by omega) (Int.le_refl _) (show (I 2503) ≤ (I 2503) by omega)
      have k90 : c_W A77a i f p m := c_W_agr hW1 (c_bz_r f82 (show m ≤ 0 ∨ 0 ≤ p ∨ 0 ≤ 0 by omega))
      have k91 : c_W A77a i g m q := c_W_agr hW2 (c_bz_r f82 (show q ≤ 0 ∨ 0 ≤ m ∨ 0 ≤ 0 by omega))
      show w_W _ _ _ (67, [(0, .ref 39), (1, .int (Int32.ofInt (f))), (2, .int (Int32.ofInt (g)))], [.int (Int32.ofInt (v78))], M76) _
      refine w_adv (n := 4) (F' := (71, [(3, .int (Int32.ofInt (v78))), (0, .ref 39), (1, .int (Int32.ofInt (f))), (2, .int (Int32.ofInt (g)))], [.int (Int32.ofInt (v78)), .int (Int32.ofInt (f)), .ref 39], M76)) rfl ?_
      refine w_call (cm := 156) (as := [(0, .ref 39), (1, .int (Int32.ofInt (f))), (2, .int (Int32.ofInt (v78)))]) (rest := []) (o := some (1, 39)) rfl (w_fitR hR77a rfl) ((hB0 d (Nat.lt_succ_self d)).1 (f) (v78) (i) (p) (m) hR77a (show 8 * i + 4 ≤ d by omega) ⟨by omega, by omega⟩ ⟨by omega, by omega⟩ (show 0 ≤ (I77a 1035) ∧ (I77a 1035) ≤ 10000 by (repeat' apply And.intro) <;> first | assumption | omega) (show c_ks A77a by exact (show c_bz I A I77a A77a p q (I 2503) from bx89).2.2.2.2 hKS) (show 36 ≤ (I77a 200) ∧ (I77a 200) ≤ 419 ∧ 0 ≤ (I77a 202) ∧ (I77a 202) ≤ 24 by (repeat' apply And.intro) <;> first | assumption | omega) (show ∀ i, (A77a 5) i ≤ 24 by rw [show (A77a 5) = (A 5) from (show c_bz I A I77a A77a p q (I 2503) from bx89).2.1 5 rfl]; exact hLN) (show 0 ≤ (I77a 2503) by omega) (show (I77a 2503) + 7000 * (i : Int) ≤ 1000000 by first | assumption | omega) (show c_W A77a i f p m by exact k90) (show 0 ≤ p ∧ m ≤ 3001 by first | assumption | omega)) (fun r92 M93 q94 => ?_)
      rcases q94 with ⟨I94a, A94a, B94a, C94a, e95, hR94a, f96, f97⟩
      rw [e95]
      replace hR94a : w_Rep w_TC fr X u l I94a A94a B94a C94a M93 := hR94a
      replace f96 : c_bz I77a A77a I94a A94a p m (I77a 2503) := f96
      replace f97 : (I94a 2503) = (I77a 2503) ∧ (0 ≤ (I94a 1035) ∧ (I94a 1035) ≤ 10000) ∧ (I94a 200) = (I77a 200) ∧ (I94a 202) = (I77a 202) := f97
      obtain ⟨n98, ⟨n99, n100⟩, n101, n102⟩ := id f97
      clear f97
      have bx103 : c_bz I A I94a A94a p q (I 2503) := c_bz_trans (show c_bz I A I77a A77a p q (I 2503) from bx89) f96 (Int.le_refl _) (Int.le_refl _) (show p ≤ p ∨ m ≤ p by omega) (show m ≤ q ∨ m ≤ p by omega) (Int.le_refl _) (show (I 2503) ≤ (I77a 2503) by omega)
      have k104 : c_W A94a i g m q := c_W_agr k91 (c_bz_r f96 (show q ≤ p ∨ m ≤ m ∨ m ≤ p by omega))
      show w_W _ _ _ (74, [(3, .int (Int32.ofInt (v78))), (0, .ref 39), (1, .int (Int32.ofInt (f))), (2, .int (Int32.ofInt (g)))], [], M93) _
      refine w_adv (n := 3) (F' := (77, [(3, .int (Int32.ofInt (v78))), (0, .ref 39), (1, .int (Int32.ofInt (f))), (2, .int (Int32.ofInt (g)))], [.int (Int32.ofInt (v78)), .int (Int32.ofInt (g)), .ref 39], M93)) rfl ?_
      refine w_call (cm := 156) (as := [(0, .ref 39), (1, .int (Int32.ofInt (g))), (2, .int (Int32.ofInt (v78)))]) (rest := []) (o := some (1, 39)) rfl (w_fitR hR94a rfl) ((hB0 d (Nat.lt_succ_self d)).1 (g) (v78) (i) (m) (q) hR94a (show 8 * i + 4 ≤ d by omega) ⟨by omega, by omega⟩ ⟨by omega, by omega⟩ (show 0 ≤ (I94a 1035) ∧ (I94a 1035) ≤ 10000 by (repeat' apply And.intro) <;> first | assumption | omega) (show c_ks A94a by exact (show c_bz I A I94a A94a p q (I 2503) from bx103).2.2.2.2 hKS) (show 36 ≤ (I94a 200) ∧ (I94a 200) ≤ 419 ∧ 0 ≤ (I94a 202) ∧ (I94a 202) ≤ 24 by (repeat' apply And.intro) <;> first | assumption | omega) (show ∀ i, (A94a 5) i ≤ 24 by rw [show (A94a 5) = (A 5) from (show c_bz I A I94a A94a p q (I 2503) from bx103).2.1 5 rfl]; exact hLN) (show 0 ≤ (I94a 2503) by omega) (show (I94a 2503) + 7000 * (i : Int) ≤ 1000000 by first | assumption | omega) (show c_W A94a i g m q by exact k104) (show 0 ≤ m ∧ q ≤ 3001 by first | assumption | omega)) (fun r105 M106 q107 => ?_)
      rcases q107 with ⟨I107a, A107a, B107a, C107a, e108, hR107a, f109, f110⟩
      rw [e108]
      replace hR107a : w_Rep w_TC fr X u l I107a A107a B107a C107a M106 := hR107a
      replace f109 : c_bz I94a A94a I107a A107a m q (I94a 2503) := f109
      replace f110 : (I107a 2503) = (I94a 2503) ∧ (0 ≤ (I107a 1035) ∧ (I107a 1035) ≤ 10000) ∧ (I107a 200) = (I94a 200) ∧ (I107a 202) = (I94a 202) := f110
      obtain ⟨n111, ⟨n112, n113⟩, n114, n115⟩ := id f110
      clear f110
      have bx116 : c_bz I A I107a A107a p q (I 2503) := c_bz_trans (show c_bz I A I94a A94a p q (I 2503) from bx103) f109 (Int.le_refl _) (Int.le_refl _) (show p ≤ m ∨ q ≤ m by omega) (show q ≤ q ∨ q ≤ m by omega) (Int.le_refl _) (show (I 2503) ≤ (I94a 2503) by omega)
      show w_W _ _ _ (80, [(3, .int (Int32.ofInt (v78))), (0, .ref 39), (1, .int (Int32.ofInt (f))), (2, .int (Int32.ofInt (g)))], [], M106) _
      refine w_fin (r := .inl none) (M' := M106) rfl ?_
      exact ⟨I107a, A107a, B107a, C107a, rfl, hR107a, (show c_bz I A I107a A107a p q (I 2503) by exact bx116), (show (I107a 2503) = (I 2503) ∧ (0 ≤ (I107a 1035) ∧ (I107a 1035) ≤ 10000) ∧ (I107a 200) = (I 200) ∧ (I107a 202) = (I 202) by (repeat' apply And.intro) <;> first | assumption | omega)⟩
