/-! PARSER of the class. -/
def c_exp_Q (fr : Nat → Bool) (X : Nat → Option (q_C (Nat → Int32))) (u l : Nat) (I : Nat → Int) (A : Nat → Int → Int) (B C : Nat → Nat) (M : w_M) : w_X → w_M → Prop := fun r M' => (∃ v : Int, ∃ (I' : Nat → Int) (A' : Nat → Int → Int) (B' C' : Nat → Nat), (r = .inl (some v)) ∧ (w_in v) ∧ (w_Rep w_TC fr X u l I' A' B' C' M') ∧ (c_fi c_ps I I') ∧ (c_fa c_pa A A') ∧ ((0 ≤ (I' 2436) ∧ (I' 2436) ≤ (I' 773) ∧ ((I' 2437) = 0 ∨ (I' 2436) < (I' 773))) ∧ ((I' 773) = (I 773) ∧ (I' 2439) = (I 2439) ∧ 0 ≤ (I' 2117)) ∧ (I 2436) + 1 ≤ (I' 2436) ∧ (I' 1670) + 1 ≤ (I 1670) + 2 * ((I' 2436) - (I 2436)) ∧ (I 1670) ≤ (I' 1670)) ∧ (c_agl A A' (I 1670)) ∧ (c_Wn A' (c_r (I 2439) 3) v (I 1670) (I' 1670))) ∨ (∃ t : Nat, ∃ (I' : Nat → Int) (A' : Nat → Int → Int) (B' C' : Nat → Nat), (r = .inr t) ∧ (w_Rep w_TC fr X (u + 6) (l + 64) I' A' B' C' M') ∧ (c_fi c_ps I I') ∧ (c_fa c_pa A A') ∧ (M'.1[t]? = some (.inr (11, []))))
def c_exp_P (L : Nat) (xs : Nat → Int32) (d : Nat) : Prop := ∀ {fr : Nat → Bool} {X : Nat → Option (q_C (Nat → Int32))} {u l : Nat} {I : Nat → Int} {A : Nat → Int → Int} {B C : Nat → Nat} {M : w_M} (hR : w_Rep w_TC fr X u l I A B C M) (hd : 10 * (24 - (I 2439)) + 13 ≤ (d : Int)) (hl : l ≤ 7000000) (hNU : (0 ≤ (I 2436) ∧ (I 2436) ≤ (I 773) ∧ (I 773) ≤ 1501 ∧ ((I 2437) = 0 ∨ (I 2436) < (I 773))) ∧ (0 ≤ (I 2439) ∧ (I 2439) ≤ 24 ∧ 0 ≤ (I 2117)) ∧ 0 ≤ (I 1670) ∧ (I 1670) ≤ 2 * (I 2436) + 1), w_W (z_P L xs) d 89 (0, [(0, .ref 38)], [], M) (c_exp_Q fr X u l I A B C M)
def c_block_Q (fr : Nat → Bool) (X : Nat → Option (q_C (Nat → Int32))) (u l : Nat) (I : Nat → Int) (A : Nat → Int → Int) (B C : Nat → Nat) (M : w_M) (b : Int) : w_X → w_M → Prop := fun r M' => (∃ v : Int, ∃ (I' : Nat → Int) (A' : Nat → Int → Int) (B' C' : Nat → Nat), (r = .inl (some v)) ∧ (w_in v) ∧ (w_Rep w_TC fr X u l I' A' B' C' M') ∧ (c_fi c_ps I I') ∧ (c_fa c_pa A A') ∧ ((0 ≤ (I' 2436) ∧ (I' 2436) ≤ (I' 773) ∧ ((I' 2437) = 0 ∨ (I' 2436) < (I' 773))) ∧ ((I' 773) = (I 773) ∧ (I' 2439) = (I 2439) ∧ 0 ≤ (I' 2117)) ∧ (I 2436) + 1 ≤ (I' 2436) ∧ (I' 1670) + 0 ≤ (I 1670) + 2 * ((I' 2436) - (I 2436)) ∧ (I 1670) ≤ (I' 1670)) ∧ (c_agl A A' (I 1670)) ∧ (c_Bd A' (c_W A' (c_r (I 2439) 4)) v (I 1670) (I' 1670))) ∨ (∃ t : Nat, ∃ (I' : Nat → Int) (A' : Nat → Int → Int) (B' C' : Nat → Nat), (r = .inr t) ∧ (w_Rep w_TC fr X (u + 6) (l + 64) I' A' B' C' M') ∧ (c_fi c_ps I I') ∧ (c_fa c_pa A A') ∧ (M'.1[t]? = some (.inr (11, []))))
def c_block_P (L : Nat) (xs : Nat → Int32) (d : Nat) : Prop := ∀ {fr : Nat → Bool} {X : Nat → Option (q_C (Nat → Int32))} {u l : Nat} {I : Nat → Int} {A : Nat → Int → Int} {B C : Nat → Nat} {M : w_M} (b : Int) (hR : w_Rep w_TC fr X u l I A B C M) (hd : 10 * (24 - (I 2439)) + 15 ≤ (d : Int)) (r_b : w_in b) (hl : l ≤ 7000000) (hNU : (0 ≤ (I 2436) ∧ (I 2436) ≤ (I 773) ∧ (I 773) ≤ 1501 ∧ ((I 2437) = 0 ∨ (I 2436) < (I 773))) ∧ (0 ≤ (I 2439) ∧ (I 2439) ≤ 24 ∧ 0 ≤ (I 2117)) ∧ 0 ≤ (I 1670) ∧ (I 1670) ≤ 2 * (I 2436) + 1), w_W (z_P L xs) d 88 (0, [(0, .ref 38), (1, .int (Int32.ofInt (b)))], [], M) (c_block_Q fr X u l I A B C M b)
def c_ALL (L : Nat) (xs : Nat → Int32) (d : Nat) : Prop := ∀ d', d' < d → c_exp_P L xs d' ∧ c_block_P L xs d'
theorem c_ALL_dn {L : Nat} {xs : Nat → Int32} {d : Nat} (h : c_ALL L xs (d + 1)) : c_ALL L xs d := fun d' a => h d' (Nat.lt_succ_of_lt a)
def c_leaf_Q (fr : Nat → Bool) (X : Nat → Option (q_C (Nat → Int32))) (u l : Nat) (I : Nat → Int) (A : Nat → Int → Int) (B C : Nat → Nat) (M : w_M) (k : Int) (a : Int) : w_X → w_M → Prop := fun r M' => (∃ v : Int, ∃ (I' : Nat → Int) (A' : Nat → Int → Int) (B' C' : Nat → Nat), (r = .inl (some v)) ∧ (w_in v) ∧ (w_Rep w_TC fr X u l I' A' B' C' M') ∧ (c_fi c_ps I I') ∧ (c_fa c_pa A A') ∧ ((0 ≤ (I' 2436) ∧ (I' 2436) ≤ (I' 773) ∧ ((I' 2437) = 0 ∨ (I' 2436) < (I' 773))) ∧ ((I' 773) = (I 773) ∧ (I' 2439) = (I 2439) ∧ 0 ≤ (I' 2117)) ∧ (I 2436) + 1 ≤ (I' 2436) ∧ (I' 1670) + 1 ≤ (I 1670) + 2 * ((I' 2436) - (I 2436)) ∧ (I 1670) ≤ (I' 1670)) ∧ (c_agl A A' (I 1670)) ∧ (c_Wn A' (c_r (I 2439) 1) v (I 1670) (I' 1670))) ∨ (∃ t : Nat, ∃ (I' : Nat → Int) (A' : Nat → Int → Int) (B' C' : Nat → Nat), (r = .inr t) ∧ (w_Rep w_TC fr X (u + 6) (l + 64) I' A' B' C' M') ∧ (c_fi c_ps I I') ∧ (c_fa c_pa A A') ∧ (M'.1[t]? = some (.inr (11, []))))
set_option maxHeartbeats 100000000 in
set_option maxRecDepth 100000 in
theorem c_leaf {L : Nat} {xs : Nat → Int32} {d : Nat} {fr : Nat → Bool} {X : Nat → Option (q_C (Nat → Int32))} {u l : Nat} {I : Nat → Int} {A : Nat → Int → Int} {B C : Nat → Nat} {M : w_M} (k : Int) (a : Int) (hR : w_Rep w_TC fr X u l I A B C M) (hd : 5 ≤ d) (r_k : w_in k) (r_a : w_in a) (hl : l ≤ 7000000) (hNU : (0 ≤ (I 2436) ∧ (I 2436) ≤ (I 773) ∧ (I 773) ≤ 1501 ∧ ((I 2437) = 0 ∨ (I 2436) < (I 773))) ∧ (0 ≤ (I 2439) ∧ (I 2439) ≤ 24 ∧ 0 ≤ (I 2117)) ∧ 0 ≤ (I 1670) ∧ (I 1670) ≤ 2 * (I 2436) + 1) (hk0 : ¬ (I 2437) = 0) (hkk : k = 1 ∨ k = 2 ∨ k = 3 ∨ k = 4 ∨ k = 24) : w_W (z_P L xs) d 93 (0, [(0, .ref 38), (1, .int (Int32.ofInt (k))), (2, .int (Int32.ofInt (a)))], [], M) (c_leaf_Q fr X u l I A B C M k a) := by
  obtain ⟨ra_k, rb_k⟩ := r_k
  obtain ⟨ra_a, rb_a⟩ := r_a
  obtain ⟨d, rfl⟩ : ∃ d0, d = d0 + 1 := ⟨d - 1, by omega⟩
  refine w_adv (n := 1) (F' := (1, [(0, .ref 38), (1, .int (Int32.ofInt (k))), (2, .int (Int32.ofInt (a)))], [.ref 38], M)) rfl ?_
  refine w_call (cm := 80) (as := [(0, .ref 38)]) (rest := []) (o := some (4, 38)) rfl (w_fitR hR rfl) (c_advance hR (show 3 ≤ d by omega) (show l ≤ 7000000 by first | assumption | omega) (show -1 ≤ (I 2436) ∧ (I 2436) < (I 773) ∧ (I 773) ≤ 1501 by first | assumption | omega)) (fun r1 M2 q3 => ?_)
  rcases q3 with ⟨zt4, zk5, zv6, e7, hR3a, f8⟩ | ⟨t9, I3b, A3b, B3b, C3b, e10, hR3b, f11, f12, f13⟩
  · rw [e7]
    replace hR3a : w_Rep w_TC fr X u l (w_up (w_up (w_up (w_up I 2436 ((I 2436) + 1)) 2441 (zt4)) 2437 (zk5)) 2438 (zv6)) A B C M2 := hR3a
    replace f8 : ((I 2436) + 1 < (I 773) ∨ zk5 = 0) := f8
    show w_W _ _ _ (4, [(0, .ref 38), (1, .int (Int32.ofInt (k))), (2, .int (Int32.ofInt (a)))], [], M2) _
    refine w_adv (n := 1) (F' := (5, [(0, .ref 38), (1, .int (Int32.ofInt (k))), (2, .int (Int32.ofInt (a)))], [.ref 38], M2)) rfl ?_
    refine w_gf (v := .ref 26) hR3a rfl rfl rfl rfl ?_
    refine w_adv (n := 4) (F' := (12, [(0, .ref 38), (1, .int (Int32.ofInt (k))), (2, .int (Int32.ofInt (a)))], [.int (Int32.ofInt ((-1))), .int (Int32.ofInt ((-1))), .int (Int32.ofInt (a)), .int (Int32.ofInt (k)), .ref 26], M2)) rfl ?_
    refine w_call (cm := 94) (as := [(0, .ref 26), (1, .int (Int32.ofInt (k))), (2, .int (Int32.ofInt (a))), (3, .int (Int32.ofInt ((-1)))), (4, .int (Int32.ofInt ((-1))))]) (rest := []) (o := some (8, 26)) rfl (w_fitR hR3a rfl) (c_mkn (k) (a) ((-1)) ((-1)) hR3a (show 2 ≤ d by omega) ⟨by omega, by omega⟩ ⟨by omega, by omega⟩ ⟨by omega, by omega⟩ ⟨by omega, by omega⟩ (show 0 ≤ (I 1670) ∧ (I 1670) < 3016 by first | assumption | omega)) (fun r14 M15 q16 => ?_)
    rcases q16 with ⟨A17, e18, hR16a, f19, f20⟩
    rw [e18]
    replace hR16a : w_Rep w_TC fr X u l (w_up (w_up (w_up (w_up (w_up I 2436 ((I 2436) + 1)) 2441 (zt4)) 2437 (zk5)) 2438 (zv6)) 1670 ((I 1670) + 1)) A17 B C M15 := hR16a
    replace f19 : c_fa c_pa A A17 := f19
    replace f20 : c_mk A A17 (I 1670) k a (-1) (-1) := f20
    have k21 : c_Wn A17 (c_r (I 2439) 1) (I 1670) (I 1670) ((I 1670) + 1) := c_Wn_up ⟨c_W_leaf f20 (by omega) (show (I 1670) ≤ (I 1670) by omega), f20.2.2.2.2.2⟩ (show 1 ≤ (c_r (I 2439) 1) by unfold c_r; omega)
    have g22 : c_agl A A17 (I 1670) := c_agl_trans c_agl_refl f20.1 (show (I 1670) ≤ (I 1670) by omega)
    show w_W _ _ _ (15, [(0, .ref 38), (1, .int (Int32.ofInt (k))), (2, .int (Int32.ofInt (a)))], [.int (Int32.ofInt ((I 1670)))], M15) _
    refine w_fin (r := .inl (some ((I 1670)))) (M' := M15) rfl ?_
    exact Or.inl ⟨(I 1670), (w_up (w_up (w_up (w_up (w_up I 2436 ((I 2436) + 1)) 2441 (zt4)) 2437 (zk5)) 2438 (zv6)) 1670 ((I 1670) + 1)), A17, B, C, rfl, ⟨by omega, by omega⟩, hR16a, (show c_fi c_ps I (w_up (w_up (w_up (w_up (w_up I 2436 ((I 2436) + 1)) 2441 (zt4)) 2437 (zk5)) 2438 (zv6)) 1670 ((I 1670) + 1)) by exact (c_fi_up (c_fi_up (c_fi_up (c_fi_up (c_fi_up c_fi_refl rfl) rfl) rfl) rfl) rfl)), (show c_fa c_pa A A17 by exact f19), (show (0 ≤ (I 2436) + 1 ∧ (I 2436) + 1 ≤ (I 773) ∧ (zk5 = 0 ∨ (I 2436) + 1 < (I 773))) ∧ ((I 773) = (I 773) ∧ (I 2439) = (I 2439) ∧ 0 ≤ (I 2117)) ∧ (I 2436) + 1 ≤ (I 2436) + 1 ∧ ((I 1670) + 1) + 1 ≤ (I 1670) + 2 * (((I 2436) + 1) - (I 2436)) ∧ (I 1670) ≤ (I 1670) + 1 by (repeat' apply And.intro) <;> first | assumption | omega), (show c_agl A A17 (I 1670) by exact g22), (show c_Wn A17 (c_r (I 2439) 1) (I 1670) (I 1670) ((I 1670) + 1) by exact c_Wn_win (c_Wn_up k21 (show c_r (I 2439) 1 ≤ c_r (I 2439) 1 by unfold c_r; omega)) (show (I 1670) ≤ (I 1670) by omega) (show ((I 1670) + 1) ≤ ((I 1670) + 1) by omega))⟩
  · rw [e10]
    replace hR3b : w_Rep w_TC fr X (u + 6) (l + 64) I3b A3b B3b C3b M2 := hR3b
    replace f11 : c_fi c_ps I I3b := f11
    replace f12 : c_fa c_pa A A3b := f12
    replace f13 : M2.1[t9]? = some (.inr (11, [])) := f13
    exact Or.inr (⟨t9, I3b, A3b, B3b, C3b, rfl, hR3b, (show c_fi c_ps I I3b by exact f11), (show c_fa c_pa A A3b by exact f12), (show M2.1[t9]? = some (.inr (11, [])) by exact f13)⟩)
def c_thread_Q (fr : Nat → Bool) (X : Nat → Option (q_C (Nat → Int32))) (u l : Nat) (I : Nat → Int) (A : Nat → Int → Int) (B C : Nat → Nat) (M : w_M) (b : Int) : w_X → w_M → Prop := fun r M' => (∃ v : Int, ∃ (I' : Nat → Int) (A' : Nat → Int → Int) (B' C' : Nat → Nat), (r = .inl (some v)) ∧ (w_in v) ∧ (w_Rep w_TC fr X u l I' A' B' C' M') ∧ (c_fi c_ps I I') ∧ (c_fa c_pa A A') ∧ ((0 ≤ (I' 2436) ∧ (I' 2436) ≤ (I' 773) ∧ ((I' 2437) = 0 ∨ (I' 2436) < (I' 773))) ∧ ((I' 773) = (I 773) ∧ (I' 2439) = (I 2439) ∧ 0 ≤ (I' 2117)) ∧ (I 2436) + 1 ≤ (I' 2436) ∧ (I' 1670) + 1 ≤ (I 1670) + 2 * ((I' 2436) - (I 2436)) ∧ (I 1670) ≤ (I' 1670)) ∧ (c_agl A A' (I 1670)) ∧ (c_Wn A' (c_r (I 2439) 1) v (I 1670) (I' 1670))) ∨ (∃ t : Nat, ∃ (I' : Nat → Int) (A' : Nat → Int → Int) (B' C' : Nat → Nat), (r = .inr t) ∧ (w_Rep w_TC fr X (u + 6) (l + 64) I' A' B' C' M') ∧ (c_fi c_ps I I') ∧ (c_fa c_pa A A') ∧ (M'.1[t]? = some (.inr (11, []))))
set_option maxHeartbeats 100000000 in
set_option maxRecDepth 100000 in
theorem c_thread {L : Nat} {xs : Nat → Int32} {d : Nat} {fr : Nat → Bool} {X : Nat → Option (q_C (Nat → Int32))} {u l : Nat} {I : Nat → Int} {A : Nat → Int → Int} {B C : Nat → Nat} {M : w_M} (hA : c_ALL L xs d) (b : Int) (hR : w_Rep w_TC fr X u l I A B C M) (hd : 10 * (24 - (I 2439)) + 9 ≤ (d : Int)) (r_b : w_in b) (hl : l ≤ 7000000) (hNU : (0 ≤ (I 2436) ∧ (I 2436) ≤ (I 773) ∧ (I 773) ≤ 1501 ∧ ((I 2437) = 0 ∨ (I 2436) < (I 773))) ∧ (0 ≤ (I 2439) ∧ (I 2439) ≤ 24 ∧ 0 ≤ (I 2117)) ∧ 0 ≤ (I 1670) ∧ (I 1670) ≤ 2 * (I 2436) + 1) (hk0 : ¬ (I 2437) = 0) : w_W (z_P L xs) d 129 (0, [(0, .ref 38), (1, .int (Int32.ofInt (b)))], [], M) (c_thread_Q fr X u l I A B C M b) := by
  obtain ⟨ra_b, rb_b⟩ := r_b
  obtain ⟨d, rfl⟩ : ∃ d0, d = d0 + 1 := ⟨d - 1, by omega⟩
  refine w_adv (n := 1) (F' := (1, [(0, .ref 38), (1, .int (Int32.ofInt (b)))], [.ref 38], M)) rfl ?_
  refine w_call (cm := 99) (as := [(0, .ref 38)]) (rest := []) (o := some (4, 38)) rfl (w_fitR hR rfl) (c_open hR (show 4 ≤ d by omega) (show l ≤ 7000000 by first | assumption | omega) (show -1 ≤ (I 2436) ∧ (I 2436) < (I 773) ∧ (I 773) ≤ 1501 by first | assumption | omega) (show 0 ≤ (I 2439) ∧ (I 2439) ≤ 24 by first | assumption | omega)) (fun r1 M2 q3 => ?_)
  rcases q3 with ⟨zt4, zk5, zv6, e7, hR3a, f8, f9⟩ | ⟨t10, I3b, A3b, B3b, C3b, e11, hR3b, f12, f13, f14⟩
  · rw [e7]
    replace hR3a : w_Rep w_TC fr X u l (w_up (w_up (w_up (w_up (w_up I 2436 ((I 2436) + 1)) 2441 (zt4)) 2437 (zk5)) 2438 (zv6)) 2439 ((I 2439) + 1)) A B C M2 := hR3a
    replace f8 : ((I 2436) + 1 < (I 773) ∨ zk5 = 0) := f8
    replace f9 : (I 2439) < 24 := f9
    show w_W _ _ _ (4, [(0, .ref 38), (1, .int (Int32.ofInt (b)))], [], M2) _
    refine w_adv (n := 2) (F' := (6, [(0, .ref 38), (1, .int (Int32.ofInt (b)))], [.int (Int32.ofInt (b)), .ref 38], M2)) rfl ?_
    refine w_call (cm := 88) (as := [(0, .ref 38), (1, .int (Int32.ofInt (b)))]) (rest := []) (o := some (4, 38)) rfl (w_fitR hR3a rfl) ((hA d (Nat.lt_succ_self d)).2 (b) hR3a (show 10 * (24 - ((I 2439) + 1)) + 15 ≤ (d : Int) by omega) ⟨by omega, by omega⟩ (show l ≤ 7000000 by first | assumption | omega) (show (0 ≤ (I 2436) + 1 ∧ (I 2436) + 1 ≤ (I 773) ∧ (I 773) ≤ 1501 ∧ (zk5 = 0 ∨ (I 2436) + 1 < (I 773))) ∧ (0 ≤ (I 2439) + 1 ∧ (I 2439) + 1 ≤ 24 ∧ 0 ≤ (I 2117)) ∧ 0 ≤ (I 1670) ∧ (I 1670) ≤ 2 * ((I 2436) + 1) + 1 by (repeat' apply And.intro) <;> first | assumption | omega)) (fun r15 M16 q17 => ?_)
    rcases q17 with ⟨v18, I17a, A17a, B17a, C17a, e19, ⟨r20, r21⟩, hR17a, f22, f23, f24, f25, f26⟩ | ⟨t27, I17b, A17b, B17b, C17b, e28, hR17b, f29, f30, f31⟩
    · rw [e19]
      replace hR17a : w_Rep w_TC fr X u l I17a A17a B17a C17a M16 := hR17a
      replace f22 : c_fi c_ps (w_up (w_up (w_up (w_up (w_up I 2436 ((I 2436) + 1)) 2441 (zt4)) 2437 (zk5)) 2438 (zv6)) 2439 ((I 2439) + 1)) I17a := f22
      replace f23 : c_fa c_pa A A17a := f23
      replace f24 : (0 ≤ (I17a 2436) ∧ (I17a 2436) ≤ (I17a 773) ∧ ((I17a 2437) = 0 ∨ (I17a 2436) < (I17a 773))) ∧ ((I17a 773) = (I 773) ∧ (I17a 2439) = (I 2439) + 1 ∧ 0 ≤ (I17a 2117)) ∧ ((I 2436) + 1) + 1 ≤ (I17a 2436) ∧ (I17a 1670) + 0 ≤ (I 1670) + 2 * ((I17a 2436) - ((I 2436) + 1)) ∧ (I 1670) ≤ (I17a 1670) := f24
      obtain ⟨⟨n32, n33, n34⟩, ⟨n35, n36, n37⟩, n38, n39, n40⟩ := id f24
      clear f24
      replace f25 : c_agl A A17a (I 1670) := f25
      replace f26 : c_Bd A17a (c_W A17a (c_r ((I 2439) + 1) 4)) v18 (I 1670) (I17a 1670) := f26
      have g41 : c_agl A A17a (I 1670) := c_agl_trans c_agl_refl f25 (show (I 1670) ≤ (I 1670) by omega)
      have k42 : c_Bd A17a (c_W A17a (c_r (I 2439) 0)) v18 (I 1670) (I17a 1670) := c_Bd_up f26 (show c_r ((I 2439) + 1) 4 ≤ c_r (I 2439) 0 by unfold c_r; omega)
      show w_W _ _ _ (9, [(0, .ref 38), (1, .int (Int32.ofInt (b)))], [.int (Int32.ofInt (v18))], M16) _
      refine w_adv (n := 3) (F' := (13, [(2, .int (Int32.ofInt (v18))), (0, .ref 38), (1, .int (Int32.ofInt (b)))], [.int (Int32.ofInt (24)), .ref 38], M16)) rfl ?_
      refine w_call (cm := 113) (as := [(0, .ref 38), (1, .int (Int32.ofInt (24)))]) (rest := []) (o := some (4, 38)) rfl (w_fitR hR17a rfl) (c_close (24) hR17a (show 4 ≤ d by omega) ⟨by omega, by omega⟩ (show l ≤ 7000000 by first | assumption | omega) (show -1 ≤ (I17a 2436) ∧ ((I17a 2437) = 0 ∨ (I17a 2436) < (I17a 773)) ∧ (I17a 773) ≤ 1501 ∧ 1 ≤ 24 by first | assumption | omega) (show 0 ≤ (I17a 2439) ∧ (I17a 2439) ≤ 24 by first | assumption | omega)) (fun r43 M44 q45 => ?_)
      rcases q45 with ⟨zt46, zk47, zv48, e49, hR45a, f50, f51⟩ | ⟨t52, I45b, A45b, B45b, C45b, e53, hR45b, f54, f55, f56⟩
      · rw [e49]
        replace hR45a : w_Rep w_TC fr X u l (w_up (w_up (w_up (w_up (w_up I17a 2436 ((I17a 2436) + 1)) 2441 (zt46)) 2437 (zk47)) 2438 (zv48)) 2439 ((I17a 2439) - 1)) A17a B17a C17a M44 := hR45a
        replace f50 : ((I17a 2436) + 1 < (I17a 773) ∨ zk47 = 0) := f50
        replace f51 : (I17a 2437) = 24 := f51
        show w_W _ _ _ (16, [(2, .int (Int32.ofInt (v18))), (0, .ref 38), (1, .int (Int32.ofInt (b)))], [], M44) _
        refine w_adv (n := 1) (F' := (17, [(2, .int (Int32.ofInt (v18))), (0, .ref 38), (1, .int (Int32.ofInt (b)))], [.ref 38], M44)) rfl ?_
        refine w_gf (v := .ref 26) hR45a rfl rfl rfl rfl ?_
        refine w_adv (n := 4) (F' := (25, [(2, .int (Int32.ofInt (v18))), (0, .ref 38), (1, .int (Int32.ofInt (b)))], [.int (Int32.ofInt ((-1))), .int (Int32.ofInt ((-1))), .int (Int32.ofInt (v18)), .int (Int32.ofInt (19)), .ref 26], M44)) rfl ?_
        refine w_call (cm := 94) (as := [(0, .ref 26), (1, .int (Int32.ofInt (19))), (2, .int (Int32.ofInt (v18))), (3, .int (Int32.ofInt ((-1)))), (4, .int (Int32.ofInt ((-1))))]) (rest := []) (o := some (8, 26)) rfl (w_fitR hR45a rfl) (c_mkn (19) (v18) ((-1)) ((-1)) hR45a (show 2 ≤ d by omega) ⟨by omega, by omega⟩ ⟨by omega, by omega⟩ ⟨by omega, by omega⟩ ⟨by omega, by omega⟩ (show 0 ≤ (I17a 1670) ∧ (I17a 1670) < 3016 by first | assumption | omega)) (fun r57 M58 q59 => ?_)
        rcases q59 with ⟨A60, e61, hR59a, f62, f63⟩
        rw [e61]
        replace hR59a : w_Rep w_TC fr X u l (w_up (w_up (w_up (w_up (w_up (w_up I17a 2436 ((I17a 2436) + 1)) 2441 (zt46)) 2437 (zk47)) 2438 (zv48)) 2439 ((I17a 2439) - 1)) 1670 ((I17a 1670) + 1)) A60 B17a C17a M58 := hR59a
        replace f62 : c_fa c_pa A17a A60 := f62
        replace f63 : c_mk A17a A60 (I17a 1670) 19 v18 (-1) (-1) := f63
        have k64 : c_Wn A60 (c_r (I 2439) 1) (I17a 1670) (I 1670) ((I17a 1670) + 1) := c_Wn_up ⟨c_W_19 f63 (show 0 ≤ (I 1670) by omega) (c_BdW_win k42 (show (I 1670) ≤ (I 1670) by omega) (show (I17a 1670) ≤ (I17a 1670) by omega)), f63.2.2.2.2.2⟩ (show (c_r (I 2439) 0) + 1 ≤ (c_r (I 2439) 1) by unfold c_r; omega)
        have g65 : c_agl A A60 (I 1670) := c_agl_trans g41 f63.1 (show (I 1670) ≤ (I17a 1670) by omega)
        show w_W _ _ _ (28, [(2, .int (Int32.ofInt (v18))), (0, .ref 38), (1, .int (Int32.ofInt (b)))], [.int (Int32.ofInt ((I17a 1670)))], M58) _
        refine w_fin (r := .inl (some ((I17a 1670)))) (M' := M58) rfl ?_
        exact Or.inl ⟨(I17a 1670), (w_up (w_up (w_up (w_up (w_up (w_up I17a 2436 ((I17a 2436) + 1)) 2441 (zt46)) 2437 (zk47)) 2438 (zv48)) 2439 ((I17a 2439) - 1)) 1670 ((I17a 1670) + 1)), A60, B17a, C17a, rfl, ⟨by omega, by omega⟩, hR59a, (show c_fi c_ps I (w_up (w_up (w_up (w_up (w_up (w_up I17a 2436 ((I17a 2436) + 1)) 2441 (zt46)) 2437 (zk47)) 2438 (zv48)) 2439 ((I17a 2439) - 1)) 1670 ((I17a 1670) + 1)) by exact (c_fi_up (c_fi_up (c_fi_up (c_fi_up (c_fi_up (c_fi_up (c_fi_trans (c_fi_up (c_fi_up (c_fi_up (c_fi_up (c_fi_up c_fi_refl rfl) rfl) rfl) rfl) rfl) f22) rfl) rfl) rfl) rfl) rfl) rfl)), (show c_fa c_pa A A60 by exact (c_fa_trans f23 f62)), (show (0 ≤ (I17a 2436) + 1 ∧ (I17a 2436) + 1 ≤ (I17a 773) ∧ (zk47 = 0 ∨ (I17a 2436) + 1 < (I17a 773))) ∧ ((I17a 773) = (I 773) ∧ (I17a 2439) - 1 = (I 2439) ∧ 0 ≤ (I17a 2117)) ∧ (I 2436) + 1 ≤ (I17a 2436) + 1 ∧ ((I17a 1670) + 1) + 1 ≤ (I 1670) + 2 * (((I17a 2436) + 1) - (I 2436)) ∧ (I 1670) ≤ (I17a 1670) + 1 by (repeat' apply And.intro) <;> first | assumption | omega), (show c_agl A A60 (I 1670) by exact g65), (show c_Wn A60 (c_r (I 2439) 1) (I17a 1670) (I 1670) ((I17a 1670) + 1) by exact c_Wn_win (c_Wn_up k64 (show c_r (I 2439) 1 ≤ c_r (I 2439) 1 by unfold c_r; omega)) (show (I 1670) ≤ (I 1670) by omega) (show ((I17a 1670) + 1) ≤ ((I17a 1670) + 1) by omega))⟩
      · rw [e53]
        replace hR45b : w_Rep w_TC fr X (u + 6) (l + 64) I45b A45b B45b C45b M44 := hR45b
        replace f54 : c_fi c_ps I17a I45b := f54
        replace f55 : c_fa c_pa A17a A45b := f55
        replace f56 : M44.1[t52]? = some (.inr (11, [])) := f56
        exact Or.inr (⟨t52, I45b, A45b, B45b, C45b, rfl, hR45b, (show c_fi c_ps I I45b by exact (c_fi_trans (c_fi_trans (c_fi_up (c_fi_up (c_fi_up (c_fi_up (c_fi_up c_fi_refl rfl) rfl) rfl) rfl) rfl) f22) f54)), (show c_fa c_pa A A45b by exact (c_fa_trans f23 f55)), (show M44.1[t52]? = some (.inr (11, [])) by exact f56)⟩)
    · rw [e28]
      replace hR17b : w_Rep w_TC fr X (u + 6) (l + 64) I17b A17b B17b C17b M16 := hR17b
      replace f29 : c_fi c_ps (w_up (w_up (w_up (w_up (w_up I 2436 ((I 2436) + 1)) 2441 (zt4)) 2437 (zk5)) 2438 (zv6)) 2439 ((I 2439) + 1)) I17b := f29
      replace f30 : c_fa c_pa A A17b := f30
      replace f31 : M16.1[t27]? = some (.inr (11, [])) := f31
      exact Or.inr (⟨t27, I17b, A17b, B17b, C17b, rfl, hR17b, (show c_fi c_ps I I17b by exact (c_fi_trans (c_fi_up (c_fi_up (c_fi_up (c_fi_up (c_fi_up c_fi_refl rfl) rfl) rfl) rfl) rfl) f29)), (show c_fa c_pa A A17b by exact f30), (show M16.1[t27]? = some (.inr (11, [])) by exact f31)⟩)
  · rw [e11]
    replace hR3b : w_Rep w_TC fr X (u + 6) (l + 64) I3b A3b B3b C3b M2 := hR3b
    replace f12 : c_fi c_ps I I3b := f12
    replace f13 : c_fa c_pa A A3b := f13
    replace f14 : M2.1[t10]? = some (.inr (11, [])) := f14
    exact Or.inr (⟨t10, I3b, A3b, B3b, C3b, rfl, hR3b, (show c_fi c_ps I I3b by exact f12), (show c_fa c_pa A A3b by exact f13), (show M2.1[t10]? = some (.inr (11, [])) by exact f14)⟩)
def c_otherwise_Q (fr : Nat → Bool) (X : Nat → Option (q_C (Nat → Int32))) (u l : Nat) (I : Nat → Int) (A : Nat → Int → Int) (B C : Nat → Nat) (M : w_M) (b : Int) : w_X → w_M → Prop := fun r M' => (∃ v : Int, ∃ (I' : Nat → Int) (A' : Nat → Int → Int) (B' C' : Nat → Nat), (r = .inl (some v)) ∧ (w_in v) ∧ (w_Rep w_TC fr X u l I' A' B' C' M') ∧ (c_fi c_ps I I') ∧ (c_fa c_pa A A') ∧ ((0 ≤ (I' 2436) ∧ (I' 2436) ≤ (I' 773) ∧ ((I' 2437) = 0 ∨ (I' 2436) < (I' 773))) ∧ ((I' 773) = (I 773) ∧ (I' 2439) = (I 2439) ∧ 0 ≤ (I' 2117)) ∧ (I 2436) + 0 ≤ (I' 2436) ∧ (I' 1670) + 0 ≤ (I 1670) + 2 * ((I' 2436) - (I 2436)) ∧ (I 1670) ≤ (I' 1670)) ∧ (c_agl A A' (I 1670)) ∧ (v = -1 ∨ c_Bd A' (c_W A' (c_r (I 2439) 4)) v (I 1670) (I' 1670))) ∨ (∃ t : Nat, ∃ (I' : Nat → Int) (A' : Nat → Int → Int) (B' C' : Nat → Nat), (r = .inr t) ∧ (w_Rep w_TC fr X (u + 6) (l + 64) I' A' B' C' M') ∧ (c_fi c_ps I I') ∧ (c_fa c_pa A A') ∧ (M'.1[t]? = some (.inr (11, []))))
set_option maxHeartbeats 100000000 in
set_option maxRecDepth 100000 in
theorem c_otherwise {L : Nat} {xs : Nat → Int32} {d : Nat} {fr : Nat → Bool} {X : Nat → Option (q_C (Nat → Int32))} {u l : Nat} {I : Nat → Int} {A : Nat → Int → Int} {B C : Nat → Nat} {M : w_M} (hA : c_ALL L xs d) (b : Int) (hR : w_Rep w_TC fr X u l I A B C M) (hd : 10 * (24 - (I 2439)) + 17 ≤ (d : Int)) (r_b : w_in b) (hl : l ≤ 7000000) (hNU : (0 ≤ (I 2436) ∧ (I 2436) ≤ (I 773) ∧ (I 773) ≤ 1501 ∧ ((I 2437) = 0 ∨ (I 2436) < (I 773))) ∧ (0 ≤ (I 2439) ∧ (I 2439) ≤ 24 ∧ 0 ≤ (I 2117)) ∧ 0 ≤ (I 1670) ∧ (I 1670) ≤ 2 * (I 2436) + 1) : w_W (z_P L xs) d 124 (0, [(0, .ref 38), (1, .int (Int32.ofInt (b)))], [], M) (c_otherwise_Q fr X u l I A B C M b) := by
  obtain ⟨ra_b, rb_b⟩ := r_b
  obtain ⟨d, rfl⟩ : ∃ d0, d = d0 + 1 := ⟨d - 1, by omega⟩
  refine w_adv (n := 1) (F' := (1, [(0, .ref 38), (1, .int (Int32.ofInt (b)))], [.ref 38], M)) rfl ?_
  refine w_gf (v := .int (Int32.ofInt ((I 2437)))) hR rfl rfl rfl rfl ?_
  obtain ⟨r1, r2⟩ : -2147483648 ≤ (I 2437) ∧ (I 2437) ≤ 2147483647 := hR.ri 2437
  refine w_adv (n := 1) (F' := (6, [(0, .ref 38), (1, .int (Int32.ofInt (b)))], [.int (Int32.ofInt (27)), .int (Int32.ofInt ((I 2437)))], M)) rfl ?_
  refine w_br2 (a := (I 2437)) (b := 27) rfl rfl ⟨by omega, by omega⟩ ⟨by omega, by omega⟩ (fun h3 => ?_) (fun h3 => ?_)
  · have h3 : (I 2437) = 27 := h3
    show w_W _ _ _ (11, [(0, .ref 38), (1, .int (Int32.ofInt (b)))], [], M) _
    refine w_adv (n := 1) (F' := (12, [(0, .ref 38), (1, .int (Int32.ofInt (b)))], [.ref 38], M)) rfl ?_
    refine w_call (cm := 80) (as := [(0, .ref 38)]) (rest := []) (o := some (4, 38)) rfl (w_fitR hR rfl) (c_advance hR (show 3 ≤ d by omega) (show l ≤ 7000000 by first | assumption | omega) (show -1 ≤ (I 2436) ∧ (I 2436) < (I 773) ∧ (I 773) ≤ 1501 by first | assumption | omega)) (fun r4 M5 q6 => ?_)
    rcases q6 with ⟨zt7, zk8, zv9, e10, hR6a, f11⟩ | ⟨t12, I6b, A6b, B6b, C6b, e13, hR6b, f14, f15, f16⟩
    · rw [e10]
      replace hR6a : w_Rep w_TC fr X u l (w_up (w_up (w_up (w_up I 2436 ((I 2436) + 1)) 2441 (zt7)) 2437 (zk8)) 2438 (zv9)) A B C M5 := hR6a
      replace f11 : ((I 2436) + 1 < (I 773) ∨ zk8 = 0) := f11
      show w_W _ _ _ (15, [(0, .ref 38), (1, .int (Int32.ofInt (b)))], [], M5) _
      refine w_adv (n := 2) (F' := (17, [(0, .ref 38), (1, .int (Int32.ofInt (b)))], [.int (Int32.ofInt (b)), .ref 38], M5)) rfl ?_
      refine w_call (cm := 88) (as := [(0, .ref 38), (1, .int (Int32.ofInt (b)))]) (rest := []) (o := some (4, 38)) rfl (w_fitR hR6a rfl) ((hA d (Nat.lt_succ_self d)).2 (b) hR6a (show 10 * (24 - (I 2439)) + 15 ≤ (d : Int) by omega) ⟨by omega, by omega⟩ (show l ≤ 7000000 by first | assumption | omega) (show (0 ≤ (I 2436) + 1 ∧ (I 2436) + 1 ≤ (I 773) ∧ (I 773) ≤ 1501 ∧ (zk8 = 0 ∨ (I 2436) + 1 < (I 773))) ∧ (0 ≤ (I 2439) ∧ (I 2439) ≤ 24 ∧ 0 ≤ (I 2117)) ∧ 0 ≤ (I 1670) ∧ (I 1670) ≤ 2 * ((I 2436) + 1) + 1 by (repeat' apply And.intro) <;> first | assumption | omega)) (fun r17 M18 q19 => ?_)
      rcases q19 with ⟨v20, I19a, A19a, B19a, C19a, e21, ⟨r22, r23⟩, hR19a, f24, f25, f26, f27, f28⟩ | ⟨t29, I19b, A19b, B19b, C19b, e30, hR19b, f31, f32, f33⟩
      · rw [e21]
        replace hR19a : w_Rep w_TC fr X u l I19a A19a B19a C19a M18 := hR19a
        replace f24 : c_fi c_ps (w_up (w_up (w_up (w_up I 2436 ((I 2436) + 1)) 2441 (zt7)) 2437 (zk8)) 2438 (zv9)) I19a := f24
        replace f25 : c_fa c_pa A A19a := f25
        replace f26 : (0 ≤ (I19a 2436) ∧ (I19a 2436) ≤ (I19a 773) ∧ ((I19a 2437) = 0 ∨ (I19a 2436) < (I19a 773))) ∧ ((I19a 773) = (I 773) ∧ (I19a 2439) = (I 2439) ∧ 0 ≤ (I19a 2117)) ∧ ((I 2436) + 1) + 1 ≤ (I19a 2436) ∧ (I19a 1670) + 0 ≤ (I 1670) + 2 * ((I19a 2436) - ((I 2436) + 1)) ∧ (I 1670) ≤ (I19a 1670) := f26
        obtain ⟨⟨n34, n35, n36⟩, ⟨n37, n38, n39⟩, n40, n41, n42⟩ := id f26
        clear f26
        replace f27 : c_agl A A19a (I 1670) := f27
        replace f28 : c_Bd A19a (c_W A19a (c_r (I 2439) 4)) v20 (I 1670) (I19a 1670) := f28
        have g43 : c_agl A A19a (I 1670) := c_agl_trans c_agl_refl f27 (show (I 1670) ≤ (I 1670) by omega)
        have k44 : c_Bd A19a (c_W A19a (c_r (I 2439) 4)) v20 (I 1670) (I19a 1670) := c_Bd_up f28 (show c_r (I 2439) 4 ≤ c_r (I 2439) 4 by unfold c_r; omega)
        show w_W _ _ _ (20, [(0, .ref 38), (1, .int (Int32.ofInt (b)))], [.int (Int32.ofInt (v20))], M18) _
        refine w_fin (r := .inl (some (v20))) (M' := M18) rfl ?_
        exact Or.inl ⟨v20, I19a, A19a, B19a, C19a, rfl, ⟨by omega, by omega⟩, hR19a, (show c_fi c_ps I I19a by exact (c_fi_trans (c_fi_up (c_fi_up (c_fi_up (c_fi_up c_fi_refl rfl) rfl) rfl) rfl) f24)), (show c_fa c_pa A A19a by exact f25), (show (0 ≤ (I19a 2436) ∧ (I19a 2436) ≤ (I19a 773) ∧ ((I19a 2437) = 0 ∨ (I19a 2436) < (I19a 773))) ∧ ((I19a 773) = (I 773) ∧ (I19a 2439) = (I 2439) ∧ 0 ≤ (I19a 2117)) ∧ (I 2436) + 0 ≤ (I19a 2436) ∧ (I19a 1670) + 0 ≤ (I 1670) + 2 * ((I19a 2436) - (I 2436)) ∧ (I 1670) ≤ (I19a 1670) by (repeat' apply And.intro) <;> first | assumption | omega), (show c_agl A A19a (I 1670) by exact g43), (show v20 = -1 ∨ c_Bd A19a (c_W A19a (c_r (I 2439) 4)) v20 (I 1670) (I19a 1670) by exact Or.inr (c_BdW_win k44 (show (I 1670) ≤ (I 1670) by omega) (show (I19a 1670) ≤ (I19a 1670) by omega)))⟩
      · rw [e30]
        replace hR19b : w_Rep w_TC fr X (u + 6) (l + 64) I19b A19b B19b C19b M18 := hR19b
        replace f31 : c_fi c_ps (w_up (w_up (w_up (w_up I 2436 ((I 2436) + 1)) 2441 (zt7)) 2437 (zk8)) 2438 (zv9)) I19b := f31
        replace f32 : c_fa c_pa A A19b := f32
        replace f33 : M18.1[t29]? = some (.inr (11, [])) := f33
        exact Or.inr (⟨t29, I19b, A19b, B19b, C19b, rfl, hR19b, (show c_fi c_ps I I19b by exact (c_fi_trans (c_fi_up (c_fi_up (c_fi_up (c_fi_up c_fi_refl rfl) rfl) rfl) rfl) f31)), (show c_fa c_pa A A19b by exact f32), (show M18.1[t29]? = some (.inr (11, [])) by exact f33)⟩)
    · rw [e13]
      replace hR6b : w_Rep w_TC fr X (u + 6) (l + 64) I6b A6b B6b C6b M5 := hR6b
      replace f14 : c_fi c_ps I I6b := f14
      replace f15 : c_fa c_pa A A6b := f15
      replace f16 : M5.1[t12]? = some (.inr (11, [])) := f16
      exact Or.inr (⟨t12, I6b, A6b, B6b, C6b, rfl, hR6b, (show c_fi c_ps I I6b by exact f14), (show c_fa c_pa A A6b by exact f15), (show M5.1[t12]? = some (.inr (11, [])) by exact f16)⟩)
  · have h3 : ¬ ((I 2437) = 27) := h3
    show w_W _ _ _ (9, [(0, .ref 38), (1, .int (Int32.ofInt (b)))], [], M) _
    refine w_adv (n := 1) (F' := (10, [(0, .ref 38), (1, .int (Int32.ofInt (b)))], [.int (Int32.ofInt ((-1)))], M)) rfl ?_
    refine w_fin (r := .inl (some ((-1)))) (M' := M) rfl ?_
    exact Or.inl ⟨(-1), I, A, B, C, rfl, ⟨by omega, by omega⟩, hR, (show c_fi c_ps I I by exact c_fi_refl), (show c_fa c_pa A A by exact c_fa_refl), (show (0 ≤ (I 2436) ∧ (I 2436) ≤ (I 773) ∧ ((I 2437) = 0 ∨ (I 2436) < (I 773))) ∧ ((I 773) = (I 773) ∧ (I 2439) = (I 2439) ∧ 0 ≤ (I 2117)) ∧ (I 2436) + 0 ≤ (I 2436) ∧ (I 1670) + 0 ≤ (I 1670) + 2 * ((I 2436) - (I 2436)) ∧ (I 1670) ≤ (I 1670) by (repeat' apply And.intro) <;> first | assumption | omega), (show c_agl A A (I 1670) by exact c_agl_refl), (show (-1) = -1 ∨ c_Bd A (c_W A (c_r (I 2439) 4)) (-1) (I 1670) (I 1670) by exact Or.inl rfl)⟩
def c_choice_Q (fr : Nat → Bool) (X : Nat → Option (q_C (Nat → Int32))) (u l : Nat) (I : Nat → Int) (A : Nat → Int → Int) (B C : Nat → Nat) (M : w_M) (b : Int) : w_X → w_M → Prop := fun r M' => (∃ v : Int, ∃ (I' : Nat → Int) (A' : Nat → Int → Int) (B' C' : Nat → Nat), (r = .inl (some v)) ∧ (w_in v) ∧ (w_Rep w_TC fr X u l I' A' B' C' M') ∧ (c_fi c_ps I I') ∧ (c_fa c_pa A A') ∧ ((0 ≤ (I' 2436) ∧ (I' 2436) ≤ (I' 773) ∧ ((I' 2437) = 0 ∨ (I' 2436) < (I' 773))) ∧ ((I' 773) = (I 773) ∧ (I' 2439) = (I 2439) ∧ 0 ≤ (I' 2117)) ∧ (I 2436) + 1 ≤ (I' 2436) ∧ (I' 1670) + 1 ≤ (I 1670) + 2 * ((I' 2436) - (I 2436)) ∧ (I 1670) ≤ (I' 1670)) ∧ (c_agl A A' (I 1670)) ∧ (c_Wn A' (c_r (I 2439) 1) v (I 1670) (I' 1670))) ∨ (∃ t : Nat, ∃ (I' : Nat → Int) (A' : Nat → Int → Int) (B' C' : Nat → Nat), (r = .inr t) ∧ (w_Rep w_TC fr X (u + 6) (l + 64) I' A' B' C' M') ∧ (c_fi c_ps I I') ∧ (c_fa c_pa A A') ∧ (M'.1[t]? = some (.inr (11, []))))
set_option maxHeartbeats 100000000 in
set_option maxRecDepth 100000 in
theorem c_choice {L : Nat} {xs : Nat → Int32} {d : Nat} {fr : Nat → Bool} {X : Nat → Option (q_C (Nat → Int32))} {u l : Nat} {I : Nat → Int} {A : Nat → Int → Int} {B C : Nat → Nat} {M : w_M} (hA : c_ALL L xs d) (b : Int) (hR : w_Rep w_TC fr X u l I A B C M) (hd : 10 * (24 - (I 2439)) + 9 ≤ (d : Int)) (r_b : w_in b) (hl : l ≤ 7000000) (hNU : (0 ≤ (I 2436) ∧ (I 2436) ≤ (I 773) ∧ (I 773) ≤ 1501 ∧ ((I 2437) = 0 ∨ (I 2436) < (I 773))) ∧ (0 ≤ (I 2439) ∧ (I 2439) ≤ 24 ∧ 0 ≤ (I 2117)) ∧ 0 ≤ (I 1670) ∧ (I 1670) ≤ 2 * (I 2436) + 1) (hk0 : ¬ (I 2437) = 0) : w_W (z_P L xs) d 123 (0, [(0, .ref 38), (1, .int (Int32.ofInt (b)))], [], M) (c_choice_Q fr X u l I A B C M b) := by
  obtain ⟨ra_b, rb_b⟩ := r_b
  obtain ⟨d, rfl⟩ : ∃ d0, d = d0 + 1 := ⟨d - 1, by omega⟩
  refine w_adv (n := 1) (F' := (1, [(0, .ref 38), (1, .int (Int32.ofInt (b)))], [.ref 38], M)) rfl ?_
  refine w_call (cm := 99) (as := [(0, .ref 38)]) (rest := []) (o := some (4, 38)) rfl (w_fitR hR rfl) (c_open hR (show 4 ≤ d by omega) (show l ≤ 7000000 by first | assumption | omega) (show -1 ≤ (I 2436) ∧ (I 2436) < (I 773) ∧ (I 773) ≤ 1501 by first | assumption | omega) (show 0 ≤ (I 2439) ∧ (I 2439) ≤ 24 by first | assumption | omega)) (fun r1 M2 q3 => ?_)
  rcases q3 with ⟨zt4, zk5, zv6, e7, hR3a, f8, f9⟩ | ⟨t10, I3b, A3b, B3b, C3b, e11, hR3b, f12, f13, f14⟩
  · rw [e7]
    replace hR3a : w_Rep w_TC fr X u l (w_up (w_up (w_up (w_up (w_up I 2436 ((I 2436) + 1)) 2441 (zt4)) 2437 (zk5)) 2438 (zv6)) 2439 ((I 2439) + 1)) A B C M2 := hR3a
    replace f8 : ((I 2436) + 1 < (I 773) ∨ zk5 = 0) := f8
    replace f9 : (I 2439) < 24 := f9
    show w_W _ _ _ (4, [(0, .ref 38), (1, .int (Int32.ofInt (b)))], [], M2) _
    refine w_adv (n := 1) (F' := (5, [(0, .ref 38), (1, .int (Int32.ofInt (b)))], [.ref 38], M2)) rfl ?_
    refine w_call (cm := 89) (as := [(0, .ref 38)]) (rest := []) (o := some (4, 38)) rfl (w_fitR hR3a rfl) ((hA d (Nat.lt_succ_self d)).1 hR3a (show 10 * (24 - ((I 2439) + 1)) + 13 ≤ (d : Int) by omega) (show l ≤ 7000000 by first | assumption | omega) (show (0 ≤ (I 2436) + 1 ∧ (I 2436) + 1 ≤ (I 773) ∧ (I 773) ≤ 1501 ∧ (zk5 = 0 ∨ (I 2436) + 1 < (I 773))) ∧ (0 ≤ (I 2439) + 1 ∧ (I 2439) + 1 ≤ 24 ∧ 0 ≤ (I 2117)) ∧ 0 ≤ (I 1670) ∧ (I 1670) ≤ 2 * ((I 2436) + 1) + 1 by (repeat' apply And.intro) <;> first | assumption | omega)) (fun r15 M16 q17 => ?_)
    rcases q17 with ⟨v18, I17a, A17a, B17a, C17a, e19, ⟨r20, r21⟩, hR17a, f22, f23, f24, f25, f26⟩ | ⟨t27, I17b, A17b, B17b, C17b, e28, hR17b, f29, f30, f31⟩
    · rw [e19]
      replace hR17a : w_Rep w_TC fr X u l I17a A17a B17a C17a M16 := hR17a
      replace f22 : c_fi c_ps (w_up (w_up (w_up (w_up (w_up I 2436 ((I 2436) + 1)) 2441 (zt4)) 2437 (zk5)) 2438 (zv6)) 2439 ((I 2439) + 1)) I17a := f22
      replace f23 : c_fa c_pa A A17a := f23
      replace f24 : (0 ≤ (I17a 2436) ∧ (I17a 2436) ≤ (I17a 773) ∧ ((I17a 2437) = 0 ∨ (I17a 2436) < (I17a 773))) ∧ ((I17a 773) = (I 773) ∧ (I17a 2439) = (I 2439) + 1 ∧ 0 ≤ (I17a 2117)) ∧ ((I 2436) + 1) + 1 ≤ (I17a 2436) ∧ (I17a 1670) + 1 ≤ (I 1670) + 2 * ((I17a 2436) - ((I 2436) + 1)) ∧ (I 1670) ≤ (I17a 1670) := f24
      obtain ⟨⟨n32, n33, n34⟩, ⟨n35, n36, n37⟩, n38, n39, n40⟩ := id f24
      clear f24
      replace f25 : c_agl A A17a (I 1670) := f25
      replace f26 : c_Wn A17a (c_r ((I 2439) + 1) 3) v18 (I 1670) (I17a 1670) := f26
      have g41 : c_agl A A17a (I 1670) := c_agl_trans c_agl_refl f25 (show (I 1670) ≤ (I 1670) by omega)
      have k42 : c_Wn A17a (c_r (I 2439) 0) v18 (I 1670) (I17a 1670) := c_Wn_up f26 (show c_r ((I 2439) + 1) 3 ≤ c_r (I 2439) 0 by unfold c_r; omega)
      show w_W _ _ _ (8, [(0, .ref 38), (1, .int (Int32.ofInt (b)))], [.int (Int32.ofInt (v18))], M16) _
      refine w_adv (n := 3) (F' := (12, [(2, .int (Int32.ofInt (v18))), (0, .ref 38), (1, .int (Int32.ofInt (b)))], [.int (Int32.ofInt (26)), .ref 38], M16)) rfl ?_
      refine w_call (cm := 105) (as := [(0, .ref 38), (1, .int (Int32.ofInt (26)))]) (rest := []) (o := some (4, 38)) rfl (w_fitR hR17a rfl) (c_need (26) hR17a (show 4 ≤ d by omega) ⟨by omega, by omega⟩ (show l ≤ 7000000 by first | assumption | omega) (show -1 ≤ (I17a 2436) ∧ ((I17a 2437) = 0 ∨ (I17a 2436) < (I17a 773)) ∧ (I17a 773) ≤ 1501 ∧ 1 ≤ 26 by first | assumption | omega)) (fun r43 M44 q45 => ?_)
      rcases q45 with ⟨zt46, zk47, zv48, e49, hR45a, f50, f51⟩ | ⟨t52, I45b, A45b, B45b, C45b, e53, hR45b, f54, f55, f56⟩
      · rw [e49]
        replace hR45a : w_Rep w_TC fr X u l (w_up (w_up (w_up (w_up I17a 2436 ((I17a 2436) + 1)) 2441 (zt46)) 2437 (zk47)) 2438 (zv48)) A17a B17a C17a M44 := hR45a
        replace f50 : ((I17a 2436) + 1 < (I17a 773) ∨ zk47 = 0) := f50
        replace f51 : (I17a 2437) = 26 := f51
        show w_W _ _ _ (15, [(2, .int (Int32.ofInt (v18))), (0, .ref 38), (1, .int (Int32.ofInt (b)))], [], M44) _
        refine w_adv (n := 2) (F' := (17, [(2, .int (Int32.ofInt (v18))), (0, .ref 38), (1, .int (Int32.ofInt (b)))], [.int (Int32.ofInt (b)), .ref 38], M44)) rfl ?_
        refine w_call (cm := 88) (as := [(0, .ref 38), (1, .int (Int32.ofInt (b)))]) (rest := []) (o := some (4, 38)) rfl (w_fitR hR45a rfl) ((hA d (Nat.lt_succ_self d)).2 (b) hR45a (show 10 * (24 - (I17a 2439)) + 15 ≤ (d : Int) by omega) ⟨by omega, by omega⟩ (show l ≤ 7000000 by first | assumption | omega) (show (0 ≤ (I17a 2436) + 1 ∧ (I17a 2436) + 1 ≤ (I17a 773) ∧ (I17a 773) ≤ 1501 ∧ (zk47 = 0 ∨ (I17a 2436) + 1 < (I17a 773))) ∧ (0 ≤ (I17a 2439) ∧ (I17a 2439) ≤ 24 ∧ 0 ≤ (I17a 2117)) ∧ 0 ≤ (I17a 1670) ∧ (I17a 1670) ≤ 2 * ((I17a 2436) + 1) + 1 by (repeat' apply And.intro) <;> first | assumption | omega)) (fun r57 M58 q59 => ?_)
        rcases q59 with ⟨v60, I59a, A59a, B59a, C59a, e61, ⟨r62, r63⟩, hR59a, f64, f65, f66, f67, f68⟩ | ⟨t69, I59b, A59b, B59b, C59b, e70, hR59b, f71, f72, f73⟩
        · rw [e61]
          replace hR59a : w_Rep w_TC fr X u l I59a A59a B59a C59a M58 := hR59a
          replace f64 : c_fi c_ps (w_up (w_up (w_up (w_up I17a 2436 ((I17a 2436) + 1)) 2441 (zt46)) 2437 (zk47)) 2438 (zv48)) I59a := f64
          replace f65 : c_fa c_pa A17a A59a := f65
          replace f66 : (0 ≤ (I59a 2436) ∧ (I59a 2436) ≤ (I59a 773) ∧ ((I59a 2437) = 0 ∨ (I59a 2436) < (I59a 773))) ∧ ((I59a 773) = (I17a 773) ∧ (I59a 2439) = (I17a 2439) ∧ 0 ≤ (I59a 2117)) ∧ ((I17a 2436) + 1) + 1 ≤ (I59a 2436) ∧ (I59a 1670) + 0 ≤ (I17a 1670) + 2 * ((I59a 2436) - ((I17a 2436) + 1)) ∧ (I17a 1670) ≤ (I59a 1670) := f66
          obtain ⟨⟨n74, n75, n76⟩, ⟨n77, n78, n79⟩, n80, n81, n82⟩ := id f66
          clear f66
          replace f67 : c_agl A17a A59a (I17a 1670) := f67
          replace f68 : c_Bd A59a (c_W A59a (c_r (I17a 2439) 4)) v60 (I17a 1670) (I59a 1670) := f68
          have k83 : c_Wn A59a (c_r (I 2439) 0) v18 (I 1670) (I17a 1670) := c_Wn_agl k42 f67 (show 0 ≤ (I 1670) by omega) (show (I17a 1670) ≤ (I17a 1670) by omega)
          clear k42
          have g84 : c_agl A A59a (I 1670) := c_agl_trans g41 f67 (show (I 1670) ≤ (I17a 1670) by omega)
          have k85 : c_Bd A59a (c_W A59a (c_r (I 2439) 0)) v60 (I17a 1670) (I59a 1670) := c_Bd_up f68 (show c_r (I17a 2439) 4 ≤ c_r (I 2439) 0 by unfold c_r; omega)
          show w_W _ _ _ (20, [(2, .int (Int32.ofInt (v18))), (0, .ref 38), (1, .int (Int32.ofInt (b)))], [.int (Int32.ofInt (v60))], M58) _
          refine w_adv (n := 2) (F' := (22, [(3, .int (Int32.ofInt (v60))), (2, .int (Int32.ofInt (v18))), (0, .ref 38), (1, .int (Int32.ofInt (b)))], [.int (Int32.ofInt (b))], M58)) rfl ?_
          refine w_br1 (a := b) rfl rfl ⟨by omega, by omega⟩ (fun h86 => ?_) (fun h86 => ?_)
          · have h86 : b = 0 := h86
            show w_W _ _ _ (40, [(3, .int (Int32.ofInt (v60))), (2, .int (Int32.ofInt (v18))), (0, .ref 38), (1, .int (Int32.ofInt (b)))], [], M58) _
            refine w_adv (n := 2) (F' := (42, [(3, .int (Int32.ofInt (v60))), (2, .int (Int32.ofInt (v18))), (0, .ref 38), (1, .int (Int32.ofInt (b)))], [.int (Int32.ofInt (b)), .ref 38], M58)) rfl ?_
            refine w_call (cm := 124) (as := [(0, .ref 38), (1, .int (Int32.ofInt (b)))]) (rest := []) (o := some (4, 38)) rfl (w_fitR hR59a rfl) (c_otherwise (c_ALL_dn hA) (b) hR59a (show 10 * (24 - (I59a 2439)) + 17 ≤ (d : Int) by omega) ⟨by omega, by omega⟩ (show l ≤ 7000000 by first | assumption | omega) (show (0 ≤ (I59a 2436) ∧ (I59a 2436) ≤ (I59a 773) ∧ (I59a 773) ≤ 1501 ∧ ((I59a 2437) = 0 ∨ (I59a 2436) < (I59a 773))) ∧ (0 ≤ (I59a 2439) ∧ (I59a 2439) ≤ 24 ∧ 0 ≤ (I59a 2117)) ∧ 0 ≤ (I59a 1670) ∧ (I59a 1670) ≤ 2 * (I59a 2436) + 1 by (repeat' apply And.intro) <;> first | assumption | omega)) (fun r87 M88 q89 => ?_)
            rcases q89 with ⟨v90, I89a, A89a, B89a, C89a, e91, ⟨r92, r93⟩, hR89a, f94, f95, f96, f97, f98⟩ | ⟨t99, I89b, A89b, B89b, C89b, e100, hR89b, f101, f102, f103⟩
            · rw [e91]
              replace hR89a : w_Rep w_TC fr X u l I89a A89a B89a C89a M88 := hR89a
              replace f94 : c_fi c_ps I59a I89a := f94
              replace f95 : c_fa c_pa A59a A89a := f95
              replace f96 : (0 ≤ (I89a 2436) ∧ (I89a 2436) ≤ (I89a 773) ∧ ((I89a 2437) = 0 ∨ (I89a 2436) < (I89a 773))) ∧ ((I89a 773) = (I59a 773) ∧ (I89a 2439) = (I59a 2439) ∧ 0 ≤ (I89a 2117)) ∧ (I59a 2436) + 0 ≤ (I89a 2436) ∧ (I89a 1670) + 0 ≤ (I59a 1670) + 2 * ((I89a 2436) - (I59a 2436)) ∧ (I59a 1670) ≤ (I89a 1670) := f96
              obtain ⟨⟨n104, n105, n106⟩, ⟨n107, n108, n109⟩, n110, n111, n112⟩ := id f96
              clear f96
              replace f97 : c_agl A59a A89a (I59a 1670) := f97
              replace f98 : v90 = -1 ∨ c_Bd A89a (c_W A89a (c_r (I59a 2439) 4)) v90 (I59a 1670) (I89a 1670) := f98
              have k113 : c_Wn A89a (c_r (I 2439) 0) v18 (I 1670) (I17a 1670) := c_Wn_agl k83 f97 (show 0 ≤ (I 1670) by omega) (show (I17a 1670) ≤ (I59a 1670) by omega)
              clear k83
              have k114 : c_Bd A89a (c_W A89a (c_r (I 2439) 0)) v60 (I17a 1670) (I59a 1670) := c_Bd_agl k85 f97 (show 0 ≤ (I17a 1670) by omega) (show (I59a 1670) ≤ (I59a 1670) by omega)
              clear k85
              have g115 : c_agl A A89a (I 1670) := c_agl_trans g84 f97 (show (I 1670) ≤ (I59a 1670) by omega)
              have k116 : v90 = -1 ∨ c_Bd A89a (c_W A89a (c_r (I 2439) 0)) v90 (I59a 1670) (I89a 1670) := f98.imp_right (fun g => c_Bd_up g (show c_r (I59a 2439) 4 ≤ c_r (I 2439) 0 by unfold c_r; omega))
              show w_W _ _ _ (45, [(3, .int (Int32.ofInt (v60))), (2, .int (Int32.ofInt (v18))), (0, .ref 38), (1, .int (Int32.ofInt (b)))], [.int (Int32.ofInt (v90))], M88) _
              refine w_adv (n := 3) (F' := (50, [(4, .int (Int32.ofInt (v90))), (3, .int (Int32.ofInt (v60))), (2, .int (Int32.ofInt (v18))), (0, .ref 38), (1, .int (Int32.ofInt (b)))], [.int (Int32.ofInt (24)), .ref 38], M88)) rfl ?_
              refine w_call (cm := 113) (as := [(0, .ref 38), (1, .int (Int32.ofInt (24)))]) (rest := []) (o := some (4, 38)) rfl (w_fitR hR89a rfl) (c_close (24) hR89a (show 4 ≤ d by omega) ⟨by omega, by omega⟩ (show l ≤ 7000000 by first | assumption | omega) (show -1 ≤ (I89a 2436) ∧ ((I89a 2437) = 0 ∨ (I89a 2436) < (I89a 773)) ∧ (I89a 773) ≤ 1501 ∧ 1 ≤ 24 by first | assumption | omega) (show 0 ≤ (I89a 2439) ∧ (I89a 2439) ≤ 24 by first | assumption | omega)) (fun r117 M118 q119 => ?_)
              rcases q119 with ⟨zt120, zk121, zv122, e123, hR119a, f124, f125⟩ | ⟨t126, I119b, A119b, B119b, C119b, e127, hR119b, f128, f129, f130⟩
              · rw [e123]
                replace hR119a : w_Rep w_TC fr X u l (w_up (w_up (w_up (w_up (w_up I89a 2436 ((I89a 2436) + 1)) 2441 (zt120)) 2437 (zk121)) 2438 (zv122)) 2439 ((I89a 2439) - 1)) A89a B89a C89a M118 := hR119a
                replace f124 : ((I89a 2436) + 1 < (I89a 773) ∨ zk121 = 0) := f124
                replace f125 : (I89a 2437) = 24 := f125
                show w_W _ _ _ (53, [(4, .int (Int32.ofInt (v90))), (3, .int (Int32.ofInt (v60))), (2, .int (Int32.ofInt (v18))), (0, .ref 38), (1, .int (Int32.ofInt (b)))], [], M118) _
                refine w_adv (n := 1) (F' := (54, [(4, .int (Int32.ofInt (v90))), (3, .int (Int32.ofInt (v60))), (2, .int (Int32.ofInt (v18))), (0, .ref 38), (1, .int (Int32.ofInt (b)))], [.ref 38], M118)) rfl ?_
                refine w_gf (v := .ref 26) hR119a rfl rfl rfl rfl ?_
                refine w_adv (n := 4) (F' := (63, [(4, .int (Int32.ofInt (v90))), (3, .int (Int32.ofInt (v60))), (2, .int (Int32.ofInt (v18))), (0, .ref 38), (1, .int (Int32.ofInt (b)))], [.int (Int32.ofInt (v90)), .int (Int32.ofInt (v60)), .int (Int32.ofInt (v18)), .int (Int32.ofInt (14)), .ref 26], M118)) rfl ?_
                refine w_call (cm := 94) (as := [(0, .ref 26), (1, .int (Int32.ofInt (14))), (2, .int (Int32.ofInt (v18))), (3, .int (Int32.ofInt (v60))), (4, .int (Int32.ofInt (v90)))]) (rest := []) (o := some (8, 26)) rfl (w_fitR hR119a rfl) (c_mkn (14) (v18) (v60) (v90) hR119a (show 2 ≤ d by omega) ⟨by omega, by omega⟩ ⟨by omega, by omega⟩ ⟨by omega, by omega⟩ ⟨by omega, by omega⟩ (show 0 ≤ (I89a 1670) ∧ (I89a 1670) < 3016 by first | assumption | omega)) (fun r131 M132 q133 => ?_)
                rcases q133 with ⟨A134, e135, hR133a, f136, f137⟩
                rw [e135]
                replace hR133a : w_Rep w_TC fr X u l (w_up (w_up (w_up (w_up (w_up (w_up I89a 2436 ((I89a 2436) + 1)) 2441 (zt120)) 2437 (zk121)) 2438 (zv122)) 2439 ((I89a 2439) - 1)) 1670 ((I89a 1670) + 1)) A134 B89a C89a M132 := hR133a
                replace f136 : c_fa c_pa A89a A134 := f136
                replace f137 : c_mk A89a A134 (I89a 1670) 14 v18 v60 v90 := f137
                have k138 : c_Wn A134 (c_r (I 2439) 1) (I89a 1670) (I 1670) ((I89a 1670) + 1) := c_Wn_up ⟨c_W_14 f137 (show 0 ≤ (I 1670) by omega) (show (I59a 1670) ≤ (I89a 1670) by omega) k113.1 (c_BdW_win k114 (show (I17a 1670) ≤ (I17a 1670) by omega) (show (I59a 1670) ≤ (I59a 1670) by omega)) (k116.imp_right (fun g => c_BdW_win g (show (I59a 1670) ≤ (I59a 1670) by omega) (show (I89a 1670) ≤ (I89a 1670) by omega))), f137.2.2.2.2.2⟩ (show (c_r (I 2439) 0) + 1 ≤ (c_r (I 2439) 1) by unfold c_r; omega)
                have g139 : c_agl A A134 (I 1670) := c_agl_trans g115 f137.1 (show (I 1670) ≤ (I89a 1670) by omega)
                show w_W _ _ _ (66, [(4, .int (Int32.ofInt (v90))), (3, .int (Int32.ofInt (v60))), (2, .int (Int32.ofInt (v18))), (0, .ref 38), (1, .int (Int32.ofInt (b)))], [.int (Int32.ofInt ((I89a 1670)))], M132) _
                refine w_fin (r := .inl (some ((I89a 1670)))) (M' := M132) rfl ?_
                exact Or.inl ⟨(I89a 1670), (w_up (w_up (w_up (w_up (w_up (w_up I89a 2436 ((I89a 2436) + 1)) 2441 (zt120)) 2437 (zk121)) 2438 (zv122)) 2439 ((I89a 2439) - 1)) 1670 ((I89a 1670) + 1)), A134, B89a, C89a, rfl, ⟨by omega, by omega⟩, hR133a, (show c_fi c_ps I (w_up (w_up (w_up (w_up (w_up (w_up I89a 2436 ((I89a 2436) + 1)) 2441 (zt120)) 2437 (zk121)) 2438 (zv122)) 2439 ((I89a 2439) - 1)) 1670 ((I89a 1670) + 1)) by exact (c_fi_up (c_fi_up (c_fi_up (c_fi_up (c_fi_up (c_fi_up (c_fi_trans (c_fi_trans (c_fi_up (c_fi_up (c_fi_up (c_fi_up (c_fi_trans (c_fi_up (c_fi_up (c_fi_up (c_fi_up (c_fi_up c_fi_refl rfl) rfl) rfl) rfl) rfl) f22) rfl) rfl) rfl) rfl) f64) f94) rfl) rfl) rfl) rfl) rfl) rfl)), (show c_fa c_pa A A134 by exact (c_fa_trans (c_fa_trans (c_fa_trans f23 f65) f95) f136)), (show (0 ≤ (I89a 2436) + 1 ∧ (I89a 2436) + 1 ≤ (I89a 773) ∧ (zk121 = 0 ∨ (I89a 2436) + 1 < (I89a 773))) ∧ ((I89a 773) = (I 773) ∧ (I89a 2439) - 1 = (I 2439) ∧ 0 ≤ (I89a 2117)) ∧ (I 2436) + 1 ≤ (I89a 2436) + 1 ∧ ((I89a 1670) + 1) + 1 ≤ (I 1670) + 2 * (((I89a 2436) + 1) - (I 2436)) ∧ (I 1670) ≤ (I89a 1670) + 1 by (repeat' apply And.intro) <;> first | assumption | omega), (show c_agl A A134 (I 1670) by exact g139), (show c_Wn A134 (c_r (I 2439) 1) (I89a 1670) (I 1670) ((I89a 1670) + 1) by exact c_Wn_win (c_Wn_up k138 (show c_r (I 2439) 1 ≤ c_r (I 2439) 1 by unfold c_r; omega)) (show (I 1670) ≤ (I 1670) by omega) (show ((I89a 1670) + 1) ≤ ((I89a 1670) + 1) by omega))⟩
              · rw [e127]
                replace hR119b : w_Rep w_TC fr X (u + 6) (l + 64) I119b A119b B119b C119b M118 := hR119b
                replace f128 : c_fi c_ps I89a I119b := f128
                replace f129 : c_fa c_pa A89a A119b := f129
                replace f130 : M118.1[t126]? = some (.inr (11, [])) := f130
                exact Or.inr (⟨t126, I119b, A119b, B119b, C119b, rfl, hR119b, (show c_fi c_ps I I119b by exact (c_fi_trans (c_fi_trans (c_fi_trans (c_fi_up (c_fi_up (c_fi_up (c_fi_up (c_fi_trans (c_fi_up (c_fi_up (c_fi_up (c_fi_up (c_fi_up c_fi_refl rfl) rfl) rfl) rfl) rfl) f22) rfl) rfl) rfl) rfl) f64) f94) f128)), (show c_fa c_pa A A119b by exact (c_fa_trans (c_fa_trans (c_fa_trans f23 f65) f95) f129)), (show M118.1[t126]? = some (.inr (11, [])) by exact f130)⟩)
            · rw [e100]
              replace hR89b : w_Rep w_TC fr X (u + 6) (l + 64) I89b A89b B89b C89b M88 := hR89b
              replace f101 : c_fi c_ps I59a I89b := f101
              replace f102 : c_fa c_pa A59a A89b := f102
              replace f103 : M88.1[t99]? = some (.inr (11, [])) := f103
              exact Or.inr (⟨t99, I89b, A89b, B89b, C89b, rfl, hR89b, (show c_fi c_ps I I89b by exact (c_fi_trans (c_fi_trans (c_fi_up (c_fi_up (c_fi_up (c_fi_up (c_fi_trans (c_fi_up (c_fi_up (c_fi_up (c_fi_up (c_fi_up c_fi_refl rfl) rfl) rfl) rfl) rfl) f22) rfl) rfl) rfl) rfl) f64) f101)), (show c_fa c_pa A A89b by exact (c_fa_trans (c_fa_trans f23 f65) f102)), (show M88.1[t99]? = some (.inr (11, [])) by exact f103)⟩)
          · have h86 : ¬ (b = 0) := h86
            show w_W _ _ _ (25, [(3, .int (Int32.ofInt (v60))), (2, .int (Int32.ofInt (v18))), (0, .ref 38), (1, .int (Int32.ofInt (b)))], [], M58) _
            refine w_adv (n := 1) (F' := (26, [(3, .int (Int32.ofInt (v60))), (2, .int (Int32.ofInt (v18))), (0, .ref 38), (1, .int (Int32.ofInt (b)))], [.ref 38], M58)) rfl ?_
            refine w_gf (v := .int (Int32.ofInt ((I59a 2437)))) hR59a rfl rfl rfl rfl ?_
            obtain ⟨r140, r141⟩ : -2147483648 ≤ (I59a 2437) ∧ (I59a 2437) ≤ 2147483647 := hR59a.ri 2437
            refine w_adv (n := 1) (F' := (31, [(3, .int (Int32.ofInt (v60))), (2, .int (Int32.ofInt (v18))), (0, .ref 38), (1, .int (Int32.ofInt (b)))], [.int (Int32.ofInt (27)), .int (Int32.ofInt ((I59a 2437)))], M58)) rfl ?_
            refine w_br2 (a := (I59a 2437)) (b := 27) rfl rfl ⟨by omega, by omega⟩ ⟨by omega, by omega⟩ (fun h142 => ?_) (fun h142 => ?_)
            · have h142 : (I59a 2437) = 27 := h142
              show w_W _ _ _ (40, [(3, .int (Int32.ofInt (v60))), (2, .int (Int32.ofInt (v18))), (0, .ref 38), (1, .int (Int32.ofInt (b)))], [], M58) _
              refine w_adv (n := 2) (F' := (42, [(3, .int (Int32.ofInt (v60))), (2, .int (Int32.ofInt (v18))), (0, .ref 38), (1, .int (Int32.ofInt (b)))], [.int (Int32.ofInt (b)), .ref 38], M58)) rfl ?_
              refine w_call (cm := 124) (as := [(0, .ref 38), (1, .int (Int32.ofInt (b)))]) (rest := []) (o := some (4, 38)) rfl (w_fitR hR59a rfl) (c_otherwise (c_ALL_dn hA) (b) hR59a (show 10 * (24 - (I59a 2439)) + 17 ≤ (d : Int) by omega) ⟨by omega, by omega⟩ (show l ≤ 7000000 by first | assumption | omega) (show (0 ≤ (I59a 2436) ∧ (I59a 2436) ≤ (I59a 773) ∧ (I59a 773) ≤ 1501 ∧ ((I59a 2437) = 0 ∨ (I59a 2436) < (I59a 773))) ∧ (0 ≤ (I59a 2439) ∧ (I59a 2439) ≤ 24 ∧ 0 ≤ (I59a 2117)) ∧ 0 ≤ (I59a 1670) ∧ (I59a 1670) ≤ 2 * (I59a 2436) + 1 by (repeat' apply And.intro) <;> first | assumption | omega)) (fun r143 M144 q145 => ?_)
              rcases q145 with ⟨v146, I145a, A145a, B145a, C145a, e147, ⟨r148, r149⟩, hR145a, f150, f151, f152, f153, f154⟩ | ⟨t155, I145b, A145b, B145b, C145b, e156, hR145b, f157, f158, f159⟩
              · rw [e147]
                replace hR145a : w_Rep w_TC fr X u l I145a A145a B145a C145a M144 := hR145a
                replace f150 : c_fi c_ps I59a I145a := f150
                replace f151 : c_fa c_pa A59a A145a := f151
                replace f152 : (0 ≤ (I145a 2436) ∧ (I145a 2436) ≤ (I145a 773) ∧ ((I145a 2437) = 0 ∨ (I145a 2436) < (I145a 773))) ∧ ((I145a 773) = (I59a 773) ∧ (I145a 2439) = (I59a 2439) ∧ 0 ≤ (I145a 2117)) ∧ (I59a 2436) + 0 ≤ (I145a 2436) ∧ (I145a 1670) + 0 ≤ (I59a 1670) + 2 * ((I145a 2436) - (I59a 2436)) ∧ (I59a 1670) ≤ (I145a 1670) := f152
                obtain ⟨⟨n160, n161, n162⟩, ⟨n163, n164, n165⟩, n166, n167, n168⟩ := id f152
                clear f152
                replace f153 : c_agl A59a A145a (I59a 1670) := f153
                replace f154 : v146 = -1 ∨ c_Bd A145a (c_W A145a (c_r (I59a 2439) 4)) v146 (I59a 1670) (I145a 1670) := f154
                have k169 : c_Wn A145a (c_r (I 2439) 0) v18 (I 1670) (I17a 1670) := c_Wn_agl k83 f153 (show 0 ≤ (I 1670) by omega) (show (I17a 1670) ≤ (I59a 1670) by omega)
                clear k83
                have k170 : c_Bd A145a (c_W A145a (c_r (I 2439) 0)) v60 (I17a 1670) (I59a 1670) := c_Bd_agl k85 f153 (show 0 ≤ (I17a 1670) by omega) (show (I59a 1670) ≤ (I59a 1670) by omega)
                clear k85
                have g171 : c_agl A A145a (I 1670) := c_agl_trans g84 f153 (show (I 1670) ≤ (I59a 1670) by omega)
                have k172 : v146 = -1 ∨ c_Bd A145a (c_W A145a (c_r (I 2439) 0)) v146 (I59a 1670) (I145a 1670) := f154.imp_right (fun g => c_Bd_up g (show c_r (I59a 2439) 4 ≤ c_r (I 2439) 0 by unfold c_r; omega))
                show w_W _ _ _ (45, [(3, .int (Int32.ofInt (v60))), (2, .int (Int32.ofInt (v18))), (0, .ref 38), (1, .int (Int32.ofInt (b)))], [.int (Int32.ofInt (v146))], M144) _
                refine w_adv (n := 3) (F' := (50, [(4, .int (Int32.ofInt (v146))), (3, .int (Int32.ofInt (v60))), (2, .int (Int32.ofInt (v18))), (0, .ref 38), (1, .int (Int32.ofInt (b)))], [.int (Int32.ofInt (24)), .ref 38], M144)) rfl ?_
                refine w_call (cm := 113) (as := [(0, .ref 38), (1, .int (Int32.ofInt (24)))]) (rest := []) (o := some (4, 38)) rfl (w_fitR hR145a rfl) (c_close (24) hR145a (show 4 ≤ d by omega) ⟨by omega, by omega⟩ (show l ≤ 7000000 by first | assumption | omega) (show -1 ≤ (I145a 2436) ∧ ((I145a 2437) = 0 ∨ (I145a 2436) < (I145a 773)) ∧ (I145a 773) ≤ 1501 ∧ 1 ≤ 24 by first | assumption | omega) (show 0 ≤ (I145a 2439) ∧ (I145a 2439) ≤ 24 by first | assumption | omega)) (fun r173 M174 q175 => ?_)
                rcases q175 with ⟨zt176, zk177, zv178, e179, hR175a, f180, f181⟩ | ⟨t182, I175b, A175b, B175b, C175b, e183, hR175b, f184, f185, f186⟩
                · rw [e179]
                  replace hR175a : w_Rep w_TC fr X u l (w_up (w_up (w_up (w_up (w_up I145a 2436 ((I145a 2436) + 1)) 2441 (zt176)) 2437 (zk177)) 2438 (zv178)) 2439 ((I145a 2439) - 1)) A145a B145a C145a M174 := hR175a
                  replace f180 : ((I145a 2436) + 1 < (I145a 773) ∨ zk177 = 0) := f180
                  replace f181 : (I145a 2437) = 24 := f181
                  show w_W _ _ _ (53, [(4, .int (Int32.ofInt (v146))), (3, .int (Int32.ofInt (v60))), (2, .int (Int32.ofInt (v18))), (0, .ref 38), (1, .int (Int32.ofInt (b)))], [], M174) _
                  refine w_adv (n := 1) (F' := (54, [(4, .int (Int32.ofInt (v146))), (3, .int (Int32.ofInt (v60))), (2, .int (Int32.ofInt (v18))), (0, .ref 38), (1, .int (Int32.ofInt (b)))], [.ref 38], M174)) rfl ?_
                  refine w_gf (v := .ref 26) hR175a rfl rfl rfl rfl ?_
                  refine w_adv (n := 4) (F' := (63, [(4, .int (Int32.ofInt (v146))), (3, .int (Int32.ofInt (v60))), (2, .int (Int32.ofInt (v18))), (0, .ref 38), (1, .int (Int32.ofInt (b)))], [.int (Int32.ofInt (v146)), .int (Int32.ofInt (v60)), .int (Int32.ofInt (v18)), .int (Int32.ofInt (14)), .ref 26], M174)) rfl ?_
                  refine w_call (cm := 94) (as := [(0, .ref 26), (1, .int (Int32.ofInt (14))), (2, .int (Int32.ofInt (v18))), (3, .int (Int32.ofInt (v60))), (4, .int (Int32.ofInt (v146)))]) (rest := []) (o := some (8, 26)) rfl (w_fitR hR175a rfl) (c_mkn (14) (v18) (v60) (v146) hR175a (show 2 ≤ d by omega) ⟨by omega, by omega⟩ ⟨by omega, by omega⟩ ⟨by omega, by omega⟩ ⟨by omega, by omega⟩ (show 0 ≤ (I145a 1670) ∧ (I145a 1670) < 3016 by first | assumption | omega)) (fun r187 M188 q189 => ?_)
                  rcases q189 with ⟨A190, e191, hR189a, f192, f193⟩
                  rw [e191]
                  replace hR189a : w_Rep w_TC fr X u l (w_up (w_up (w_up (w_up (w_up (w_up I145a 2436 ((I145a 2436) + 1)) 2441 (zt176)) 2437 (zk177)) 2438 (zv178)) 2439 ((I145a 2439) - 1)) 1670 ((I145a 1670) + 1)) A190 B145a C145a M188 := hR189a
                  replace f192 : c_fa c_pa A145a A190 := f192
                  replace f193 : c_mk A145a A190 (I145a 1670) 14 v18 v60 v146 := f193
                  have k194 : c_Wn A190 (c_r (I 2439) 1) (I145a 1670) (I 1670) ((I145a 1670) + 1) := c_Wn_up ⟨c_W_14 f193 (show 0 ≤ (I 1670) by omega) (show (I59a 1670) ≤ (I145a 1670) by omega) k169.1 (c_BdW_win k170 (show (I17a 1670) ≤ (I17a 1670) by omega) (show (I59a 1670) ≤ (I59a 1670) by omega)) (k172.imp_right (fun g => c_BdW_win g (show (I59a 1670) ≤ (I59a 1670) by omega) (show (I145a 1670) ≤ (I145a 1670) by omega))), f193.2.2.2.2.2⟩ (show (c_r (I 2439) 0) + 1 ≤ (c_r (I 2439) 1) by unfold c_r; omega)
                  have g195 : c_agl A A190 (I 1670) := c_agl_trans g171 f193.1 (show (I 1670) ≤ (I145a 1670) by omega)
                  show w_W _ _ _ (66, [(4, .int (Int32.ofInt (v146))), (3, .int (Int32.ofInt (v60))), (2, .int (Int32.ofInt (v18))), (0, .ref 38), (1, .int (Int32.ofInt (b)))], [.int (Int32.ofInt ((I145a 1670)))], M188) _
                  refine w_fin (r := .inl (some ((I145a 1670)))) (M' := M188) rfl ?_
                  exact Or.inl ⟨(I145a 1670), (w_up (w_up (w_up (w_up (w_up (w_up I145a 2436 ((I145a 2436) + 1)) 2441 (zt176)) 2437 (zk177)) 2438 (zv178)) 2439 ((I145a 2439) - 1)) 1670 ((I145a 1670) + 1)), A190, B145a, C145a, rfl, ⟨by omega, by omega⟩, hR189a, (show c_fi c_ps I (w_up (w_up (w_up (w_up (w_up (w_up I145a 2436 ((I145a 2436) + 1)) 2441 (zt176)) 2437 (zk177)) 2438 (zv178)) 2439 ((I145a 2439) - 1)) 1670 ((I145a 1670) + 1)) by exact (c_fi_up (c_fi_up (c_fi_up (c_fi_up (c_fi_up (c_fi_up (c_fi_trans (c_fi_trans (c_fi_up (c_fi_up (c_fi_up (c_fi_up (c_fi_trans (c_fi_up (c_fi_up (c_fi_up (c_fi_up (c_fi_up c_fi_refl rfl) rfl) rfl) rfl) rfl) f22) rfl) rfl) rfl) rfl) f64) f150) rfl) rfl) rfl) rfl) rfl) rfl)), (show c_fa c_pa A A190 by exact (c_fa_trans (c_fa_trans (c_fa_trans f23 f65) f151) f192)), (show (0 ≤ (I145a 2436) + 1 ∧ (I145a 2436) + 1 ≤ (I145a 773) ∧ (zk177 = 0 ∨ (I145a 2436) + 1 < (I145a 773))) ∧ ((I145a 773) = (I 773) ∧ (I145a 2439) - 1 = (I 2439) ∧ 0 ≤ (I145a 2117)) ∧ (I 2436) + 1 ≤ (I145a 2436) + 1 ∧ ((I145a 1670) + 1) + 1 ≤ (I 1670) + 2 * (((I145a 2436) + 1) - (I 2436)) ∧ (I 1670) ≤ (I145a 1670) + 1 by (repeat' apply And.intro) <;> first | assumption | omega), (show c_agl A A190 (I 1670) by exact g195), (show c_Wn A190 (c_r (I 2439) 1) (I145a 1670) (I 1670) ((I145a 1670) + 1) by exact c_Wn_win (c_Wn_up k194 (show c_r (I 2439) 1 ≤ c_r (I 2439) 1 by unfold c_r; omega)) (show (I 1670) ≤ (I 1670) by omega) (show ((I145a 1670) + 1) ≤ ((I145a 1670) + 1) by omega))⟩
                · rw [e183]
                  replace hR175b : w_Rep w_TC fr X (u + 6) (l + 64) I175b A175b B175b C175b M174 := hR175b
                  replace f184 : c_fi c_ps I145a I175b := f184
                  replace f185 : c_fa c_pa A145a A175b := f185
                  replace f186 : M174.1[t182]? = some (.inr (11, [])) := f186
                  exact Or.inr (⟨t182, I175b, A175b, B175b, C175b, rfl, hR175b, (show c_fi c_ps I I175b by exact (c_fi_trans (c_fi_trans (c_fi_trans (c_fi_up (c_fi_up (c_fi_up (c_fi_up (c_fi_trans (c_fi_up (c_fi_up (c_fi_up (c_fi_up (c_fi_up c_fi_refl rfl) rfl) rfl) rfl) rfl) f22) rfl) rfl) rfl) rfl) f64) f150) f184)), (show c_fa c_pa A A175b by exact (c_fa_trans (c_fa_trans (c_fa_trans f23 f65) f151) f185)), (show M174.1[t182]? = some (.inr (11, [])) by exact f186)⟩)
              · rw [e156]
                replace hR145b : w_Rep w_TC fr X (u + 6) (l + 64) I145b A145b B145b C145b M144 := hR145b
                replace f157 : c_fi c_ps I59a I145b := f157
                replace f158 : c_fa c_pa A59a A145b := f158
                replace f159 : M144.1[t155]? = some (.inr (11, [])) := f159
                exact Or.inr (⟨t155, I145b, A145b, B145b, C145b, rfl, hR145b, (show c_fi c_ps I I145b by exact (c_fi_trans (c_fi_trans (c_fi_up (c_fi_up (c_fi_up (c_fi_up (c_fi_trans (c_fi_up (c_fi_up (c_fi_up (c_fi_up (c_fi_up c_fi_refl rfl) rfl) rfl) rfl) rfl) f22) rfl) rfl) rfl) rfl) f64) f157)), (show c_fa c_pa A A145b by exact (c_fa_trans (c_fa_trans f23 f65) f158)), (show M144.1[t155]? = some (.inr (11, [])) by exact f159)⟩)
            · have h142 : ¬ ((I59a 2437) = 27) := h142
              show w_W _ _ _ (34, [(3, .int (Int32.ofInt (v60))), (2, .int (Int32.ofInt (v18))), (0, .ref 38), (1, .int (Int32.ofInt (b)))], [], M58) _
              refine w_adv (n := 2) (F' := (36, [(3, .int (Int32.ofInt (v60))), (2, .int (Int32.ofInt (v18))), (0, .ref 38), (1, .int (Int32.ofInt (b)))], [.int (Int32.ofInt (1)), .ref 38], M58)) rfl ?_
              refine w_call (cm := 100) (as := [(0, .ref 38), (1, .int (Int32.ofInt (1)))]) (rest := []) (o := some (4, 38)) rfl (w_fitR hR59a rfl) (c_fail (1) hR59a ⟨by omega, by omega⟩ (show l ≤ 7000000 by first | assumption | omega) (show 1 ≤ 1 ∧ 1 ≤ 7 by first | assumption | omega)) (fun r196 M197 q198 => ?_)
              rcases q198 with ⟨t199, I198a, A198a, B198a, C198a, e200, hR198a, f201, f202, f203⟩
              rw [e200]
              replace hR198a : w_Rep w_TC fr X (u + 6) (l + 64) I198a A198a B198a C198a M197 := hR198a
              replace f201 : c_fi c_ps I59a I198a := f201
              replace f202 : c_fa c_pa A59a A198a := f202
              replace f203 : M197.1[t199]? = some (.inr (11, [])) := f203
              exact Or.inr (⟨t199, I198a, A198a, B198a, C198a, rfl, hR198a, (show c_fi c_ps I I198a by exact (c_fi_trans (c_fi_trans (c_fi_up (c_fi_up (c_fi_up (c_fi_up (c_fi_trans (c_fi_up (c_fi_up (c_fi_up (c_fi_up (c_fi_up c_fi_refl rfl) rfl) rfl) rfl) rfl) f22) rfl) rfl) rfl) rfl) f64) f201)), (show c_fa c_pa A A198a by exact (c_fa_trans (c_fa_trans f23 f65) f202)), (show M197.1[t199]? = some (.inr (11, [])) by exact f203)⟩)
        · rw [e70]
          replace hR59b : w_Rep w_TC fr X (u + 6) (l + 64) I59b A59b B59b C59b M58 := hR59b
          replace f71 : c_fi c_ps (w_up (w_up (w_up (w_up I17a 2436 ((I17a 2436) + 1)) 2441 (zt46)) 2437 (zk47)) 2438 (zv48)) I59b := f71
          replace f72 : c_fa c_pa A17a A59b := f72
          replace f73 : M58.1[t69]? = some (.inr (11, [])) := f73
          exact Or.inr (⟨t69, I59b, A59b, B59b, C59b, rfl, hR59b, (show c_fi c_ps I I59b by exact (c_fi_trans (c_fi_up (c_fi_up (c_fi_up (c_fi_up (c_fi_trans (c_fi_up (c_fi_up (c_fi_up (c_fi_up (c_fi_up c_fi_refl rfl) rfl) rfl) rfl) rfl) f22) rfl) rfl) rfl) rfl) f71)), (show c_fa c_pa A A59b by exact (c_fa_trans f23 f72)), (show M58.1[t69]? = some (.inr (11, [])) by exact f73)⟩)
      · rw [e53]
        replace hR45b : w_Rep w_TC fr X (u + 6) (l + 64) I45b A45b B45b C45b M44 := hR45b
        replace f54 : c_fi c_ps I17a I45b := f54
        replace f55 : c_fa c_pa A17a A45b := f55
        replace f56 : M44.1[t52]? = some (.inr (11, [])) := f56
        exact Or.inr (⟨t52, I45b, A45b, B45b, C45b, rfl, hR45b, (show c_fi c_ps I I45b by exact (c_fi_trans (c_fi_trans (c_fi_up (c_fi_up (c_fi_up (c_fi_up (c_fi_up c_fi_refl rfl) rfl) rfl) rfl) rfl) f22) f54)), (show c_fa c_pa A A45b by exact (c_fa_trans f23 f55)), (show M44.1[t52]? = some (.inr (11, [])) by exact f56)⟩)
    · rw [e28]
      replace hR17b : w_Rep w_TC fr X (u + 6) (l + 64) I17b A17b B17b C17b M16 := hR17b
      replace f29 : c_fi c_ps (w_up (w_up (w_up (w_up (w_up I 2436 ((I 2436) + 1)) 2441 (zt4)) 2437 (zk5)) 2438 (zv6)) 2439 ((I 2439) + 1)) I17b := f29
      replace f30 : c_fa c_pa A A17b := f30
      replace f31 : M16.1[t27]? = some (.inr (11, [])) := f31
      exact Or.inr (⟨t27, I17b, A17b, B17b, C17b, rfl, hR17b, (show c_fi c_ps I I17b by exact (c_fi_trans (c_fi_up (c_fi_up (c_fi_up (c_fi_up (c_fi_up c_fi_refl rfl) rfl) rfl) rfl) rfl) f29)), (show c_fa c_pa A A17b by exact f30), (show M16.1[t27]? = some (.inr (11, [])) by exact f31)⟩)
  · rw [e11]
    replace hR3b : w_Rep w_TC fr X (u + 6) (l + 64) I3b A3b B3b C3b M2 := hR3b
    replace f12 : c_fi c_ps I I3b := f12
    replace f13 : c_fa c_pa A A3b := f13
    replace f14 : M2.1[t10]? = some (.inr (11, [])) := f14
    exact Or.inr (⟨t10, I3b, A3b, B3b, C3b, rfl, hR3b, (show c_fi c_ps I I3b by exact f12), (show c_fa c_pa A A3b by exact f13), (show M2.1[t10]? = some (.inr (11, [])) by exact f14)⟩)
