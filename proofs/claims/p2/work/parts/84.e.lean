def c_pattern_Q (fr : Nat → Bool) (X : Nat → Option (q_C (Nat → Int32))) (u l : Nat) (I : Nat → Int) (A : Nat → Int → Int) (B C : Nat → Nat) (M : w_M) : w_X → w_M → Prop := fun r M' => (∃ v : Int, ∃ (I' : Nat → Int) (A' : Nat → Int → Int) (B' C' : Nat → Nat), (r = .inl (some v)) ∧ (w_in v) ∧ (w_Rep w_TC fr X u l I' A' B' C' M') ∧ (c_fi c_ps I I') ∧ (c_fa c_pa A A') ∧ ((0 ≤ (I' 2436) ∧ (I' 2436) ≤ (I' 773) ∧ ((I' 2437) = 0 ∨ (I' 2436) < (I' 773))) ∧ ((I' 773) = (I 773) ∧ (I' 2439) = (I 2439) ∧ 0 ≤ (I' 2117)) ∧ (I 2436) + 1 ≤ (I' 2436) ∧ (I' 1670) + 1 ≤ (I 1670) + 2 * ((I' 2436) - (I 2436)) ∧ (I 1670) ≤ (I' 1670)) ∧ (c_agl A A' (I 1670))) ∨ (∃ t : Nat, ∃ (I' : Nat → Int) (A' : Nat → Int → Int) (B' C' : Nat → Nat), (r = .inr t) ∧ (w_Rep w_TC fr X (u + 6) (l + 64) I' A' B' C' M') ∧ (c_fi c_ps I I') ∧ (c_fa c_pa A A') ∧ (M'.1[None]? = some (.inr (11, []))))
set_option maxHeartbeats 100000000 in
set_option maxRecDepth 100000 in
theorem c_pattern {L : Nat} {xs : Nat → Int32} {d : Nat} {fr : Nat → Bool} {X : Nat → Option (q_C (Nat → Int32))} {u l : Nat} {I : Nat → Int} {A : Nat → Int → Int} {B C : Nat → Nat} {M : w_M} (hR : w_Rep w_TC fr X u l I A B C M) (hd : 7 ≤ d) (hl : l ≤ 100000) (hNU : (0 ≤ (I 2436) ∧ (I 2436) ≤ (I 773) ∧ (I 773) ≤ 1501 ∧ ((I 2437) = 0 ∨ (I 2436) < (I 773))) ∧ (0 ≤ (I 2439) ∧ (I 2439) ≤ 24 ∧ 0 ≤ (I 2117)) ∧ 0 ≤ (I 1670) ∧ (I 1670) ≤ 2 * (I 2436) + 1) : w_W (z_P L xs) d 126 (0, [(0, .ref 38)], [], M) (c_pattern_Q fr X u l I A B C M) := by
  obtain ⟨d, rfl⟩ : ∃ d0, d = d0 + 1 := ⟨d - 1, by omega⟩
  refine w_adv (n := 1) (F' := (1, [(0, .ref 38)], [.ref 38], M)) rfl ?_
  refine w_gf (v := .int (Int32.ofInt ((I 2438)))) hR rfl rfl rfl rfl ?_
  obtain ⟨r1, r2⟩ : -2147483648 ≤ (I 2438) ∧ (I 2438) ≤ 2147483647 := hR.ri 2438
  refine w_adv (n := 2) (F' := (6, [(1, .int (Int32.ofInt ((I 2438)))), (0, .ref 38)], [.ref 38], M)) rfl ?_
  refine w_gf (v := .int (Int32.ofInt ((I 2437)))) hR rfl rfl rfl rfl ?_
  obtain ⟨r3, r4⟩ : -2147483648 ≤ (I 2437) ∧ (I 2437) ≤ 2147483647 := hR.ri 2437
  rcases (show ((I 2437) < 1 ∨ 4 < (I 2437)) ∨ (I 2437) = 1 ∨ (I 2437) = 2 ∨ (I 2437) = 3 ∨ (I 2437) = 4 by omega) with h5 | h5 | h5 | h5 | h5
  · refine w_swd rfl ⟨by omega, by omega⟩ h5 rfl ?_
    show w_W _ _ _ (151, [(1, .int (Int32.ofInt ((I 2438)))), (0, .ref 38)], [], M) _
    refine w_adv (n := 2) (F' := (153, [(1, .int (Int32.ofInt ((I 2438)))), (0, .ref 38)], [.int (Int32.ofInt (1)), .ref 38], M)) rfl ?_
    refine w_call (cm := 100) (as := [(0, .ref 38), (1, .int (Int32.ofInt (1)))]) (rest := []) (o := some (4, 38)) rfl (w_fitR hR rfl) (c_fail (1) hR ⟨by omega, by omega⟩ (show l ≤ 100000 by first | assumption | omega) (show 1 ≤ 1 ∧ 1 ≤ 7 by first | assumption | omega)) (fun r6 M7 q8 => ?_)
    rcases q8 with ⟨t9, I8a, A8a, B8a, C8a, e10, hR8a, f11, f12, f13⟩
    rw [e10]
    replace hR8a : w_Rep w_TC fr X (u + 6) (l + 64) I8a A8a B8a C8a M7 := hR8a
    replace f11 : c_fi c_ps I I8a := f11
    replace f12 : c_fa c_pa A A8a := f12
    replace f13 : M7.1[t9]? = some (.inr (11, [])) := f13
    exact Or.inr (⟨t9, I8a, A8a, B8a, C8a, rfl, hR8a, (show c_fi c_ps I I8a by exact f11), (show c_fa c_pa A A8a by exact f12), (show M7.1[t9]? = some (.inr (11, [])) by exact f13)⟩)
  · refine w_sw (v := 1) (F' := (57, [(1, .int (Int32.ofInt ((I 2438)))), (0, .ref 38)], [], M)) h5 rfl rfl ?_
    refine w_adv (n := 1) (F' := (58, [(1, .int (Int32.ofInt ((I 2438)))), (0, .ref 38)], [.ref 38], M)) rfl ?_
    refine w_call (cm := 80) (as := [(0, .ref 38)]) (rest := []) (o := some (4, 38)) rfl (w_fitR hR rfl) (c_advance hR (show 3 ≤ d by omega) (show l ≤ 100000 by first | assumption | omega) (show -1 ≤ (I 2436) ∧ (I 2436) < (I 773) ∧ (I 773) ≤ 1501 by first | assumption | omega)) (fun r14 M15 q16 => ?_)
    rcases q16 with ⟨zt17, zk18, zv19, e20, hR16a, f21⟩ | ⟨t22, I16b, A16b, B16b, C16b, e23, hR16b, f24, f25, f26⟩
    · rw [e20]
      replace hR16a : w_Rep w_TC fr X u l (w_up (w_up (w_up (w_up I 2436 ((I 2436) + 1)) 2441 (zt17)) 2437 (zk18)) 2438 (zv19)) A B C M15 := hR16a
      replace f21 : ((I 2436) + 1 < (I 773) ∨ zk18 = 0) := f21
      show w_W _ _ _ (61, [(1, .int (Int32.ofInt ((I 2438)))), (0, .ref 38)], [], M15) _
      refine w_adv (n := 1) (F' := (62, [(1, .int (Int32.ofInt ((I 2438)))), (0, .ref 38)], [.ref 38], M15)) rfl ?_
      refine w_gf (v := .int (Int32.ofInt (zk18))) hR16a rfl rfl rfl rfl ?_
      obtain ⟨r27, r28⟩ : -2147483648 ≤ zk18 ∧ zk18 ≤ 2147483647 := hR16a.ri 2437
      refine w_adv (n := 1) (F' := (66, [(1, .int (Int32.ofInt ((I 2438)))), (0, .ref 38)], [.int (Int32.ofInt (5)), .int (Int32.ofInt (zk18))], M15)) rfl ?_
      refine w_br2 (a := zk18) (b := 5) rfl rfl ⟨by omega, by omega⟩ ⟨by omega, by omega⟩ (fun h29 => ?_) (fun h29 => ?_)
      · have h29 : ¬ zk18 = 5 := h29
        show w_W _ _ _ (87, [(1, .int (Int32.ofInt ((I 2438)))), (0, .ref 38)], [], M15) _
        refine w_adv (n := 1) (F' := (88, [(1, .int (Int32.ofInt ((I 2438)))), (0, .ref 38)], [.ref 38], M15)) rfl ?_
        refine w_gf (v := .ref 26) hR16a rfl rfl rfl rfl ?_
        refine w_adv (n := 4) (F' := (96, [(1, .int (Int32.ofInt ((I 2438)))), (0, .ref 38)], [.int (Int32.ofInt ((-1))), .int (Int32.ofInt ((I 2438))), .int (Int32.ofInt (1)), .int (Int32.ofInt (17)), .ref 26], M15)) rfl ?_
        refine w_call (cm := 94) (as := [(0, .ref 26), (1, .int (Int32.ofInt (17))), (2, .int (Int32.ofInt (1))), (3, .int (Int32.ofInt ((I 2438)))), (4, .int (Int32.ofInt ((-1))))]) (rest := []) (o := some (8, 26)) rfl (w_fitR hR16a rfl) (c_mkn (17) (1) ((I 2438)) ((-1)) hR16a (show 2 ≤ d by omega) ⟨by omega, by omega⟩ ⟨by omega, by omega⟩ ⟨by omega, by omega⟩ ⟨by omega, by omega⟩ (show 0 ≤ (I 1670) ∧ (I 1670) < 3016 by first | assumption | omega)) (fun r30 M31 q32 => ?_)
        rcases q32 with ⟨A33, e34, hR32a, f35, f36⟩
        rw [e34]
        replace hR32a : w_Rep w_TC fr X u l (w_up (w_up (w_up (w_up (w_up I 2436 ((I 2436) + 1)) 2441 (zt17)) 2437 (zk18)) 2438 (zv19)) 1670 ((I 1670) + 1)) A33 B C M31 := hR32a
        replace f35 : c_fa c_pa A A33 := f35
        replace f36 : c_mk A A33 (I 1670) 17 1 (I 2438) (-1) := f36
        have g37 : c_agl A A33 (I 1670) := c_agl_trans c_agl_refl f36.1 (show (I 1670) ≤ (I 1670) by omega)
        show w_W _ _ _ (99, [(1, .int (Int32.ofInt ((I 2438)))), (0, .ref 38)], [.int (Int32.ofInt ((I 1670)))], M31) _
        refine w_fin (r := .inl (some ((I 1670)))) (M' := M31) rfl ?_
        exact Or.inl ⟨(I 1670), (w_up (w_up (w_up (w_up (w_up I 2436 ((I 2436) + 1)) 2441 (zt17)) 2437 (zk18)) 2438 (zv19)) 1670 ((I 1670) + 1)), A33, B, C, rfl, ⟨by omega, by omega⟩, hR32a, (show c_fi c_ps I (w_up (w_up (w_up (w_up (w_up I 2436 ((I 2436) + 1)) 2441 (zt17)) 2437 (zk18)) 2438 (zv19)) 1670 ((I 1670) + 1)) by exact (c_fi_up (c_fi_up (c_fi_up (c_fi_up (c_fi_up c_fi_refl rfl) rfl) rfl) rfl) rfl)), (show c_fa c_pa A A33 by exact f35), (show (0 ≤ (I 2436) + 1 ∧ (I 2436) + 1 ≤ (I 773) ∧ (zk18 = 0 ∨ (I 2436) + 1 < (I 773))) ∧ ((I 773) = (I 773) ∧ (I 2439) = (I 2439) ∧ 0 ≤ (I 2117)) ∧ (I 2436) + 1 ≤ (I 2436) + 1 ∧ ((I 1670) + 1) + 1 ≤ (I 1670) + 2 * (((I 2436) + 1) - (I 2436)) ∧ (I 1670) ≤ (I 1670) + 1 by (repeat' apply And.intro) <;> first | assumption | omega), (show c_agl A A33 (I 1670) by exact g37)⟩
      · have h29 : ¬ (¬ zk18 = 5) := h29
        show w_W _ _ _ (69, [(1, .int (Int32.ofInt ((I 2438)))), (0, .ref 38)], [], M15) _
        refine w_adv (n := 1) (F' := (70, [(1, .int (Int32.ofInt ((I 2438)))), (0, .ref 38)], [.ref 38], M15)) rfl ?_
        refine w_gf (v := .ref 26) hR16a rfl rfl rfl rfl ?_
        refine w_adv (n := 4) (F' := (78, [(1, .int (Int32.ofInt ((I 2438)))), (0, .ref 38)], [.ref 38, .int (Int32.ofInt ((I 2438))), .int (Int32.ofInt (2)), .int (Int32.ofInt (17)), .ref 26], M15)) rfl ?_
        refine w_call (cm := 127) (as := [(0, .ref 38)]) (rest := [.int (Int32.ofInt ((I 2438))), .int (Int32.ofInt (2)), .int (Int32.ofInt (17)), .ref 26]) (o := some (4, 38)) rfl (w_fitR hR16a rfl) (c_slots hR16a (show 6 ≤ d by omega) (show l ≤ 100000 by first | assumption | omega) (show (0 ≤ (I 2436) + 1 ∧ (I 2436) + 1 ≤ (I 773) ∧ (I 773) ≤ 1501 ∧ (zk18 = 0 ∨ (I 2436) + 1 < (I 773))) ∧ (0 ≤ (I 2439) ∧ (I 2439) ≤ 24 ∧ 0 ≤ (I 2117)) ∧ 0 ≤ (I 1670) ∧ (I 1670) ≤ 2 * ((I 2436) + 1) + 1 by (repeat' apply And.intro) <;> first | assumption | omega) (show ¬ zk18 = 0 by first | assumption | omega)) (fun r38 M39 q40 => ?_)
        rcases q40 with ⟨v41, I40a, A40a, B40a, C40a, e42, ⟨r43, r44⟩, hR40a, f45, f46, f47, f48⟩ | ⟨t49, I40b, A40b, B40b, C40b, e50, hR40b, f51, f52, f53⟩
        · rw [e42]
          replace hR40a : w_Rep w_TC fr X u l I40a A40a B40a C40a M39 := hR40a
          replace f45 : c_fi c_ps (w_up (w_up (w_up (w_up I 2436 ((I 2436) + 1)) 2441 (zt17)) 2437 (zk18)) 2438 (zv19)) I40a := f45
          replace f46 : c_fa c_pa A A40a := f46
          replace f47 : (0 ≤ (I40a 2436) ∧ (I40a 2436) ≤ (I40a 773) ∧ ((I40a 2437) = 0 ∨ (I40a 2436) < (I40a 773))) ∧ ((I40a 773) = (I 773) ∧ (I40a 2439) = (I 2439) ∧ 0 ≤ (I40a 2117)) ∧ ((I 2436) + 1) + 2 ≤ (I40a 2436) ∧ (I40a 1670) + 0 ≤ (I 1670) + 2 * ((I40a 2436) - ((I 2436) + 1)) ∧ (I 1670) ≤ (I40a 1670) := f47
          obtain ⟨⟨n54, n55, n56⟩, ⟨n57, n58, n59⟩, n60, n61, n62⟩ := id f47
          clear f47
          replace f48 : c_agl A A40a (I 1670) := f48
          have g63 : c_agl A A40a (I 1670) := c_agl_trans c_agl_refl f48 (show (I 1670) ≤ (I 1670) by omega)
          show w_W _ _ _ (81, [(1, .int (Int32.ofInt ((I 2438)))), (0, .ref 38)], [.int (Int32.ofInt (v41)), .int (Int32.ofInt ((I 2438))), .int (Int32.ofInt (2)), .int (Int32.ofInt (17)), .ref 26], M39) _
          refine w_call (cm := 94) (as := [(0, .ref 26), (1, .int (Int32.ofInt (17))), (2, .int (Int32.ofInt (2))), (3, .int (Int32.ofInt ((I 2438)))), (4, .int (Int32.ofInt (v41)))]) (rest := []) (o := some (8, 26)) rfl (w_fitR hR40a rfl) (c_mkn (17) (2) ((I 2438)) (v41) hR40a (show 2 ≤ d by omega) ⟨by omega, by omega⟩ ⟨by omega, by omega⟩ ⟨by omega, by omega⟩ ⟨by omega, by omega⟩ (show 0 ≤ (I40a 1670) ∧ (I40a 1670) < 3016 by first | assumption | omega)) (fun r64 M65 q66 => ?_)
          rcases q66 with ⟨A67, e68, hR66a, f69, f70⟩
          rw [e68]
          replace hR66a : w_Rep w_TC fr X u l (w_up I40a 1670 ((I40a 1670) + 1)) A67 B40a C40a M65 := hR66a
          replace f69 : c_fa c_pa A40a A67 := f69
          replace f70 : c_mk A40a A67 (I40a 1670) 17 2 (I 2438) v41 := f70
          have g71 : c_agl A A67 (I 1670) := c_agl_trans g63 f70.1 (show (I 1670) ≤ (I40a 1670) by omega)
          show w_W _ _ _ (84, [(1, .int (Int32.ofInt ((I 2438)))), (0, .ref 38)], [.int (Int32.ofInt ((I40a 1670)))], M65) _
          refine w_adv (n := 1) (F' := (99, [(1, .int (Int32.ofInt ((I 2438)))), (0, .ref 38)], [.int (Int32.ofInt ((I40a 1670)))], M65)) rfl ?_
          refine w_fin (r := .inl (some ((I40a 1670)))) (M' := M65) rfl ?_
          exact Or.inl ⟨(I40a 1670), (w_up I40a 1670 ((I40a 1670) + 1)), A67, B40a, C40a, rfl, ⟨by omega, by omega⟩, hR66a, (show c_fi c_ps I (w_up I40a 1670 ((I40a 1670) + 1)) by exact (c_fi_up (c_fi_trans (c_fi_up (c_fi_up (c_fi_up (c_fi_up c_fi_refl rfl) rfl) rfl) rfl) f45) rfl)), (show c_fa c_pa A A67 by exact (c_fa_trans f46 f69)), (show (0 ≤ (I40a 2436) ∧ (I40a 2436) ≤ (I40a 773) ∧ ((I40a 2437) = 0 ∨ (I40a 2436) < (I40a 773))) ∧ ((I40a 773) = (I 773) ∧ (I40a 2439) = (I 2439) ∧ 0 ≤ (I40a 2117)) ∧ (I 2436) + 1 ≤ (I40a 2436) ∧ ((I40a 1670) + 1) + 1 ≤ (I 1670) + 2 * ((I40a 2436) - (I 2436)) ∧ (I 1670) ≤ (I40a 1670) + 1 by (repeat' apply And.intro) <;> first | assumption | omega), (show c_agl A A67 (I 1670) by exact g71)⟩
        · rw [e50]
          replace hR40b : w_Rep w_TC fr X (u + 6) (l + 64) I40b A40b B40b C40b M39 := hR40b
          replace f51 : c_fi c_ps (w_up (w_up (w_up (w_up I 2436 ((I 2436) + 1)) 2441 (zt17)) 2437 (zk18)) 2438 (zv19)) I40b := f51
          replace f52 : c_fa c_pa A A40b := f52
          replace f53 : M39.1[t49]? = some (.inr (11, [])) := f53
          exact Or.inr (⟨t49, I40b, A40b, B40b, C40b, rfl, hR40b, (show c_fi c_ps I I40b by exact (c_fi_trans (c_fi_up (c_fi_up (c_fi_up (c_fi_up c_fi_refl rfl) rfl) rfl) rfl) f51)), (show c_fa c_pa A A40b by exact f52), (show M39.1[t49]? = some (.inr (11, [])) by exact f53)⟩)
    · rw [e23]
      replace hR16b : w_Rep w_TC fr X (u + 6) (l + 64) I16b A16b B16b C16b M15 := hR16b
      replace f24 : c_fi c_ps I I16b := f24
      replace f25 : c_fa c_pa A A16b := f25
      replace f26 : M15.1[t22]? = some (.inr (11, [])) := f26
      exact Or.inr (⟨t22, I16b, A16b, B16b, C16b, rfl, hR16b, (show c_fi c_ps I I16b by exact f24), (show c_fa c_pa A A16b by exact f25), (show M15.1[t22]? = some (.inr (11, [])) by exact f26)⟩)
  · refine w_sw (v := 2) (F' := (100, [(1, .int (Int32.ofInt ((I 2438)))), (0, .ref 38)], [], M)) h5 rfl rfl ?_
    refine w_adv (n := 1) (F' := (101, [(1, .int (Int32.ofInt ((I 2438)))), (0, .ref 38)], [.ref 38], M)) rfl ?_
    refine w_gf (v := .ref 33) hR rfl rfl rfl rfl ?_
    refine w_call (cm := 118) (as := [(0, .ref 33)]) (rest := []) (o := some (5, 33)) rfl (w_fitR hR rfl) (c_snext hR) (fun r72 M73 q74 => ?_)
    rcases q74 with ⟨e75, e76⟩
    rw [e75, e76]
    show w_W _ _ _ (107, [(1, .int (Int32.ofInt ((I 2438)))), (0, .ref 38)], [.int (Int32.ofInt ((I 2117)))], M) _
    refine w_adv (n := 5) (F' := (112, [(2, .int (Int32.ofInt ((I 2117)))), (1, .int (Int32.ofInt ((I 2438)))), (0, .ref 38)], [.int (Int32.ofInt (1)), .int (Int32.ofInt (1)), .int (Int32.ofInt ((I 2117))), .ref 38], M)) rfl ?_
    refine w_call (cm := 128) (as := [(0, .ref 38), (1, .int (Int32.ofInt ((I 2117)))), (2, .int (Int32.ofInt (1))), (3, .int (Int32.ofInt (1)))]) (rest := []) (o := some (4, 38)) rfl (w_fitR hR rfl) (c_slot ((I 2117)) (1) (1) hR (show 4 ≤ d by omega) ⟨by omega, by omega⟩ ⟨by omega, by omega⟩ ⟨by omega, by omega⟩ (show l ≤ 100000 by first | assumption | omega) (show (0 ≤ (I 2436) ∧ (I 2436) ≤ (I 773) ∧ (I 773) ≤ 1501 ∧ ((I 2437) = 0 ∨ (I 2436) < (I 773))) ∧ (0 ≤ (I 2439) ∧ (I 2439) ≤ 24 ∧ 0 ≤ (I 2117)) ∧ 0 ≤ (I 1670) ∧ (I 1670) ≤ 2 * (I 2436) + 1 by (repeat' apply And.intro) <;> first | assumption | omega)) (fun r77 M78 q79 => ?_)
    rcases q79 with ⟨v80, I79a, A79a, B79a, C79a, e81, ⟨r82, r83⟩, hR79a, f84, f85, f86, f87, f88⟩ | ⟨t89, I79b, A79b, B79b, C79b, e90, hR79b, f91, f92, f93⟩
    · rw [e81]
      replace hR79a : w_Rep w_TC fr X u l I79a A79a B79a C79a M78 := hR79a
      replace f84 : c_fi c_ps I I79a := f84
      replace f85 : c_fa c_pa A A79a := f85
      replace f86 : (0 ≤ (I79a 2436) ∧ (I79a 2436) ≤ (I79a 773) ∧ ((I79a 2437) = 0 ∨ (I79a 2436) < (I79a 773))) ∧ ((I79a 773) = (I 773) ∧ (I79a 2439) = (I 2439) ∧ 0 ≤ (I79a 2117)) ∧ (I 2436) + 1 ≤ (I79a 2436) ∧ (I79a 1670) + 1 ≤ (I 1670) + 2 * ((I79a 2436) - (I 2436)) ∧ (I 1670) ≤ (I79a 1670) := f86
      obtain ⟨⟨n94, n95, n96⟩, ⟨n97, n98, n99⟩, n100, n101, n102⟩ := id f86
      clear f86
      replace f87 : c_agl A A79a (I 1670) := f87
      replace f88 : (I 1670) ≤ v80 ∧ v80 < (I79a 1670) := f88
      obtain ⟨n103, n104⟩ := id f88
      clear f88
      have g105 : c_agl A A79a (I 1670) := c_agl_trans c_agl_refl f87 (show (I 1670) ≤ (I 1670) by omega)
      show w_W _ _ _ (115, [(2, .int (Int32.ofInt ((I 2117)))), (1, .int (Int32.ofInt ((I 2438)))), (0, .ref 38)], [.int (Int32.ofInt (v80))], M78) _
      refine w_adv (n := 3) (F' := (119, [(3, .int (Int32.ofInt (v80))), (2, .int (Int32.ofInt ((I 2117)))), (1, .int (Int32.ofInt ((I 2438)))), (0, .ref 38)], [.int (Int32.ofInt (18)), .ref 38], M78)) rfl ?_
      refine w_call (cm := 105) (as := [(0, .ref 38), (1, .int (Int32.ofInt (18)))]) (rest := []) (o := some (4, 38)) rfl (w_fitR hR79a rfl) (c_need (18) hR79a (show 4 ≤ d by omega) ⟨by omega, by omega⟩ (show l ≤ 100000 by first | assumption | omega) (show -1 ≤ (I79a 2436) ∧ ((I79a 2437) = 0 ∨ (I79a 2436) < (I79a 773)) ∧ (I79a 773) ≤ 1501 ∧ 1 ≤ 18 by first | assumption | omega)) (fun r106 M107 q108 => ?_)
      rcases q108 with ⟨zt109, zk110, zv111, e112, hR108a, f113, f114⟩ | ⟨t115, I108b, A108b, B108b, C108b, e116, hR108b, f117, f118, f119⟩
      · rw [e112]
        replace hR108a : w_Rep w_TC fr X u l (w_up (w_up (w_up (w_up I79a 2436 ((I79a 2436) + 1)) 2441 (zt109)) 2437 (zk110)) 2438 (zv111)) A79a B79a C79a M107 := hR108a
        replace f113 : ((I79a 2436) + 1 < (I79a 773) ∨ zk110 = 0) := f113
        replace f114 : (I79a 2437) = 18 := f114
        show w_W _ _ _ (122, [(3, .int (Int32.ofInt (v80))), (2, .int (Int32.ofInt ((I 2117)))), (1, .int (Int32.ofInt ((I 2438)))), (0, .ref 38)], [], M107) _
        refine w_adv (n := 1) (F' := (123, [(3, .int (Int32.ofInt (v80))), (2, .int (Int32.ofInt ((I 2117)))), (1, .int (Int32.ofInt ((I 2438)))), (0, .ref 38)], [.ref 38], M107)) rfl ?_
        refine w_gf (v := .ref 26) hR108a rfl rfl rfl rfl ?_
        refine w_adv (n := 5) (F' := (131, [(3, .int (Int32.ofInt (v80))), (2, .int (Int32.ofInt ((I 2117)))), (1, .int (Int32.ofInt ((I 2438)))), (0, .ref 38)], [.int (Int32.ofInt (2)), .int (Int32.ofInt (2)), .int (Int32.ofInt ((I 2117))), .ref 38, .int (Int32.ofInt (v80)), .ref 26], M107)) rfl ?_
        refine w_call (cm := 128) (as := [(0, .ref 38), (1, .int (Int32.ofInt ((I 2117)))), (2, .int (Int32.ofInt (2))), (3, .int (Int32.ofInt (2)))]) (rest := [.int (Int32.ofInt (v80)), .ref 26]) (o := some (4, 38)) rfl (w_fitR hR108a rfl) (c_slot ((I 2117)) (2) (2) hR108a (show 4 ≤ d by omega) ⟨by omega, by omega⟩ ⟨by omega, by omega⟩ ⟨by omega, by omega⟩ (show l ≤ 100000 by first | assumption | omega) (show (0 ≤ (I79a 2436) + 1 ∧ (I79a 2436) + 1 ≤ (I79a 773) ∧ (I79a 773) ≤ 1501 ∧ (zk110 = 0 ∨ (I79a 2436) + 1 < (I79a 773))) ∧ (0 ≤ (I79a 2439) ∧ (I79a 2439) ≤ 24 ∧ 0 ≤ (I79a 2117)) ∧ 0 ≤ (I79a 1670) ∧ (I79a 1670) ≤ 2 * ((I79a 2436) + 1) + 1 by (repeat' apply And.intro) <;> first | assumption | omega)) (fun r120 M121 q122 => ?_)
        rcases q122 with ⟨v123, I122a, A122a, B122a, C122a, e124, ⟨r125, r126⟩, hR122a, f127, f128, f129, f130, f131⟩ | ⟨t132, I122b, A122b, B122b, C122b, e133, hR122b, f134, f135, f136⟩
        · rw [e124]
          replace hR122a : w_Rep w_TC fr X u l I122a A122a B122a C122a M121 := hR122a
          replace f127 : c_fi c_ps (w_up (w_up (w_up (w_up I79a 2436 ((I79a 2436) + 1)) 2441 (zt109)) 2437 (zk110)) 2438 (zv111)) I122a := f127
          replace f128 : c_fa c_pa A79a A122a := f128
          replace f129 : (0 ≤ (I122a 2436) ∧ (I122a 2436) ≤ (I122a 773) ∧ ((I122a 2437) = 0 ∨ (I122a 2436) < (I122a 773))) ∧ ((I122a 773) = (I79a 773) ∧ (I122a 2439) = (I79a 2439) ∧ 0 ≤ (I122a 2117)) ∧ ((I79a 2436) + 1) + 1 ≤ (I122a 2436) ∧ (I122a 1670) + 1 ≤ (I79a 1670) + 2 * ((I122a 2436) - ((I79a 2436) + 1)) ∧ (I79a 1670) ≤ (I122a 1670) := f129
          obtain ⟨⟨n137, n138, n139⟩, ⟨n140, n141, n142⟩, n143, n144, n145⟩ := id f129
          clear f129
          replace f130 : c_agl A79a A122a (I79a 1670) := f130
          replace f131 : (I79a 1670) ≤ v123 ∧ v123 < (I122a 1670) := f131
          obtain ⟨n146, n147⟩ := id f131
          clear f131
          have g148 : c_agl A A122a (I 1670) := c_agl_trans g105 f130 (show (I 1670) ≤ (I79a 1670) by omega)
          show w_W _ _ _ (134, [(3, .int (Int32.ofInt (v80))), (2, .int (Int32.ofInt ((I 2117)))), (1, .int (Int32.ofInt ((I 2438)))), (0, .ref 38)], [.int (Int32.ofInt (v123)), .int (Int32.ofInt (v80)), .ref 26], M121) _
          refine w_call (cm := 106) (as := [(0, .ref 26), (1, .int (Int32.ofInt (v80))), (2, .int (Int32.ofInt (v123)))]) (rest := []) (o := some (8, 26)) rfl (w_fitR hR122a rfl) (c_chn (v80) (v123) hR122a (show 2 ≤ d by omega) ⟨by omega, by omega⟩ ⟨by omega, by omega⟩) (fun r149 M150 q151 => ?_)
          rcases q151 with ⟨A152, e153, hR151a, f154, f155⟩
          rw [e153]
          replace hR151a : w_Rep w_TC fr X u l I122a A152 B122a C122a M150 := hR151a
          replace f154 : c_fa c_pa A122a A152 := f154
          replace f155 : c_nxw A122a A152 v80 v123 := f155
          have g156 : c_agl A122a A152 (I 1670) := c_agl_nxw f155 (show (I 1670) ≤ v80 ∨ v80 < 0 by omega)
          have g157 : c_agl A A152 (I 1670) := c_agl_trans g148 g156 (show (I 1670) ≤ (I 1670) by omega)
          show w_W _ _ _ (137, [(3, .int (Int32.ofInt (v80))), (2, .int (Int32.ofInt ((I 2117)))), (1, .int (Int32.ofInt ((I 2438)))), (0, .ref 38)], [.int (Int32.ofInt (v123))], M150) _
          refine w_adv (n := 2) (F' := (139, [(3, .int (Int32.ofInt (v80))), (2, .int (Int32.ofInt ((I 2117)))), (1, .int (Int32.ofInt ((I 2438)))), (0, .ref 38)], [.ref 38], M150)) rfl ?_
          refine w_gf (v := .ref 26) hR151a rfl rfl rfl rfl ?_
          refine w_adv (n := 4) (F' := (147, [(3, .int (Int32.ofInt (v80))), (2, .int (Int32.ofInt ((I 2117)))), (1, .int (Int32.ofInt ((I 2438)))), (0, .ref 38)], [.int (Int32.ofInt (v80)), .int (Int32.ofInt (3)), .int (Int32.ofInt (2)), .int (Int32.ofInt (17)), .ref 26], M150)) rfl ?_
          refine w_call (cm := 94) (as := [(0, .ref 26), (1, .int (Int32.ofInt (17))), (2, .int (Int32.ofInt (2))), (3, .int (Int32.ofInt (3))), (4, .int (Int32.ofInt (v80)))]) (rest := []) (o := some (8, 26)) rfl (w_fitR hR151a rfl) (c_mkn (17) (2) (3) (v80) hR151a (show 2 ≤ d by omega) ⟨by omega, by omega⟩ ⟨by omega, by omega⟩ ⟨by omega, by omega⟩ ⟨by omega, by omega⟩ (show 0 ≤ (I122a 1670) ∧ (I122a 1670) < 3016 by first | assumption | omega)) (fun r158 M159 q160 => ?_)
          rcases q160 with ⟨A161, e162, hR160a, f163, f164⟩
          rw [e162]
          replace hR160a : w_Rep w_TC fr X u l (w_up I122a 1670 ((I122a 1670) + 1)) A161 B122a C122a M159 := hR160a
          replace f163 : c_fa c_pa A152 A161 := f163
          replace f164 : c_mk A152 A161 (I122a 1670) 17 2 3 v80 := f164
          have g165 : c_agl A A161 (I 1670) := c_agl_trans g157 f164.1 (show (I 1670) ≤ (I122a 1670) by omega)
          show w_W _ _ _ (150, [(3, .int (Int32.ofInt (v80))), (2, .int (Int32.ofInt ((I 2117)))), (1, .int (Int32.ofInt ((I 2438)))), (0, .ref 38)], [.int (Int32.ofInt ((I122a 1670)))], M159) _
          refine w_fin (r := .inl (some ((I122a 1670)))) (M' := M159) rfl ?_
          exact Or.inl ⟨(I122a 1670), (w_up I122a 1670 ((I122a 1670) + 1)), A161, B122a, C122a, rfl, ⟨by omega, by omega⟩, hR160a, (show c_fi c_ps I (w_up I122a 1670 ((I122a 1670) + 1)) by exact (c_fi_up (c_fi_trans (c_fi_up (c_fi_up (c_fi_up (c_fi_up f84 rfl) rfl) rfl) rfl) f127) rfl)), (show c_fa c_pa A A161 by exact (c_fa_trans (c_fa_trans (c_fa_trans f85 f128) f154) f163)), (show (0 ≤ (I122a 2436) ∧ (I122a 2436) ≤ (I122a 773) ∧ ((I122a 2437) = 0 ∨ (I122a 2436) < (I122a 773))) ∧ ((I122a 773) = (I 773) ∧ (I122a 2439) = (I 2439) ∧ 0 ≤ (I122a 2117)) ∧ (I 2436) + 1 ≤ (I122a 2436) ∧ ((I122a 1670) + 1) + 1 ≤ (I 1670) + 2 * ((I122a 2436) - (I 2436)) ∧ (I 1670) ≤ (I122a 1670) + 1 by (repeat' apply And.intro) <;> first | assumption | omega), (show c_agl A A161 (I 1670) by exact g165)⟩
        · rw [e133]
          replace hR122b : w_Rep w_TC fr X (u + 6) (l + 64) I122b A122b B122b C122b M121 := hR122b
          replace f134 : c_fi c_ps (w_up (w_up (w_up (w_up I79a 2436 ((I79a 2436) + 1)) 2441 (zt109)) 2437 (zk110)) 2438 (zv111)) I122b := f134
          replace f135 : c_fa c_pa A79a A122b := f135
          replace f136 : M121.1[t132]? = some (.inr (11, [])) := f136
          exact Or.inr (⟨t132, I122b, A122b, B122b, C122b, rfl, hR122b, (show c_fi c_ps I I122b by exact (c_fi_trans (c_fi_up (c_fi_up (c_fi_up (c_fi_up f84 rfl) rfl) rfl) rfl) f134)), (show c_fa c_pa A A122b by exact (c_fa_trans f85 f135)), (show M121.1[t132]? = some (.inr (11, [])) by exact f136)⟩)
      · rw [e116]
        replace hR108b : w_Rep w_TC fr X (u + 6) (l + 64) I108b A108b B108b C108b M107 := hR108b
        replace f117 : c_fi c_ps I79a I108b := f117
        replace f118 : c_fa c_pa A79a A108b := f118
        replace f119 : M107.1[t115]? = some (.inr (11, [])) := f119
        exact Or.inr (⟨t115, I108b, A108b, B108b, C108b, rfl, hR108b, (show c_fi c_ps I I108b by exact (c_fi_trans f84 f117)), (show c_fa c_pa A A108b by exact (c_fa_trans f85 f118)), (show M107.1[t115]? = some (.inr (11, [])) by exact f119)⟩)
    · rw [e90]
      replace hR79b : w_Rep w_TC fr X (u + 6) (l + 64) I79b A79b B79b C79b M78 := hR79b
      replace f91 : c_fi c_ps I I79b := f91
      replace f92 : c_fa c_pa A A79b := f92
      replace f93 : M78.1[t89]? = some (.inr (11, [])) := f93
      exact Or.inr (⟨t89, I79b, A79b, B79b, C79b, rfl, hR79b, (show c_fi c_ps I I79b by exact f91), (show c_fa c_pa A A79b by exact f92), (show M78.1[t89]? = some (.inr (11, [])) by exact f93)⟩)
  · refine w_sw (v := 3) (F' := (100, [(1, .int (Int32.ofInt ((I 2438)))), (0, .ref 38)], [], M)) h5 rfl rfl ?_
    refine w_adv (n := 1) (F' := (101, [(1, .int (Int32.ofInt ((I 2438)))), (0, .ref 38)], [.ref 38], M)) rfl ?_
    refine w_gf (v := .ref 33) hR rfl rfl rfl rfl ?_
    refine w_call (cm := 118) (as := [(0, .ref 33)]) (rest := []) (o := some (5, 33)) rfl (w_fitR hR rfl) (c_snext hR) (fun r166 M167 q168 => ?_)
    rcases q168 with ⟨e169, e170⟩
    rw [e169, e170]
    show w_W _ _ _ (107, [(1, .int (Int32.ofInt ((I 2438)))), (0, .ref 38)], [.int (Int32.ofInt ((I 2117)))], M) _
    refine w_adv (n := 5) (F' := (112, [(2, .int (Int32.ofInt ((I 2117)))), (1, .int (Int32.ofInt ((I 2438)))), (0, .ref 38)], [.int (Int32.ofInt (1)), .int (Int32.ofInt (1)), .int (Int32.ofInt ((I 2117))), .ref 38], M)) rfl ?_
    refine w_call (cm := 128) (as := [(0, .ref 38), (1, .int (Int32.ofInt ((I 2117)))), (2, .int (Int32.ofInt (1))), (3, .int (Int32.ofInt (1)))]) (rest := []) (o := some (4, 38)) rfl (w_fitR hR rfl) (c_slot ((I 2117)) (1) (1) hR (show 4 ≤ d by omega) ⟨by omega, by omega⟩ ⟨by omega, by omega⟩ ⟨by omega, by omega⟩ (show l ≤ 100000 by first | assumption | omega) (show (0 ≤ (I 2436) ∧ (I 2436) ≤ (I 773) ∧ (I 773) ≤ 1501 ∧ ((I 2437) = 0 ∨ (I 2436) < (I 773))) ∧ (0 ≤ (I 2439) ∧ (I 2439) ≤ 24 ∧ 0 ≤ (I 2117)) ∧ 0 ≤ (I 1670) ∧ (I 1670) ≤ 2 * (I 2436) + 1 by (repeat' apply And.intro) <;> first | assumption | omega)) (fun r171 M172 q173 => ?_)
    rcases q173 with ⟨v174, I173a, A173a, B173a, C173a, e175, ⟨r176, r177⟩, hR173a, f178, f179, f180, f181, f182⟩ | ⟨t183, I173b, A173b, B173b, C173b, e184, hR173b, f185, f186, f187⟩
    · rw [e175]
      replace hR173a : w_Rep w_TC fr X u l I173a A173a B173a C173a M172 := hR173a
      replace f178 : c_fi c_ps I I173a := f178
      replace f179 : c_fa c_pa A A173a := f179
      replace f180 : (0 ≤ (I173a 2436) ∧ (I173a 2436) ≤ (I173a 773) ∧ ((I173a 2437) = 0 ∨ (I173a 2436) < (I173a 773))) ∧ ((I173a 773) = (I 773) ∧ (I173a 2439) = (I 2439) ∧ 0 ≤ (I173a 2117)) ∧ (I 2436) + 1 ≤ (I173a 2436) ∧ (I173a 1670) + 1 ≤ (I 1670) + 2 * ((I173a 2436) - (I 2436)) ∧ (I 1670) ≤ (I173a 1670) := f180
      obtain ⟨⟨n188, n189, n190⟩, ⟨n191, n192, n193⟩, n194, n195, n196⟩ := id f180
      clear f180
      replace f181 : c_agl A A173a (I 1670) := f181
      replace f182 : (I 1670) ≤ v174 ∧ v174 < (I173a 1670) := f182
      obtain ⟨n197, n198⟩ := id f182
      clear f182
      have g199 : c_agl A A173a (I 1670) := c_agl_trans c_agl_refl f181 (show (I 1670) ≤ (I 1670) by omega)
      show w_W _ _ _ (115, [(2, .int (Int32.ofInt ((I 2117)))), (1, .int (Int32.ofInt ((I 2438)))), (0, .ref 38)], [.int (Int32.ofInt (v174))], M172) _
      refine w_adv (n := 3) (F' := (119, [(3, .int (Int32.ofInt (v174))), (2, .int (Int32.ofInt ((I 2117)))), (1, .int (Int32.ofInt ((I 2438)))), (0, .ref 38)], [.int (Int32.ofInt (18)), .ref 38], M172)) rfl ?_
      refine w_call (cm := 105) (as := [(0, .ref 38), (1, .int (Int32.ofInt (18)))]) (rest := []) (o := some (4, 38)) rfl (w_fitR hR173a rfl) (c_need (18) hR173a (show 4 ≤ d by omega) ⟨by omega, by omega⟩ (show l ≤ 100000 by first | assumption | omega) (show -1 ≤ (I173a 2436) ∧ ((I173a 2437) = 0 ∨ (I173a 2436) < (I173a 773)) ∧ (I173a 773) ≤ 1501 ∧ 1 ≤ 18 by first | assumption | omega)) (fun r200 M201 q202 => ?_)
      rcases q202 with ⟨zt203, zk204, zv205, e206, hR202a, f207, f208⟩ | ⟨t209, I202b, A202b, B202b, C202b, e210, hR202b, f211, f212, f213⟩
      · rw [e206]
        replace hR202a : w_Rep w_TC fr X u l (w_up (w_up (w_up (w_up I173a 2436 ((I173a 2436) + 1)) 2441 (zt203)) 2437 (zk204)) 2438 (zv205)) A173a B173a C173a M201 := hR202a
        replace f207 : ((I173a 2436) + 1 < (I173a 773) ∨ zk204 = 0) := f207
        replace f208 : (I173a 2437) = 18 := f208
        show w_W _ _ _ (122, [(3, .int (Int32.ofInt (v174))), (2, .int (Int32.ofInt ((I 2117)))), (1, .int (Int32.ofInt ((I 2438)))), (0, .ref 38)], [], M201) _
        refine w_adv (n := 1) (F' := (123, [(3, .int (Int32.ofInt (v174))), (2, .int (Int32.ofInt ((I 2117)))), (1, .int (Int32.ofInt ((I 2438)))), (0, .ref 38)], [.ref 38], M201)) rfl ?_
        refine w_gf (v := .ref 26) hR202a rfl rfl rfl rfl ?_
        refine w_adv (n := 5) (F' := (131, [(3, .int (Int32.ofInt (v174))), (2, .int (Int32.ofInt ((I 2117)))), (1, .int (Int32.ofInt ((I 2438)))), (0, .ref 38)], [.int (Int32.ofInt (2)), .int (Int32.ofInt (2)), .int (Int32.ofInt ((I 2117))), .ref 38, .int (Int32.ofInt (v174)), .ref 26], M201)) rfl ?_
        refine w_call (cm := 128) (as := [(0, .ref 38), (1, .int (Int32.ofInt ((I 2117)))), (2, .int (Int32.ofInt (2))), (3, .int (Int32.ofInt (2)))]) (rest := [.int (Int32.ofInt (v174)), .ref 26]) (o := some (4, 38)) rfl (w_fitR hR202a rfl) (c_slot ((I 2117)) (2) (2) hR202a (show 4 ≤ d by omega) ⟨by omega, by omega⟩ ⟨by omega, by omega⟩ ⟨by omega, by omega⟩ (show l ≤ 100000 by first | assumption | omega) (show (0 ≤ (I173a 2436) + 1 ∧ (I173a 2436) + 1 ≤ (I173a 773) ∧ (I173a 773) ≤ 1501 ∧ (zk204 = 0 ∨ (I173a 2436) + 1 < (I173a 773))) ∧ (0 ≤ (I173a 2439) ∧ (I173a 2439) ≤ 24 ∧ 0 ≤ (I173a 2117)) ∧ 0 ≤ (I173a 1670) ∧ (I173a 1670) ≤ 2 * ((I173a 2436) + 1) + 1 by (repeat' apply And.intro) <;> first | assumption | omega)) (fun r214 M215 q216 => ?_)
        rcases q216 with ⟨v217, I216a, A216a, B216a, C216a, e218, ⟨r219, r220⟩, hR216a, f221, f222, f223, f224, f225⟩ | ⟨t226, I216b, A216b, B216b, C216b, e227, hR216b, f228, f229, f230⟩
        · rw [e218]
          replace hR216a : w_Rep w_TC fr X u l I216a A216a B216a C216a M215 := hR216a
          replace f221 : c_fi c_ps (w_up (w_up (w_up (w_up I173a 2436 ((I173a 2436) + 1)) 2441 (zt203)) 2437 (zk204)) 2438 (zv205)) I216a := f221
          replace f222 : c_fa c_pa A173a A216a := f222
          replace f223 : (0 ≤ (I216a 2436) ∧ (I216a 2436) ≤ (I216a 773) ∧ ((I216a 2437) = 0 ∨ (I216a 2436) < (I216a 773))) ∧ ((I216a 773) = (I173a 773) ∧ (I216a 2439) = (I173a 2439) ∧ 0 ≤ (I216a 2117)) ∧ ((I173a 2436) + 1) + 1 ≤ (I216a 2436) ∧ (I216a 1670) + 1 ≤ (I173a 1670) + 2 * ((I216a 2436) - ((I173a 2436) + 1)) ∧ (I173a 1670) ≤ (I216a 1670) := f223
          obtain ⟨⟨n231, n232, n233⟩, ⟨n234, n235, n236⟩, n237, n238, n239⟩ := id f223
          clear f223
          replace f224 : c_agl A173a A216a (I173a 1670) := f224
          replace f225 : (I173a 1670) ≤ v217 ∧ v217 < (I216a 1670) := f225
          obtain ⟨n240, n241⟩ := id f225
          clear f225
          have g242 : c_agl A A216a (I 1670) := c_agl_trans g199 f224 (show (I 1670) ≤ (I173a 1670) by omega)
          show w_W _ _ _ (134, [(3, .int (Int32.ofInt (v174))), (2, .int (Int32.ofInt ((I 2117)))), (1, .int (Int32.ofInt ((I 2438)))), (0, .ref 38)], [.int (Int32.ofInt (v217)), .int (Int32.ofInt (v174)), .ref 26], M215) _
          refine w_call (cm := 106) (as := [(0, .ref 26), (1, .int (Int32.ofInt (v174))), (2, .int (Int32.ofInt (v217)))]) (rest := []) (o := some (8, 26)) rfl (w_fitR hR216a rfl) (c_chn (v174) (v217) hR216a (show 2 ≤ d by omega) ⟨by omega, by omega⟩ ⟨by omega, by omega⟩) (fun r243 M244 q245 => ?_)
          rcases q245 with ⟨A246, e247, hR245a, f248, f249⟩
          rw [e247]
          replace hR245a : w_Rep w_TC fr X u l I216a A246 B216a C216a M244 := hR245a
          replace f248 : c_fa c_pa A216a A246 := f248
          replace f249 : c_nxw A216a A246 v174 v217 := f249
          have g250 : c_agl A216a A246 (I 1670) := c_agl_nxw f249 (show (I 1670) ≤ v174 ∨ v174 < 0 by omega)
          have g251 : c_agl A A246 (I 1670) := c_agl_trans g242 g250 (show (I 1670) ≤ (I 1670) by omega)
          show w_W _ _ _ (137, [(3, .int (Int32.ofInt (v174))), (2, .int (Int32.ofInt ((I 2117)))), (1, .int (Int32.ofInt ((I 2438)))), (0, .ref 38)], [.int (Int32.ofInt (v217))], M244) _
          refine w_adv (n := 2) (F' := (139, [(3, .int (Int32.ofInt (v174))), (2, .int (Int32.ofInt ((I 2117)))), (1, .int (Int32.ofInt ((I 2438)))), (0, .ref 38)], [.ref 38], M244)) rfl ?_
          refine w_gf (v := .ref 26) hR245a rfl rfl rfl rfl ?_
          refine w_adv (n := 4) (F' := (147, [(3, .int (Int32.ofInt (v174))), (2, .int (Int32.ofInt ((I 2117)))), (1, .int (Int32.ofInt ((I 2438)))), (0, .ref 38)], [.int (Int32.ofInt (v174)), .int (Int32.ofInt (3)), .int (Int32.ofInt (2)), .int (Int32.ofInt (17)), .ref 26], M244)) rfl ?_
          refine w_call (cm := 94) (as := [(0, .ref 26), (1, .int (Int32.ofInt (17))), (2, .int (Int32.ofInt (2))), (3, .int (Int32.ofInt (3))), (4, .int (Int32.ofInt (v174)))]) (rest := []) (o := some (8, 26)) rfl (w_fitR hR245a rfl) (c_mkn (17) (2) (3) (v174) hR245a (show 2 ≤ d by omega) ⟨by omega, by omega⟩ ⟨by omega, by omega⟩ ⟨by omega, by omega⟩ ⟨by omega, by omega⟩ (show 0 ≤ (I216a 1670) ∧ (I216a 1670) < 3016 by first | assumption | omega)) (fun r252 M253 q254 => ?_)
          rcases q254 with ⟨A255, e256, hR254a, f257, f258⟩
          rw [e256]
          replace hR254a : w_Rep w_TC fr X u l (w_up I216a 1670 ((I216a 1670) + 1)) A255 B216a C216a M253 := hR254a
          replace f257 : c_fa c_pa A246 A255 := f257
          replace f258 : c_mk A246 A255 (I216a 1670) 17 2 3 v174 := f258
          have g259 : c_agl A A255 (I 1670) := c_agl_trans g251 f258.1 (show (I 1670) ≤ (I216a 1670) by omega)
          show w_W _ _ _ (150, [(3, .int (Int32.ofInt (v174))), (2, .int (Int32.ofInt ((I 2117)))), (1, .int (Int32.ofInt ((I 2438)))), (0, .ref 38)], [.int (Int32.ofInt ((I216a 1670)))], M253) _
          refine w_fin (r := .inl (some ((I216a 1670)))) (M' := M253) rfl ?_
          exact Or.inl ⟨(I216a 1670), (w_up I216a 1670 ((I216a 1670) + 1)), A255, B216a, C216a, rfl, ⟨by omega, by omega⟩, hR254a, (show c_fi c_ps I (w_up I216a 1670 ((I216a 1670) + 1)) by exact (c_fi_up (c_fi_trans (c_fi_up (c_fi_up (c_fi_up (c_fi_up f178 rfl) rfl) rfl) rfl) f221) rfl)), (show c_fa c_pa A A255 by exact (c_fa_trans (c_fa_trans (c_fa_trans f179 f222) f248) f257)), (show (0 ≤ (I216a 2436) ∧ (I216a 2436) ≤ (I216a 773) ∧ ((I216a 2437) = 0 ∨ (I216a 2436) < (I216a 773))) ∧ ((I216a 773) = (I 773) ∧ (I216a 2439) = (I 2439) ∧ 0 ≤ (I216a 2117)) ∧ (I 2436) + 1 ≤ (I216a 2436) ∧ ((I216a 1670) + 1) + 1 ≤ (I 1670) + 2 * ((I216a 2436) - (I 2436)) ∧ (I 1670) ≤ (I216a 1670) + 1 by (repeat' apply And.intro) <;> first | assumption | omega), (show c_agl A A255 (I 1670) by exact g259)⟩
        · rw [e227]
          replace hR216b : w_Rep w_TC fr X (u + 6) (l + 64) I216b A216b B216b C216b M215 := hR216b
          replace f228 : c_fi c_ps (w_up (w_up (w_up (w_up I173a 2436 ((I173a 2436) + 1)) 2441 (zt203)) 2437 (zk204)) 2438 (zv205)) I216b := f228
          replace f229 : c_fa c_pa A173a A216b := f229
          replace f230 : M215.1[t226]? = some (.inr (11, [])) := f230
          exact Or.inr (⟨t226, I216b, A216b, B216b, C216b, rfl, hR216b, (show c_fi c_ps I I216b by exact (c_fi_trans (c_fi_up (c_fi_up (c_fi_up (c_fi_up f178 rfl) rfl) rfl) rfl) f228)), (show c_fa c_pa A A216b by exact (c_fa_trans f179 f229)), (show M215.1[t226]? = some (.inr (11, [])) by exact f230)⟩)
      · rw [e210]
        replace hR202b : w_Rep w_TC fr X (u + 6) (l + 64) I202b A202b B202b C202b M201 := hR202b
        replace f211 : c_fi c_ps I173a I202b := f211
        replace f212 : c_fa c_pa A173a A202b := f212
        replace f213 : M201.1[t209]? = some (.inr (11, [])) := f213
        exact Or.inr (⟨t209, I202b, A202b, B202b, C202b, rfl, hR202b, (show c_fi c_ps I I202b by exact (c_fi_trans f178 f211)), (show c_fa c_pa A A202b by exact (c_fa_trans f179 f212)), (show M201.1[t209]? = some (.inr (11, [])) by exact f213)⟩)
    · rw [e184]
      replace hR173b : w_Rep w_TC fr X (u + 6) (l + 64) I173b A173b B173b C173b M172 := hR173b
      replace f185 : c_fi c_ps I I173b := f185
      replace f186 : c_fa c_pa A A173b := f186
      replace f187 : M172.1[t183]? = some (.inr (11, [])) := f187
      exact Or.inr (⟨t183, I173b, A173b, B173b, C173b, rfl, hR173b, (show c_fi c_ps I I173b by exact f185), (show c_fa c_pa A A173b by exact f186), (show M172.1[t183]? = some (.inr (11, [])) by exact f187)⟩)
  · refine w_sw (v := 4) (F' := (40, [(1, .int (Int32.ofInt ((I 2438)))), (0, .ref 38)], [], M)) h5 rfl rfl ?_
    refine w_adv (n := 1) (F' := (41, [(1, .int (Int32.ofInt ((I 2438)))), (0, .ref 38)], [.ref 38], M)) rfl ?_
    refine w_call (cm := 80) (as := [(0, .ref 38)]) (rest := []) (o := some (4, 38)) rfl (w_fitR hR rfl) (c_advance hR (show 3 ≤ d by omega) (show l ≤ 100000 by first | assumption | omega) (show -1 ≤ (I 2436) ∧ (I 2436) < (I 773) ∧ (I 773) ≤ 1501 by first | assumption | omega)) (fun r260 M261 q262 => ?_)
    rcases q262 with ⟨zt263, zk264, zv265, e266, hR262a, f267⟩ | ⟨t268, I262b, A262b, B262b, C262b, e269, hR262b, f270, f271, f272⟩
    · rw [e266]
      replace hR262a : w_Rep w_TC fr X u l (w_up (w_up (w_up (w_up I 2436 ((I 2436) + 1)) 2441 (zt263)) 2437 (zk264)) 2438 (zv265)) A B C M261 := hR262a
      replace f267 : ((I 2436) + 1 < (I 773) ∨ zk264 = 0) := f267
      show w_W _ _ _ (44, [(1, .int (Int32.ofInt ((I 2438)))), (0, .ref 38)], [], M261) _
      refine w_adv (n := 1) (F' := (45, [(1, .int (Int32.ofInt ((I 2438)))), (0, .ref 38)], [.ref 38], M261)) rfl ?_
      refine w_gf (v := .ref 26) hR262a rfl rfl rfl rfl ?_
      refine w_adv (n := 4) (F' := (53, [(1, .int (Int32.ofInt ((I 2438)))), (0, .ref 38)], [.int (Int32.ofInt ((-1))), .int (Int32.ofInt ((I 2438))), .int (Int32.ofInt (0)), .int (Int32.ofInt (17)), .ref 26], M261)) rfl ?_
      refine w_call (cm := 94) (as := [(0, .ref 26), (1, .int (Int32.ofInt (17))), (2, .int (Int32.ofInt (0))), (3, .int (Int32.ofInt ((I 2438)))), (4, .int (Int32.ofInt ((-1))))]) (rest := []) (o := some (8, 26)) rfl (w_fitR hR262a rfl) (c_mkn (17) (0) ((I 2438)) ((-1)) hR262a (show 2 ≤ d by omega) ⟨by omega, by omega⟩ ⟨by omega, by omega⟩ ⟨by omega, by omega⟩ ⟨by omega, by omega⟩ (show 0 ≤ (I 1670) ∧ (I 1670) < 3016 by first | assumption | omega)) (fun r273 M274 q275 => ?_)
      rcases q275 with ⟨A276, e277, hR275a, f278, f279⟩
      rw [e277]
      replace hR275a : w_Rep w_TC fr X u l (w_up (w_up (w_up (w_up (w_up I 2436 ((I 2436) + 1)) 2441 (zt263)) 2437 (zk264)) 2438 (zv265)) 1670 ((I 1670) + 1)) A276 B C M274 := hR275a
      replace f278 : c_fa c_pa A A276 := f278
      replace f279 : c_mk A A276 (I 1670) 17 0 (I 2438) (-1) := f279
      have g280 : c_agl A A276 (I 1670) := c_agl_trans c_agl_refl f279.1 (show (I 1670) ≤ (I 1670) by omega)
      show w_W _ _ _ (56, [(1, .int (Int32.ofInt ((I 2438)))), (0, .ref 38)], [.int (Int32.ofInt ((I 1670)))], M274) _
      refine w_fin (r := .inl (some ((I 1670)))) (M' := M274) rfl ?_
      exact Or.inl ⟨(I 1670), (w_up (w_up (w_up (w_up (w_up I 2436 ((I 2436) + 1)) 2441 (zt263)) 2437 (zk264)) 2438 (zv265)) 1670 ((I 1670) + 1)), A276, B, C, rfl, ⟨by omega, by omega⟩, hR275a, (show c_fi c_ps I (w_up (w_up (w_up (w_up (w_up I 2436 ((I 2436) + 1)) 2441 (zt263)) 2437 (zk264)) 2438 (zv265)) 1670 ((I 1670) + 1)) by exact (c_fi_up (c_fi_up (c_fi_up (c_fi_up (c_fi_up c_fi_refl rfl) rfl) rfl) rfl) rfl)), (show c_fa c_pa A A276 by exact f278), (show (0 ≤ (I 2436) + 1 ∧ (I 2436) + 1 ≤ (I 773) ∧ (zk264 = 0 ∨ (I 2436) + 1 < (I 773))) ∧ ((I 773) = (I 773) ∧ (I 2439) = (I 2439) ∧ 0 ≤ (I 2117)) ∧ (I 2436) + 1 ≤ (I 2436) + 1 ∧ ((I 1670) + 1) + 1 ≤ (I 1670) + 2 * (((I 2436) + 1) - (I 2436)) ∧ (I 1670) ≤ (I 1670) + 1 by (repeat' apply And.intro) <;> first | assumption | omega), (show c_agl A A276 (I 1670) by exact g280)⟩
    · rw [e269]
      replace hR262b : w_Rep w_TC fr X (u + 6) (l + 64) I262b A262b B262b C262b M261 := hR262b
      replace f270 : c_fi c_ps I I262b := f270
      replace f271 : c_fa c_pa A A262b := f271
      replace f272 : M261.1[t268]? = some (.inr (11, [])) := f272
      exact Or.inr (⟨t268, I262b, A262b, B262b, C262b, rfl, hR262b, (show c_fi c_ps I I262b by exact f270), (show c_fa c_pa A A262b by exact f271), (show M261.1[t268]? = some (.inr (11, [])) by exact f272)⟩)
