def c_pattern_Q (fr : Nat → Bool) (X : Nat → Option (q_C (Nat → Int32))) (u l : Nat) (I : Nat → Int) (A : Nat → Int → Int) (B C : Nat → Nat) (M : w_M) : w_X → w_M → Prop := fun r M' => (∃ v : Int, ∃ (I' : Nat → Int) (A' : Nat → Int → Int) (B' C' : Nat → Nat), (r = .inl (some v)) ∧ (w_in v) ∧ (w_Rep w_TC fr X u l I' A' B' C' M') ∧ (c_fi c_ps I I') ∧ (c_fa c_pa A A') ∧ ((0 ≤ (I' 2436) ∧ (I' 2436) ≤ (I' 773) ∧ ((I' 2437) = 0 ∨ (I' 2436) < (I' 773))) ∧ ((I' 773) = (I 773) ∧ (I' 2439) = (I 2439) ∧ 0 ≤ (I' 2117)) ∧ (I 2436) + 1 ≤ (I' 2436) ∧ (I' 1670) + 1 ≤ (I 1670) + 2 * ((I' 2436) - (I 2436)) ∧ (I 1670) ≤ (I' 1670)) ∧ (c_agl A A' (I 1670))) ∨ (∃ t : Nat, ∃ (I' : Nat → Int) (A' : Nat → Int → Int) (B' C' : Nat → Nat), (r = .inr t) ∧ (w_Rep w_TC fr X (u + 6) (l + 64) I' A' B' C' M') ∧ (c_fi c_ps I I') ∧ (c_fa c_pa A A') ∧ (M'.1[t]? = some (.inr (11, []))))
set_option maxHeartbeats 100000000 in
set_option maxRecDepth 100000 in
theorem c_pattern {L : Nat} {xs : Nat → Int32} {d : Nat} {fr : Nat → Bool} {X : Nat → Option (q_C (Nat → Int32))} {u l : Nat} {I : Nat → Int} {A : Nat → Int → Int} {B C : Nat → Nat} {M : w_M} (hR : w_Rep w_TC fr X u l I A B C M) (hd : 7 ≤ d) (hl : l ≤ 7000000) (hNU : (0 ≤ (I 2436) ∧ (I 2436) ≤ (I 773) ∧ (I 773) ≤ 1501 ∧ ((I 2437) = 0 ∨ (I 2436) < (I 773))) ∧ (0 ≤ (I 2439) ∧ (I 2439) ≤ 24 ∧ 0 ≤ (I 2117)) ∧ 0 ≤ (I 1670) ∧ (I 1670) ≤ 2 * (I 2436) + 1) : w_W (z_P L xs) d 126 (0, [(0, .ref 38)], [], M) (c_pattern_Q fr X u l I A B C M) := by
  obtain ⟨d, rfl⟩ : ∃ d0, d = d0 + 1 := ⟨d - 1, by omega⟩
  refine w_adv (n := 1) (F' := (1, [(0, .ref 38)], [.ref 38], M)) rfl ?_
  refine w_gf (v := .int (Int32.ofInt ((I 2438)))) hR rfl rfl rfl rfl ?_
  obtain ⟨r1, r2⟩ : -2147483648 ≤ (I 2438) ∧ (I 2438) ≤ 2147483647 := hR.ri 2438
  refine w_adv (n := 2) (F' := (6, [(1, .int (Int32.ofInt ((I 2438)))), (0, .ref 38)], [.ref 38], M)) rfl ?_
  refine w_gf (v := .int (Int32.ofInt ((I 2437)))) hR rfl rfl rfl rfl ?_
  obtain ⟨r3, r4⟩ : -2147483648 ≤ (I 2437) ∧ (I 2437) ≤ 2147483647 := hR.ri 2437
  rcases (show ((I 2437) < 1 ∨ 4 < (I 2437)) ∨ (I 2437) = 1 ∨ (I 2437) = 2 ∨ (I 2437) = 3 ∨ (I 2437) = 4 by omega) with h5 | h5 | h5 | h5 | h5
  · refine w_swd rfl ⟨by omega, by omega⟩ h5 rfl ?_
    show w_W _ _ _ (151, [(1, .int (Int32.ofInt ((I 2438)))), (0, .ref 38)], [], M) _
    refine w_adv (n := 2) (F' := (153, [(1, .int (Int32.ofInt ((I 2438)))), (0, .ref 38)], [.int (Int32.ofInt (1)), .ref 38], M)) rfl ?_
    refine w_call (cm := 100) (as := [(0, .ref 38), (1, .int (Int32.ofInt (1)))]) (rest := []) (o := some (4, 38)) rfl (w_fitR hR rfl) (c_fail (1) hR ⟨by omega, by omega⟩ (show l ≤ 7000000 by first | assumption | omega) (show 1 ≤ 1 ∧ 1 ≤ 7 by first | assumption | omega)) (fun r6 M7 q8 => ?_)
    rcases q8 with ⟨t9, I8a, A8a, B8a, C8a, e10, hR8a, f11, f12, f13⟩
    rw [e10]
    replace hR8a : w_Rep w_TC fr X (u + 6) (l + 64) I8a A8a B8a C8a M7 := hR8a
    replace f11 : c_fi c_ps I I8a := f11
    replace f12 : c_fa c_pa A A8a := f12
    replace f13 : M7.1[t9]? = some (.inr (11, [])) := f13
    exact Or.inr (⟨t9, I8a, A8a, B8a, C8a, rfl, hR8a, (show c_fi c_ps I I8a by exact f11), (show c_fa c_pa A A8a by exact f12), (show M7.1[t9]? = some (.inr (11, [])) by exact f13)⟩)
  · refine w_sw (v := 1) (F' := (57, [(1, .int (Int32.ofInt ((I 2438)))), (0, .ref 38)], [], M)) h5 rfl rfl ?_
    refine w_adv (n := 1) (F' := (58, [(1, .int (Int32.ofInt ((I 2438)))), (0, .ref 38)], [.ref 38], M)) rfl ?_
    refine w_call (cm := 80) (as := [(0, .ref 38)]) (rest := []) (o := some (4, 38)) rfl (w_fitR hR rfl) (c_advance hR (show 3 ≤ d by omega) (show l ≤ 7000000 by first | assumption | omega) (show -1 ≤ (I 2436) ∧ (I 2436) < (I 773) ∧ (I 773) ≤ 1501 by first | assumption | omega)) (fun r14 M15 q16 => ?_)
    rcases q16 with ⟨zt17, zk18, zv19, e20, hR16a, f21⟩ | ⟨t22, I16b, A16b, B16b, C16b, e23, hR16b, f24, f25, f26⟩
    · rw [e20]
      replace hR16a : w_Rep w_TC fr X u l (w_up (w_up (w_up (w_up I 2436 ((I 2436) + 1)) 2441 (zt17)) 2437 (zk18)) 2438 (zv19)) A B C M15 := hR16a
      replace f21 : ((I 2436) + 1 < (I 773) ∨ zk18 = 0) := f21
      show w_W _ _ _ (61, [(1, .int (Int32.ofInt ((I 2438)))), (0, .ref 38)], [], M15) _
      refine w_adv (n := 1) (F' := (62, [(1, .int (Int32.ofInt ((I 2438)))), (0, .ref 38)], [.ref 38], M15)) rfl ?_
      refine w_gf (v := .int (Int32.ofInt (zk18))) hR16a rfl rfl rfl rfl ?_
      obtain ⟨r27, r28⟩ : -2147483648 ≤ zk18 ∧ zk18 ≤ 2147483647 := hR16a.ri 2437
      refine w_adv (n := 1) (F' := (66, [(1, .int (Int32.ofInt ((I 2438)))), (0, .ref 38)], [.int (Int32.ofInt (5)), .int (Int32.ofInt (zk18))], M15)) rfl ?_
      refine w_br2 (a := zk18) (b := 5) rfl rfl ⟨by omega, by omega⟩ ⟨by omega, by omega⟩ (fun h29 => ?_) (fun h29 => ?_)
      · have h29 : ¬ zk18 = 5 := h29
        show w_W _ _ _ (87, [(1, .int (Int32.ofInt ((I 2438)))), (0, .ref 38)], [], M15) _
        refine w_adv (n := 1) (F' := (88, [(1, .int (Int32.ofInt ((I 2438)))), (0, .ref 38)], [.ref 38], M15)) rfl ?_
        refine w_gf (v := .ref 26) hR16a rfl rfl rfl rfl ?_
        refine w_adv (n := 4) (F' := (96, [(1, .int (Int32.ofInt ((I 2438)))), (0, .ref 38)], [.int (Int32.ofInt ((-1))), .int (Int32.ofInt ((I 2438))), .int (Int32.ofInt (1)), .int (Int32.ofInt (17)), .ref 26], M15)) rfl ?_
        refine w_call (cm := 94) (as := [(0, .ref 26), (1, .int (Int32.ofInt (17))), (2, .int (Int32.ofInt (1))), (3, .int (Int32.ofInt ((I 2438)))), (4, .int (Int32.ofInt ((-1))))]) (rest := []) (o := some (8, 26)) rfl (w_fitR hR16a rfl) (c_mkn (17) (1) ((I 2438)) ((-1)) hR16a (show 2 ≤ d by omega) ⟨by omega, by omega⟩ ⟨by omega, by omega⟩ ⟨by omega, by omega⟩ ⟨by omega, by omega⟩ (show 0 ≤ (I 1670) ∧ (I 1670) < 3016 by first | assumption | omega)) (fun r30 M31 q32 => ?_)
        rcases q32 with ⟨A33, e34, hR32a, f35, f36⟩
        rw [e34]
        replace hR32a : w_Rep w_TC fr X u l (w_up (w_up (w_up (w_up (w_up I 2436 ((I 2436) + 1)) 2441 (zt17)) 2437 (zk18)) 2438 (zv19)) 1670 ((I 1670) + 1)) A33 B C M31 := hR32a
        replace f35 : c_fa c_pa A A33 := f35
        replace f36 : c_mk A A33 (I 1670) 17 1 (I 2438) (-1) := f36
        have g37 : c_agl A A33 (I 1670) := c_agl_trans c_agl_refl f36.1 (show (I 1670) ≤ (I 1670) by omega)
        show w_W _ _ _ (99, [(1, .int (Int32.ofInt ((I 2438)))), (0, .ref 38)], [.int (Int32.ofInt ((I 1670)))], M31) _
        refine w_fin (r := .inl (some ((I 1670)))) (M' := M31) rfl ?_
        exact Or.inl ⟨(I 1670), (w_up (w_up (w_up (w_up (w_up I 2436 ((I 2436) + 1)) 2441 (zt17)) 2437 (zk18)) 2438 (zv19)) 1670 ((I 1670) + 1)), A33, B, C, rfl, ⟨by omega, by omega⟩, hR32a, (show c_fi c_ps I (w_up (w_up (w_up (w_up (w_up I 2436 ((I 2436) + 1)) 2441 (zt17)) 2437 (zk18)) 2438 (zv19)) 1670 ((I 1670) + 1)) by exact (c_fi_up (c_fi_up (c_fi_up (c_fi_up (c_fi_up c_fi_refl rfl) rfl) rfl) rfl) rfl)), (show c_fa c_pa A A33 by exact f35), (show (0 ≤ (I 2436) + 1 ∧ (I 2436) + 1 ≤ (I 773) ∧ (zk18 = 0 ∨ (I 2436) + 1 < (I 773))) ∧ ((I 773) = (I 773) ∧ (I 2439) = (I 2439) ∧ 0 ≤ (I 2117)) ∧ (I 2436) + 1 ≤ (I 2436) + 1 ∧ ((I 1670) + 1) + 1 ≤ (I 1670) + 2 * (((I 2436) + 1) - (I 2436)) ∧ (I 1670) ≤ (I 1670) + 1 by (repeat' apply And.intro) <;> first | assumption | omega), (show c_agl A A33 (I 1670) by exact g37)⟩
      · have h29 : ¬ (¬ zk18 = 5) := h29
        show w_W _ _ _ (69, [(1, .int (Int32.ofInt ((I 2438)))), (0, .ref 38)], [], M15) _
        refine w_adv (n := 1) (F' := (70, [(1, .int (Int32.ofInt ((I 2438)))), (0, .ref 38)], [.ref 38], M15)) rfl ?_
        refine w_gf (v := .ref 26) hR16a rfl rfl rfl rfl ?_
        refine w_adv (n := 4) (F' := (78, [(1, .int (Int32.ofInt ((I 2438)))), (0, .ref 38)], [.ref 38, .int (Int32.ofInt ((I 2438))), .int (Int32.ofInt (2)), .int (Int32.ofInt (17)), .ref 26], M15)) rfl ?_
        refine w_call (cm := 127) (as := [(0, .ref 38)]) (rest := [.int (Int32.ofInt ((I 2438))), .int (Int32.ofInt (2)), .int (Int32.ofInt (17)), .ref 26]) (o := some (4, 38)) rfl (w_fitR hR16a rfl) (c_slots hR16a (show 6 ≤ d by omega) (show l ≤ 7000000 by first | assumption | omega) (show (0 ≤ (I 2436) + 1 ∧ (I 2436) + 1 ≤ (I 773) ∧ (I 773) ≤ 1501 ∧ (zk18 = 0 ∨ (I 2436) + 1 < (I 773))) ∧ (0 ≤ (I 2439) ∧ (I 2439) ≤ 24 ∧ 0 ≤ (I 2117)) ∧ 0 ≤ (I 1670) ∧ (I 1670) ≤ 2 * ((I 2436) + 1) + 1 by (repeat' apply And.intro) <;> first | assumption | omega) (show ¬ zk18 = 0 by first | assumption | omega)) (fun r38 M39 q40 => ?_)
        rcases q40 with ⟨v41, I40a, A40a, B40a, C40a, e42, ⟨r43, r44⟩, hR40a, f45, f46, f47, f48⟩ | ⟨t49, I40b, A40b, B40b, C40b, e50, hR40b, f51, f52, f53⟩
        · rw [e42]
          replace hR40a : w_Rep w_TC fr X u l I40a A40a B40a C40a M39 := hR40a
          replace f45 : c_fi c_ps (w_up (w_up (w_up (w_up I 2436 ((I 2436) + 1)) 2441 (zt17)) 2437 (zk18)) 2438 (zv19)) I40a := f45
          replace f46 : c_fa c_pa A A40a := f46
          replace f47 : (0 ≤ (I40a 2436) ∧ (I40a 2436) ≤ (I40a 773) ∧ ((I40a 2437) = 0 ∨ (I40a 2436) < (I40a 773))) ∧ ((I40a 773) = (I 773) ∧ (I40a 2439) = (I 2439) ∧ 0 ≤ (I40a 2117)) ∧ ((I 2436) + 1) + 2 ≤ (I40a 2436) ∧ (I40a 1670) + 0 ≤ (I 1670) + 2 * ((I40a 2436) - ((I 2436) + 1)) ∧ (I 1670) ≤ (I40a 1670) := f47
          obtain ⟨⟨n54, n55, n56⟩, ⟨n57, n58, n59⟩, n60, n61, n62⟩ := id f47
          clear f47
          replace f48 : c_agl A A40a (I 1670) := f48
          have g63 : c_agl A A40a (I 1670) := c_agl_trans c_agl_refl f48 (show (I 1670) ≤ (I 1670) by omega)
          show w_W _ _ _ (81, [(1, .int (Int32.ofInt ((I 2438)))), (0, .ref 38)], [.int (Int32.ofInt (v41)), .int (Int32.ofInt ((I 2438))), .int (Int32.ofInt (2)), .int (Int32.ofInt (17)), .ref 26], M39) _
          refine w_call (cm := 94) (as := [(0, .ref 26), (1, .int (Int32.ofInt (17))), (2, .int (Int32.ofInt (2))), (3, .int (Int32.ofInt ((I 2438)))), (4, .int (Int32.ofInt (v41)))]) (rest := []) (o := some (8, 26)) rfl (w_fitR hR40a rfl) (c_mkn (17) (2) ((I 2438)) (v41) hR40a (show 2 ≤ d by omega) ⟨by omega, by omega⟩ ⟨by omega, by omega⟩ ⟨by omega, by omega⟩ ⟨by omega, by omega⟩ (show 0 ≤ (I40a 1670) ∧ (I40a 1670) < 3016 by first | assumption | omega)) (fun r64 M65 q66 => ?_)
          rcases q66 with ⟨A67, e68, hR66a, f69, f70⟩
          rw [e68]
          replace hR66a : w_Rep w_TC fr X u l (w_up I40a 1670 ((I40a 1670) + 1)) A67 B40a C40a M65 := hR66a
          replace f69 : c_fa c_pa A40a A67 := f69
          replace f70 : c_mk A40a A67 (I40a 1670) 17 2 (I 2438) v41 := f70
          have g71 : c_agl A A67 (I 1670) := c_agl_trans g63 f70.1 (show (I 1670) ≤ (I40a 1670) by omega)
          show w_W _ _ _ (84, [(1, .int (Int32.ofInt ((I 2438)))), (0, .ref 38)], [.int (Int32.ofInt ((I40a 1670)))], M65) _
          refine w_adv (n := 1) (F' := (99, [(1, .int (Int32.ofInt ((I 2438)))), (0, .ref 38)], [.int (Int32.ofInt ((I40a 1670)))], M65)) rfl ?_
          refine w_fin (r := .inl (some ((I40a 1670)))) (M' := M65) rfl ?_
          exact Or.inl ⟨(I40a 1670), (w_up I40a 1670 ((I40a 1670) + 1)), A67, B40a, C40a, rfl, ⟨by omega, by omega⟩, hR66a, (show c_fi c_ps I (w_up I40a 1670 ((I40a 1670) + 1)) by exact (c_fi_up (c_fi_trans (c_fi_up (c_fi_up (c_fi_up (c_fi_up c_fi_refl rfl) rfl) rfl) rfl) f45) rfl)), (show c_fa c_pa A A67 by exact (c_fa_trans f46 f69)), (show (0 ≤ (I40a 2436) ∧ (I40a 2436) ≤ (I40a 773) ∧ ((I40a 2437) = 0 ∨ (I40a 2436) < (I40a 773))) ∧ ((I40a 773) = (I 773) ∧ (I40a 2439) = (I 2439) ∧ 0 ≤ (I40a 2117)) ∧ (I 2436) + 1 ≤ (I40a 2436) ∧ ((I40a 1670) + 1) + 1 ≤ (I 1670) + 2 * ((I40a 2436) - (I 2436)) ∧ (I 1670) ≤ (I40a 1670) + 1 by (repeat' apply And.intro) <;> first | assumption | omega), (show c_agl A A67 (I 1670) by exact g71)⟩
        · rw [e50]
          replace hR40b : w_Rep w_TC fr X (u + 6) (l + 64) I40b A40b B40b C40b M39 := hR40b
          replace f51 : c_fi c_ps (w_up (w_up (w_up (w_up I 2436 ((I 2436) + 1)) 2441 (zt17)) 2437 (zk18)) 2438 (zv19)) I40b := f51
          replace f52 : c_fa c_pa A A40b := f52
          replace f53 : M39.1[t49]? = some (.inr (11, [])) := f53
          exact Or.inr (⟨t49, I40b, A40b, B40b, C40b, rfl, hR40b, (show c_fi c_ps I I40b by exact (c_fi_trans (c_fi_up (c_fi_up (c_fi_up (c_fi_up c_fi_refl rfl) rfl) rfl) rfl) f51)), (show c_fa c_pa A A40b by exact f52), (show M39.1[t49]? = some (.inr (11, [])) by exact f53)⟩)
    · rw [e23]
      replace hR16b : w_Rep w_TC fr X (u + 6) (l + 64) I16b A16b B16b C16b M15 := hR16b
      replace f24 : c_fi c_ps I I16b := f24
      replace f25 : c_fa c_pa A A16b := f25
      replace f26 : M15.1[t22]? = some (.inr (11, [])) := f26
      exact Or.inr (⟨t22, I16b, A16b, B16b, C16b, rfl, hR16b, (show c_fi c_ps I I16b by exact f24), (show c_fa c_pa A A16b by exact f25), (show M15.1[t22]? = some (.inr (11, [])) by exact f26)⟩)
  · refine w_sw (v := 2) (F' := (100, [(1, .int (Int32.ofInt ((I 2438)))), (0, .ref 38)], [], M)) h5 rfl rfl ?_
    refine w_adv (n := 1) (F' := (101, [(1, .int (Int32.ofInt ((I 2438)))), (0, .ref 38)], [.ref 38], M)) rfl ?_
    refine w_gf (v := .ref 33) hR rfl rfl rfl rfl ?_
    refine w_call (cm := 118) (as := [(0, .ref 33)]) (rest := []) (o := some (5, 33)) rfl (w_fitR hR rfl) (c_snext hR) (fun r72 M73 q74 => ?_)
    rcases q74 with ⟨e75, e76⟩
    rw [e75, e76]
    obtain ⟨r77, r78⟩ : -2147483648 ≤ (I 2117) ∧ (I 2117) ≤ 2147483647 := hR.ri 2117
    show w_W _ _ _ (107, [(1, .int (Int32.ofInt ((I 2438)))), (0, .ref 38)], [.int (Int32.ofInt ((I 2117)))], M) _
    refine w_adv (n := 5) (F' := (112, [(2, .int (Int32.ofInt ((I 2117)))), (1, .int (Int32.ofInt ((I 2438)))), (0, .ref 38)], [.int (Int32.ofInt (1)), .int (Int32.ofInt (1)), .int (Int32.ofInt ((I 2117))), .ref 38], M)) rfl ?_
    refine w_call (cm := 128) (as := [(0, .ref 38), (1, .int (Int32.ofInt ((I 2117)))), (2, .int (Int32.ofInt (1))), (3, .int (Int32.ofInt (1)))]) (rest := []) (o := some (4, 38)) rfl (w_fitR hR rfl) (c_slot ((I 2117)) (1) (1) hR (show 4 ≤ d by omega) ⟨by omega, by omega⟩ ⟨by omega, by omega⟩ ⟨by omega, by omega⟩ (show l ≤ 7000000 by first | assumption | omega) (show (0 ≤ (I 2436) ∧ (I 2436) ≤ (I 773) ∧ (I 773) ≤ 1501 ∧ ((I 2437) = 0 ∨ (I 2436) < (I 773))) ∧ (0 ≤ (I 2439) ∧ (I 2439) ≤ 24 ∧ 0 ≤ (I 2117)) ∧ 0 ≤ (I 1670) ∧ (I 1670) ≤ 2 * (I 2436) + 1 by (repeat' apply And.intro) <;> first | assumption | omega)) (fun r79 M80 q81 => ?_)
    rcases q81 with ⟨v82, I81a, A81a, B81a, C81a, e83, ⟨r84, r85⟩, hR81a, f86, f87, f88, f89, f90⟩ | ⟨t91, I81b, A81b, B81b, C81b, e92, hR81b, f93, f94, f95⟩
    · rw [e83]
      replace hR81a : w_Rep w_TC fr X u l I81a A81a B81a C81a M80 := hR81a
      replace f86 : c_fi c_ps I I81a := f86
      replace f87 : c_fa c_pa A A81a := f87
      replace f88 : (0 ≤ (I81a 2436) ∧ (I81a 2436) ≤ (I81a 773) ∧ ((I81a 2437) = 0 ∨ (I81a 2436) < (I81a 773))) ∧ ((I81a 773) = (I 773) ∧ (I81a 2439) = (I 2439) ∧ 0 ≤ (I81a 2117)) ∧ (I 2436) + 1 ≤ (I81a 2436) ∧ (I81a 1670) + 1 ≤ (I 1670) + 2 * ((I81a 2436) - (I 2436)) ∧ (I 1670) ≤ (I81a 1670) := f88
      obtain ⟨⟨n96, n97, n98⟩, ⟨n99, n100, n101⟩, n102, n103, n104⟩ := id f88
      clear f88
      replace f89 : c_agl A A81a (I 1670) := f89
      replace f90 : (I 1670) ≤ v82 ∧ v82 < (I81a 1670) := f90
      obtain ⟨n105, n106⟩ := id f90
      clear f90
      have g107 : c_agl A A81a (I 1670) := c_agl_trans c_agl_refl f89 (show (I 1670) ≤ (I 1670) by omega)
      show w_W _ _ _ (115, [(2, .int (Int32.ofInt ((I 2117)))), (1, .int (Int32.ofInt ((I 2438)))), (0, .ref 38)], [.int (Int32.ofInt (v82))], M80) _
      refine w_adv (n := 3) (F' := (119, [(3, .int (Int32.ofInt (v82))), (2, .int (Int32.ofInt ((I 2117)))), (1, .int (Int32.ofInt ((I 2438)))), (0, .ref 38)], [.int (Int32.ofInt (18)), .ref 38], M80)) rfl ?_
      refine w_call (cm := 105) (as := [(0, .ref 38), (1, .int (Int32.ofInt (18)))]) (rest := []) (o := some (4, 38)) rfl (w_fitR hR81a rfl) (c_need (18) hR81a (show 4 ≤ d by omega) ⟨by omega, by omega⟩ (show l ≤ 7000000 by first | assumption | omega) (show -1 ≤ (I81a 2436) ∧ ((I81a 2437) = 0 ∨ (I81a 2436) < (I81a 773)) ∧ (I81a 773) ≤ 1501 ∧ 1 ≤ 18 by first | assumption | omega)) (fun r108 M109 q110 => ?_)
      rcases q110 with ⟨zt111, zk112, zv113, e114, hR110a, f115, f116⟩ | ⟨t117, I110b, A110b, B110b, C110b, e118, hR110b, f119, f120, f121⟩
      · rw [e114]
        replace hR110a : w_Rep w_TC fr X u l (w_up (w_up (w_up (w_up I81a 2436 ((I81a 2436) + 1)) 2441 (zt111)) 2437 (zk112)) 2438 (zv113)) A81a B81a C81a M109 := hR110a
        replace f115 : ((I81a 2436) + 1 < (I81a 773) ∨ zk112 = 0) := f115
        replace f116 : (I81a 2437) = 18 := f116
        show w_W _ _ _ (122, [(3, .int (Int32.ofInt (v82))), (2, .int (Int32.ofInt ((I 2117)))), (1, .int (Int32.ofInt ((I 2438)))), (0, .ref 38)], [], M109) _
        refine w_adv (n := 1) (F' := (123, [(3, .int (Int32.ofInt (v82))), (2, .int (Int32.ofInt ((I 2117)))), (1, .int (Int32.ofInt ((I 2438)))), (0, .ref 38)], [.ref 38], M109)) rfl ?_
        refine w_gf (v := .ref 26) hR110a rfl rfl rfl rfl ?_
        refine w_adv (n := 5) (F' := (131, [(3, .int (Int32.ofInt (v82))), (2, .int (Int32.ofInt ((I 2117)))), (1, .int (Int32.ofInt ((I 2438)))), (0, .ref 38)], [.int (Int32.ofInt (2)), .int (Int32.ofInt (2)), .int (Int32.ofInt ((I 2117))), .ref 38, .int (Int32.ofInt (v82)), .ref 26], M109)) rfl ?_
        refine w_call (cm := 128) (as := [(0, .ref 38), (1, .int (Int32.ofInt ((I 2117)))), (2, .int (Int32.ofInt (2))), (3, .int (Int32.ofInt (2)))]) (rest := [.int (Int32.ofInt (v82)), .ref 26]) (o := some (4, 38)) rfl (w_fitR hR110a rfl) (c_slot ((I 2117)) (2) (2) hR110a (show 4 ≤ d by omega) ⟨by omega, by omega⟩ ⟨by omega, by omega⟩ ⟨by omega, by omega⟩ (show l ≤ 7000000 by first | assumption | omega) (show (0 ≤ (I81a 2436) + 1 ∧ (I81a 2436) + 1 ≤ (I81a 773) ∧ (I81a 773) ≤ 1501 ∧ (zk112 = 0 ∨ (I81a 2436) + 1 < (I81a 773))) ∧ (0 ≤ (I81a 2439) ∧ (I81a 2439) ≤ 24 ∧ 0 ≤ (I81a 2117)) ∧ 0 ≤ (I81a 1670) ∧ (I81a 1670) ≤ 2 * ((I81a 2436) + 1) + 1 by (repeat' apply And.intro) <;> first | assumption | omega)) (fun r122 M123 q124 => ?_)
        rcases q124 with ⟨v125, I124a, A124a, B124a, C124a, e126, ⟨r127, r128⟩, hR124a, f129, f130, f131, f132, f133⟩ | ⟨t134, I124b, A124b, B124b, C124b, e135, hR124b, f136, f137, f138⟩
        · rw [e126]
          replace hR124a : w_Rep w_TC fr X u l I124a A124a B124a C124a M123 := hR124a
          replace f129 : c_fi c_ps (w_up (w_up (w_up (w_up I81a 2436 ((I81a 2436) + 1)) 2441 (zt111)) 2437 (zk112)) 2438 (zv113)) I124a := f129
          replace f130 : c_fa c_pa A81a A124a := f130
          replace f131 : (0 ≤ (I124a 2436) ∧ (I124a 2436) ≤ (I124a 773) ∧ ((I124a 2437) = 0 ∨ (I124a 2436) < (I124a 773))) ∧ ((I124a 773) = (I81a 773) ∧ (I124a 2439) = (I81a 2439) ∧ 0 ≤ (I124a 2117)) ∧ ((I81a 2436) + 1) + 1 ≤ (I124a 2436) ∧ (I124a 1670) + 1 ≤ (I81a 1670) + 2 * ((I124a 2436) - ((I81a 2436) + 1)) ∧ (I81a 1670) ≤ (I124a 1670) := f131
          obtain ⟨⟨n139, n140, n141⟩, ⟨n142, n143, n144⟩, n145, n146, n147⟩ := id f131
          clear f131
          replace f132 : c_agl A81a A124a (I81a 1670) := f132
          replace f133 : (I81a 1670) ≤ v125 ∧ v125 < (I124a 1670) := f133
          obtain ⟨n148, n149⟩ := id f133
          clear f133
          have g150 : c_agl A A124a (I 1670) := c_agl_trans g107 f132 (show (I 1670) ≤ (I81a 1670) by omega)
          show w_W _ _ _ (134, [(3, .int (Int32.ofInt (v82))), (2, .int (Int32.ofInt ((I 2117)))), (1, .int (Int32.ofInt ((I 2438)))), (0, .ref 38)], [.int (Int32.ofInt (v125)), .int (Int32.ofInt (v82)), .ref 26], M123) _
          refine w_call (cm := 106) (as := [(0, .ref 26), (1, .int (Int32.ofInt (v82))), (2, .int (Int32.ofInt (v125)))]) (rest := []) (o := some (8, 26)) rfl (w_fitR hR124a rfl) (c_chn (v82) (v125) hR124a (show 2 ≤ d by omega) ⟨by omega, by omega⟩ ⟨by omega, by omega⟩) (fun r151 M152 q153 => ?_)
          rcases q153 with ⟨A154, e155, hR153a, f156, f157⟩
          rw [e155]
          replace hR153a : w_Rep w_TC fr X u l I124a A154 B124a C124a M152 := hR153a
          replace f156 : c_fa c_pa A124a A154 := f156
          replace f157 : c_nxw A124a A154 v82 v125 := f157
          have g158 : c_agl A124a A154 (I 1670) := c_agl_nxw f157 (show (I 1670) ≤ v82 ∨ v82 < 0 by omega)
          have g159 : c_agl A A154 (I 1670) := c_agl_trans g150 g158 (show (I 1670) ≤ (I 1670) by omega)
          show w_W _ _ _ (137, [(3, .int (Int32.ofInt (v82))), (2, .int (Int32.ofInt ((I 2117)))), (1, .int (Int32.ofInt ((I 2438)))), (0, .ref 38)], [.int (Int32.ofInt (v125))], M152) _
          refine w_adv (n := 2) (F' := (139, [(3, .int (Int32.ofInt (v82))), (2, .int (Int32.ofInt ((I 2117)))), (1, .int (Int32.ofInt ((I 2438)))), (0, .ref 38)], [.ref 38], M152)) rfl ?_
          refine w_gf (v := .ref 26) hR153a rfl rfl rfl rfl ?_
          refine w_adv (n := 4) (F' := (147, [(3, .int (Int32.ofInt (v82))), (2, .int (Int32.ofInt ((I 2117)))), (1, .int (Int32.ofInt ((I 2438)))), (0, .ref 38)], [.int (Int32.ofInt (v82)), .int (Int32.ofInt (3)), .int (Int32.ofInt (2)), .int (Int32.ofInt (17)), .ref 26], M152)) rfl ?_
          refine w_call (cm := 94) (as := [(0, .ref 26), (1, .int (Int32.ofInt (17))), (2, .int (Int32.ofInt (2))), (3, .int (Int32.ofInt (3))), (4, .int (Int32.ofInt (v82)))]) (rest := []) (o := some (8, 26)) rfl (w_fitR hR153a rfl) (c_mkn (17) (2) (3) (v82) hR153a (show 2 ≤ d by omega) ⟨by omega, by omega⟩ ⟨by omega, by omega⟩ ⟨by omega, by omega⟩ ⟨by omega, by omega⟩ (show 0 ≤ (I124a 1670) ∧ (I124a 1670) < 3016 by first | assumption | omega)) (fun r160 M161 q162 => ?_)
          rcases q162 with ⟨A163, e164, hR162a, f165, f166⟩
          rw [e164]
          replace hR162a : w_Rep w_TC fr X u l (w_up I124a 1670 ((I124a 1670) + 1)) A163 B124a C124a M161 := hR162a
          replace f165 : c_fa c_pa A154 A163 := f165
          replace f166 : c_mk A154 A163 (I124a 1670) 17 2 3 v82 := f166
          have g167 : c_agl A A163 (I 1670) := c_agl_trans g159 f166.1 (show (I 1670) ≤ (I124a 1670) by omega)
          show w_W _ _ _ (150, [(3, .int (Int32.ofInt (v82))), (2, .int (Int32.ofInt ((I 2117)))), (1, .int (Int32.ofInt ((I 2438)))), (0, .ref 38)], [.int (Int32.ofInt ((I124a 1670)))], M161) _
          refine w_fin (r := .inl (some ((I124a 1670)))) (M' := M161) rfl ?_
          exact Or.inl ⟨(I124a 1670), (w_up I124a 1670 ((I124a 1670) + 1)), A163, B124a, C124a, rfl, ⟨by omega, by omega⟩, hR162a, (show c_fi c_ps I (w_up I124a 1670 ((I124a 1670) + 1)) by exact (c_fi_up (c_fi_trans (c_fi_up (c_fi_up (c_fi_up (c_fi_up f86 rfl) rfl) rfl) rfl) f129) rfl)), (show c_fa c_pa A A163 by exact (c_fa_trans (c_fa_trans (c_fa_trans f87 f130) f156) f165)), (show (0 ≤ (I124a 2436) ∧ (I124a 2436) ≤ (I124a 773) ∧ ((I124a 2437) = 0 ∨ (I124a 2436) < (I124a 773))) ∧ ((I124a 773) = (I 773) ∧ (I124a 2439) = (I 2439) ∧ 0 ≤ (I124a 2117)) ∧ (I 2436) + 1 ≤ (I124a 2436) ∧ ((I124a 1670) + 1) + 1 ≤ (I 1670) + 2 * ((I124a 2436) - (I 2436)) ∧ (I 1670) ≤ (I124a 1670) + 1 by (repeat' apply And.intro) <;> first | assumption | omega), (show c_agl A A163 (I 1670) by exact g167)⟩
        · rw [e135]
          replace hR124b : w_Rep w_TC fr X (u + 6) (l + 64) I124b A124b B124b C124b M123 := hR124b
          replace f136 : c_fi c_ps (w_up (w_up (w_up (w_up I81a 2436 ((I81a 2436) + 1)) 2441 (zt111)) 2437 (zk112)) 2438 (zv113)) I124b := f136
          replace f137 : c_fa c_pa A81a A124b := f137
          replace f138 : M123.1[t134]? = some (.inr (11, [])) := f138
          exact Or.inr (⟨t134, I124b, A124b, B124b, C124b, rfl, hR124b, (show c_fi c_ps I I124b by exact (c_fi_trans (c_fi_up (c_fi_up (c_fi_up (c_fi_up f86 rfl) rfl) rfl) rfl) f136)), (show c_fa c_pa A A124b by exact (c_fa_trans f87 f137)), (show M123.1[t134]? = some (.inr (11, [])) by exact f138)⟩)
      · rw [e118]
        replace hR110b : w_Rep w_TC fr X (u + 6) (l + 64) I110b A110b B110b C110b M109 := hR110b
        replace f119 : c_fi c_ps I81a I110b := f119
        replace f120 : c_fa c_pa A81a A110b := f120
        replace f121 : M109.1[t117]? = some (.inr (11, [])) := f121
        exact Or.inr (⟨t117, I110b, A110b, B110b, C110b, rfl, hR110b, (show c_fi c_ps I I110b by exact (c_fi_trans f86 f119)), (show c_fa c_pa A A110b by exact (c_fa_trans f87 f120)), (show M109.1[t117]? = some (.inr (11, [])) by exact f121)⟩)
    · rw [e92]
      replace hR81b : w_Rep w_TC fr X (u + 6) (l + 64) I81b A81b B81b C81b M80 := hR81b
      replace f93 : c_fi c_ps I I81b := f93
      replace f94 : c_fa c_pa A A81b := f94
      replace f95 : M80.1[t91]? = some (.inr (11, [])) := f95
      exact Or.inr (⟨t91, I81b, A81b, B81b, C81b, rfl, hR81b, (show c_fi c_ps I I81b by exact f93), (show c_fa c_pa A A81b by exact f94), (show M80.1[t91]? = some (.inr (11, [])) by exact f95)⟩)
  · refine w_sw (v := 3) (F' := (100, [(1, .int (Int32.ofInt ((I 2438)))), (0, .ref 38)], [], M)) h5 rfl rfl ?_
    refine w_adv (n := 1) (F' := (101, [(1, .int (Int32.ofInt ((I 2438)))), (0, .ref 38)], [.ref 38], M)) rfl ?_
    refine w_gf (v := .ref 33) hR rfl rfl rfl rfl ?_
    refine w_call (cm := 118) (as := [(0, .ref 33)]) (rest := []) (o := some (5, 33)) rfl (w_fitR hR rfl) (c_snext hR) (fun r168 M169 q170 => ?_)
    rcases q170 with ⟨e171, e172⟩
    rw [e171, e172]
    obtain ⟨r173, r174⟩ : -2147483648 ≤ (I 2117) ∧ (I 2117) ≤ 2147483647 := hR.ri 2117
    show w_W _ _ _ (107, [(1, .int (Int32.ofInt ((I 2438)))), (0, .ref 38)], [.int (Int32.ofInt ((I 2117)))], M) _
    refine w_adv (n := 5) (F' := (112, [(2, .int (Int32.ofInt ((I 2117)))), (1, .int (Int32.ofInt ((I 2438)))), (0, .ref 38)], [.int (Int32.ofInt (1)), .int (Int32.ofInt (1)), .int (Int32.ofInt ((I 2117))), .ref 38], M)) rfl ?_
    refine w_call (cm := 128) (as := [(0, .ref 38), (1, .int (Int32.ofInt ((I 2117)))), (2, .int (Int32.ofInt (1))), (3, .int (Int32.ofInt (1)))]) (rest := []) (o := some (4, 38)) rfl (w_fitR hR rfl) (c_slot ((I 2117)) (1) (1) hR (show 4 ≤ d by omega) ⟨by omega, by omega⟩ ⟨by omega, by omega⟩ ⟨by omega, by omega⟩ (show l ≤ 7000000 by first | assumption | omega) (show (0 ≤ (I 2436) ∧ (I 2436) ≤ (I 773) ∧ (I 773) ≤ 1501 ∧ ((I 2437) = 0 ∨ (I 2436) < (I 773))) ∧ (0 ≤ (I 2439) ∧ (I 2439) ≤ 24 ∧ 0 ≤ (I 2117)) ∧ 0 ≤ (I 1670) ∧ (I 1670) ≤ 2 * (I 2436) + 1 by (repeat' apply And.intro) <;> first | assumption | omega)) (fun r175 M176 q177 => ?_)
    rcases q177 with ⟨v178, I177a, A177a, B177a, C177a, e179, ⟨r180, r181⟩, hR177a, f182, f183, f184, f185, f186⟩ | ⟨t187, I177b, A177b, B177b, C177b, e188, hR177b, f189, f190, f191⟩
    · rw [e179]
      replace hR177a : w_Rep w_TC fr X u l I177a A177a B177a C177a M176 := hR177a
      replace f182 : c_fi c_ps I I177a := f182
      replace f183 : c_fa c_pa A A177a := f183
      replace f184 : (0 ≤ (I177a 2436) ∧ (I177a 2436) ≤ (I177a 773) ∧ ((I177a 2437) = 0 ∨ (I177a 2436) < (I177a 773))) ∧ ((I177a 773) = (I 773) ∧ (I177a 2439) = (I 2439) ∧ 0 ≤ (I177a 2117)) ∧ (I 2436) + 1 ≤ (I177a 2436) ∧ (I177a 1670) + 1 ≤ (I 1670) + 2 * ((I177a 2436) - (I 2436)) ∧ (I 1670) ≤ (I177a 1670) := f184
      obtain ⟨⟨n192, n193, n194⟩, ⟨n195, n196, n197⟩, n198, n199, n200⟩ := id f184
      clear f184
      replace f185 : c_agl A A177a (I 1670) := f185
      replace f186 : (I 1670) ≤ v178 ∧ v178 < (I177a 1670) := f186
      obtain ⟨n201, n202⟩ := id f186
      clear f186
      have g203 : c_agl A A177a (I 1670) := c_agl_trans c_agl_refl f185 (show (I 1670) ≤ (I 1670) by omega)
      show w_W _ _ _ (115, [(2, .int (Int32.ofInt ((I 2117)))), (1, .int (Int32.ofInt ((I 2438)))), (0, .ref 38)], [.int (Int32.ofInt (v178))], M176) _
      refine w_adv (n := 3) (F' := (119, [(3, .int (Int32.ofInt (v178))), (2, .int (Int32.ofInt ((I 2117)))), (1, .int (Int32.ofInt ((I 2438)))), (0, .ref 38)], [.int (Int32.ofInt (18)), .ref 38], M176)) rfl ?_
      refine w_call (cm := 105) (as := [(0, .ref 38), (1, .int (Int32.ofInt (18)))]) (rest := []) (o := some (4, 38)) rfl (w_fitR hR177a rfl) (c_need (18) hR177a (show 4 ≤ d by omega) ⟨by omega, by omega⟩ (show l ≤ 7000000 by first | assumption | omega) (show -1 ≤ (I177a 2436) ∧ ((I177a 2437) = 0 ∨ (I177a 2436) < (I177a 773)) ∧ (I177a 773) ≤ 1501 ∧ 1 ≤ 18 by first | assumption | omega)) (fun r204 M205 q206 => ?_)
      rcases q206 with ⟨zt207, zk208, zv209, e210, hR206a, f211, f212⟩ | ⟨t213, I206b, A206b, B206b, C206b, e214, hR206b, f215, f216, f217⟩
      · rw [e210]
        replace hR206a : w_Rep w_TC fr X u l (w_up (w_up (w_up (w_up I177a 2436 ((I177a 2436) + 1)) 2441 (zt207)) 2437 (zk208)) 2438 (zv209)) A177a B177a C177a M205 := hR206a
        replace f211 : ((I177a 2436) + 1 < (I177a 773) ∨ zk208 = 0) := f211
        replace f212 : (I177a 2437) = 18 := f212
        show w_W _ _ _ (122, [(3, .int (Int32.ofInt (v178))), (2, .int (Int32.ofInt ((I 2117)))), (1, .int (Int32.ofInt ((I 2438)))), (0, .ref 38)], [], M205) _
        refine w_adv (n := 1) (F' := (123, [(3, .int (Int32.ofInt (v178))), (2, .int (Int32.ofInt ((I 2117)))), (1, .int (Int32.ofInt ((I 2438)))), (0, .ref 38)], [.ref 38], M205)) rfl ?_
        refine w_gf (v := .ref 26) hR206a rfl rfl rfl rfl ?_
        refine w_adv (n := 5) (F' := (131, [(3, .int (Int32.ofInt (v178))), (2, .int (Int32.ofInt ((I 2117)))), (1, .int (Int32.ofInt ((I 2438)))), (0, .ref 38)], [.int (Int32.ofInt (2)), .int (Int32.ofInt (2)), .int (Int32.ofInt ((I 2117))), .ref 38, .int (Int32.ofInt (v178)), .ref 26], M205)) rfl ?_
        refine w_call (cm := 128) (as := [(0, .ref 38), (1, .int (Int32.ofInt ((I 2117)))), (2, .int (Int32.ofInt (2))), (3, .int (Int32.ofInt (2)))]) (rest := [.int (Int32.ofInt (v178)), .ref 26]) (o := some (4, 38)) rfl (w_fitR hR206a rfl) (c_slot ((I 2117)) (2) (2) hR206a (show 4 ≤ d by omega) ⟨by omega, by omega⟩ ⟨by omega, by omega⟩ ⟨by omega, by omega⟩ (show l ≤ 7000000 by first | assumption | omega) (show (0 ≤ (I177a 2436) + 1 ∧ (I177a 2436) + 1 ≤ (I177a 773) ∧ (I177a 773) ≤ 1501 ∧ (zk208 = 0 ∨ (I177a 2436) + 1 < (I177a 773))) ∧ (0 ≤ (I177a 2439) ∧ (I177a 2439) ≤ 24 ∧ 0 ≤ (I177a 2117)) ∧ 0 ≤ (I177a 1670) ∧ (I177a 1670) ≤ 2 * ((I177a 2436) + 1) + 1 by (repeat' apply And.intro) <;> first | assumption | omega)) (fun r218 M219 q220 => ?_)
        rcases q220 with ⟨v221, I220a, A220a, B220a, C220a, e222, ⟨r223, r224⟩, hR220a, f225, f226, f227, f228, f229⟩ | ⟨t230, I220b, A220b, B220b, C220b, e231, hR220b, f232, f233, f234⟩
        · rw [e222]
          replace hR220a : w_Rep w_TC fr X u l I220a A220a B220a C220a M219 := hR220a
          replace f225 : c_fi c_ps (w_up (w_up (w_up (w_up I177a 2436 ((I177a 2436) + 1)) 2441 (zt207)) 2437 (zk208)) 2438 (zv209)) I220a := f225
          replace f226 : c_fa c_pa A177a A220a := f226
          replace f227 : (0 ≤ (I220a 2436) ∧ (I220a 2436) ≤ (I220a 773) ∧ ((I220a 2437) = 0 ∨ (I220a 2436) < (I220a 773))) ∧ ((I220a 773) = (I177a 773) ∧ (I220a 2439) = (I177a 2439) ∧ 0 ≤ (I220a 2117)) ∧ ((I177a 2436) + 1) + 1 ≤ (I220a 2436) ∧ (I220a 1670) + 1 ≤ (I177a 1670) + 2 * ((I220a 2436) - ((I177a 2436) + 1)) ∧ (I177a 1670) ≤ (I220a 1670) := f227
          obtain ⟨⟨n235, n236, n237⟩, ⟨n238, n239, n240⟩, n241, n242, n243⟩ := id f227
          clear f227
          replace f228 : c_agl A177a A220a (I177a 1670) := f228
          replace f229 : (I177a 1670) ≤ v221 ∧ v221 < (I220a 1670) := f229
          obtain ⟨n244, n245⟩ := id f229
          clear f229
          have g246 : c_agl A A220a (I 1670) := c_agl_trans g203 f228 (show (I 1670) ≤ (I177a 1670) by omega)
          show w_W _ _ _ (134, [(3, .int (Int32.ofInt (v178))), (2, .int (Int32.ofInt ((I 2117)))), (1, .int (Int32.ofInt ((I 2438)))), (0, .ref 38)], [.int (Int32.ofInt (v221)), .int (Int32.ofInt (v178)), .ref 26], M219) _
          refine w_call (cm := 106) (as := [(0, .ref 26), (1, .int (Int32.ofInt (v178))), (2, .int (Int32.ofInt (v221)))]) (rest := []) (o := some (8, 26)) rfl (w_fitR hR220a rfl) (c_chn (v178) (v221) hR220a (show 2 ≤ d by omega) ⟨by omega, by omega⟩ ⟨by omega, by omega⟩) (fun r247 M248 q249 => ?_)
          rcases q249 with ⟨A250, e251, hR249a, f252, f253⟩
          rw [e251]
          replace hR249a : w_Rep w_TC fr X u l I220a A250 B220a C220a M248 := hR249a
          replace f252 : c_fa c_pa A220a A250 := f252
          replace f253 : c_nxw A220a A250 v178 v221 := f253
          have g254 : c_agl A220a A250 (I 1670) := c_agl_nxw f253 (show (I 1670) ≤ v178 ∨ v178 < 0 by omega)
          have g255 : c_agl A A250 (I 1670) := c_agl_trans g246 g254 (show (I 1670) ≤ (I 1670) by omega)
          show w_W _ _ _ (137, [(3, .int (Int32.ofInt (v178))), (2, .int (Int32.ofInt ((I 2117)))), (1, .int (Int32.ofInt ((I 2438)))), (0, .ref 38)], [.int (Int32.ofInt (v221))], M248) _
          refine w_adv (n := 2) (F' := (139, [(3, .int (Int32.ofInt (v178))), (2, .int (Int32.ofInt ((I 2117)))), (1, .int (Int32.ofInt ((I 2438)))), (0, .ref 38)], [.ref 38], M248)) rfl ?_
          refine w_gf (v := .ref 26) hR249a rfl rfl rfl rfl ?_
          refine w_adv (n := 4) (F' := (147, [(3, .int (Int32.ofInt (v178))), (2, .int (Int32.ofInt ((I 2117)))), (1, .int (Int32.ofInt ((I 2438)))), (0, .ref 38)], [.int (Int32.ofInt (v178)), .int (Int32.ofInt (3)), .int (Int32.ofInt (2)), .int (Int32.ofInt (17)), .ref 26], M248)) rfl ?_
          refine w_call (cm := 94) (as := [(0, .ref 26), (1, .int (Int32.ofInt (17))), (2, .int (Int32.ofInt (2))), (3, .int (Int32.ofInt (3))), (4, .int (Int32.ofInt (v178)))]) (rest := []) (o := some (8, 26)) rfl (w_fitR hR249a rfl) (c_mkn (17) (2) (3) (v178) hR249a (show 2 ≤ d by omega) ⟨by omega, by omega⟩ ⟨by omega, by omega⟩ ⟨by omega, by omega⟩ ⟨by omega, by omega⟩ (show 0 ≤ (I220a 1670) ∧ (I220a 1670) < 3016 by first | assumption | omega)) (fun r256 M257 q258 => ?_)
          rcases q258 with ⟨A259, e260, hR258a, f261, f262⟩
          rw [e260]
          replace hR258a : w_Rep w_TC fr X u l (w_up I220a 1670 ((I220a 1670) + 1)) A259 B220a C220a M257 := hR258a
          replace f261 : c_fa c_pa A250 A259 := f261
          replace f262 : c_mk A250 A259 (I220a 1670) 17 2 3 v178 := f262
          have g263 : c_agl A A259 (I 1670) := c_agl_trans g255 f262.1 (show (I 1670) ≤ (I220a 1670) by omega)
          show w_W _ _ _ (150, [(3, .int (Int32.ofInt (v178))), (2, .int (Int32.ofInt ((I 2117)))), (1, .int (Int32.ofInt ((I 2438)))), (0, .ref 38)], [.int (Int32.ofInt ((I220a 1670)))], M257) _
          refine w_fin (r := .inl (some ((I220a 1670)))) (M' := M257) rfl ?_
          exact Or.inl ⟨(I220a 1670), (w_up I220a 1670 ((I220a 1670) + 1)), A259, B220a, C220a, rfl, ⟨by omega, by omega⟩, hR258a, (show c_fi c_ps I (w_up I220a 1670 ((I220a 1670) + 1)) by exact (c_fi_up (c_fi_trans (c_fi_up (c_fi_up (c_fi_up (c_fi_up f182 rfl) rfl) rfl) rfl) f225) rfl)), (show c_fa c_pa A A259 by exact (c_fa_trans (c_fa_trans (c_fa_trans f183 f226) f252) f261)), (show (0 ≤ (I220a 2436) ∧ (I220a 2436) ≤ (I220a 773) ∧ ((I220a 2437) = 0 ∨ (I220a 2436) < (I220a 773))) ∧ ((I220a 773) = (I 773) ∧ (I220a 2439) = (I 2439) ∧ 0 ≤ (I220a 2117)) ∧ (I 2436) + 1 ≤ (I220a 2436) ∧ ((I220a 1670) + 1) + 1 ≤ (I 1670) + 2 * ((I220a 2436) - (I 2436)) ∧ (I 1670) ≤ (I220a 1670) + 1 by (repeat' apply And.intro) <;> first | assumption | omega), (show c_agl A A259 (I 1670) by exact g263)⟩
        · rw [e231]
          replace hR220b : w_Rep w_TC fr X (u + 6) (l + 64) I220b A220b B220b C220b M219 := hR220b
          replace f232 : c_fi c_ps (w_up (w_up (w_up (w_up I177a 2436 ((I177a 2436) + 1)) 2441 (zt207)) 2437 (zk208)) 2438 (zv209)) I220b := f232
          replace f233 : c_fa c_pa A177a A220b := f233
          replace f234 : M219.1[t230]? = some (.inr (11, [])) := f234
          exact Or.inr (⟨t230, I220b, A220b, B220b, C220b, rfl, hR220b, (show c_fi c_ps I I220b by exact (c_fi_trans (c_fi_up (c_fi_up (c_fi_up (c_fi_up f182 rfl) rfl) rfl) rfl) f232)), (show c_fa c_pa A A220b by exact (c_fa_trans f183 f233)), (show M219.1[t230]? = some (.inr (11, [])) by exact f234)⟩)
      · rw [e214]
        replace hR206b : w_Rep w_TC fr X (u + 6) (l + 64) I206b A206b B206b C206b M205 := hR206b
        replace f215 : c_fi c_ps I177a I206b := f215
        replace f216 : c_fa c_pa A177a A206b := f216
        replace f217 : M205.1[t213]? = some (.inr (11, [])) := f217
        exact Or.inr (⟨t213, I206b, A206b, B206b, C206b, rfl, hR206b, (show c_fi c_ps I I206b by exact (c_fi_trans f182 f215)), (show c_fa c_pa A A206b by exact (c_fa_trans f183 f216)), (show M205.1[t213]? = some (.inr (11, [])) by exact f217)⟩)
    · rw [e188]
      replace hR177b : w_Rep w_TC fr X (u + 6) (l + 64) I177b A177b B177b C177b M176 := hR177b
      replace f189 : c_fi c_ps I I177b := f189
      replace f190 : c_fa c_pa A A177b := f190
      replace f191 : M176.1[t187]? = some (.inr (11, [])) := f191
      exact Or.inr (⟨t187, I177b, A177b, B177b, C177b, rfl, hR177b, (show c_fi c_ps I I177b by exact f189), (show c_fa c_pa A A177b by exact f190), (show M176.1[t187]? = some (.inr (11, [])) by exact f191)⟩)
  · refine w_sw (v := 4) (F' := (40, [(1, .int (Int32.ofInt ((I 2438)))), (0, .ref 38)], [], M)) h5 rfl rfl ?_
    refine w_adv (n := 1) (F' := (41, [(1, .int (Int32.ofInt ((I 2438)))), (0, .ref 38)], [.ref 38], M)) rfl ?_
    refine w_call (cm := 80) (as := [(0, .ref 38)]) (rest := []) (o := some (4, 38)) rfl (w_fitR hR rfl) (c_advance hR (show 3 ≤ d by omega) (show l ≤ 7000000 by first | assumption | omega) (show -1 ≤ (I 2436) ∧ (I 2436) < (I 773) ∧ (I 773) ≤ 1501 by first | assumption | omega)) (fun r264 M265 q266 => ?_)
    rcases q266 with ⟨zt267, zk268, zv269, e270, hR266a, f271⟩ | ⟨t272, I266b, A266b, B266b, C266b, e273, hR266b, f274, f275, f276⟩
    · rw [e270]
      replace hR266a : w_Rep w_TC fr X u l (w_up (w_up (w_up (w_up I 2436 ((I 2436) + 1)) 2441 (zt267)) 2437 (zk268)) 2438 (zv269)) A B C M265 := hR266a
      replace f271 : ((I 2436) + 1 < (I 773) ∨ zk268 = 0) := f271
      show w_W _ _ _ (44, [(1, .int (Int32.ofInt ((I 2438)))), (0, .ref 38)], [], M265) _
      refine w_adv (n := 1) (F' := (45, [(1, .int (Int32.ofInt ((I 2438)))), (0, .ref 38)], [.ref 38], M265)) rfl ?_
      refine w_gf (v := .ref 26) hR266a rfl rfl rfl rfl ?_
      refine w_adv (n := 4) (F' := (53, [(1, .int (Int32.ofInt ((I 2438)))), (0, .ref 38)], [.int (Int32.ofInt ((-1))), .int (Int32.ofInt ((I 2438))), .int (Int32.ofInt (0)), .int (Int32.ofInt (17)), .ref 26], M265)) rfl ?_
      refine w_call (cm := 94) (as := [(0, .ref 26), (1, .int (Int32.ofInt (17))), (2, .int (Int32.ofInt (0))), (3, .int (Int32.ofInt ((I 2438)))), (4, .int (Int32.ofInt ((-1))))]) (rest := []) (o := some (8, 26)) rfl (w_fitR hR266a rfl) (c_mkn (17) (0) ((I 2438)) ((-1)) hR266a (show 2 ≤ d by omega) ⟨by omega, by omega⟩ ⟨by omega, by omega⟩ ⟨by omega, by omega⟩ ⟨by omega, by omega⟩ (show 0 ≤ (I 1670) ∧ (I 1670) < 3016 by first | assumption | omega)) (fun r277 M278 q279 => ?_)
      rcases q279 with ⟨A280, e281, hR279a, f282, f283⟩
      rw [e281]
      replace hR279a : w_Rep w_TC fr X u l (w_up (w_up (w_up (w_up (w_up I 2436 ((I 2436) + 1)) 2441 (zt267)) 2437 (zk268)) 2438 (zv269)) 1670 ((I 1670) + 1)) A280 B C M278 := hR279a
      replace f282 : c_fa c_pa A A280 := f282
      replace f283 : c_mk A A280 (I 1670) 17 0 (I 2438) (-1) := f283
      have g284 : c_agl A A280 (I 1670) := c_agl_trans c_agl_refl f283.1 (show (I 1670) ≤ (I 1670) by omega)
      show w_W _ _ _ (56, [(1, .int (Int32.ofInt ((I 2438)))), (0, .ref 38)], [.int (Int32.ofInt ((I 1670)))], M278) _
      refine w_fin (r := .inl (some ((I 1670)))) (M' := M278) rfl ?_
      exact Or.inl ⟨(I 1670), (w_up (w_up (w_up (w_up (w_up I 2436 ((I 2436) + 1)) 2441 (zt267)) 2437 (zk268)) 2438 (zv269)) 1670 ((I 1670) + 1)), A280, B, C, rfl, ⟨by omega, by omega⟩, hR279a, (show c_fi c_ps I (w_up (w_up (w_up (w_up (w_up I 2436 ((I 2436) + 1)) 2441 (zt267)) 2437 (zk268)) 2438 (zv269)) 1670 ((I 1670) + 1)) by exact (c_fi_up (c_fi_up (c_fi_up (c_fi_up (c_fi_up c_fi_refl rfl) rfl) rfl) rfl) rfl)), (show c_fa c_pa A A280 by exact f282), (show (0 ≤ (I 2436) + 1 ∧ (I 2436) + 1 ≤ (I 773) ∧ (zk268 = 0 ∨ (I 2436) + 1 < (I 773))) ∧ ((I 773) = (I 773) ∧ (I 2439) = (I 2439) ∧ 0 ≤ (I 2117)) ∧ (I 2436) + 1 ≤ (I 2436) + 1 ∧ ((I 1670) + 1) + 1 ≤ (I 1670) + 2 * (((I 2436) + 1) - (I 2436)) ∧ (I 1670) ≤ (I 1670) + 1 by (repeat' apply And.intro) <;> first | assumption | omega), (show c_agl A A280 (I 1670) by exact g284)⟩
    · rw [e273]
      replace hR266b : w_Rep w_TC fr X (u + 6) (l + 64) I266b A266b B266b C266b M265 := hR266b
      replace f274 : c_fi c_ps I I266b := f274
      replace f275 : c_fa c_pa A A266b := f275
      replace f276 : M265.1[t272]? = some (.inr (11, [])) := f276
      exact Or.inr (⟨t272, I266b, A266b, B266b, C266b, rfl, hR266b, (show c_fi c_ps I I266b by exact f274), (show c_fa c_pa A A266b by exact f275), (show M265.1[t272]? = some (.inr (11, [])) by exact f276)⟩)
