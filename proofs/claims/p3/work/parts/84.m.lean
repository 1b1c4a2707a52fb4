/-! PARSER of the class: atomic. -/
def c_atomic_Q (fr : Nat → Bool) (X : Nat → Option (q_C (Nat → Int32))) (u l : Nat) (I : Nat → Int) (A : Nat → Int → Int) (B C : Nat → Nat) (M : w_M) : w_X → w_M → Prop := fun r M' => (∃ v : Int, ∃ (I' : Nat → Int) (A' : Nat → Int → Int) (B' C' : Nat → Nat), (r = .inl (some v)) ∧ (w_in v) ∧ (w_Rep w_TC fr X u l I' A' B' C' M') ∧ (c_fi c_ps I I') ∧ (c_fa c_pa A A') ∧ ((0 ≤ (I' 2436) ∧ (I' 2436) ≤ (I' 773) ∧ ((I' 2437) = 0 ∨ (I' 2436) < (I' 773))) ∧ ((I' 773) = (I 773) ∧ (I' 2439) = (I 2439) ∧ 0 ≤ (I' 2117)) ∧ (I 2436) + 1 ≤ (I' 2436) ∧ (I' 1670) + 1 ≤ (I 1670) + 2 * ((I' 2436) - (I 2436)) ∧ (I 1670) ≤ (I' 1670)) ∧ (c_agl A A' (I 1670)) ∧ (c_Wn A' (c_r (I 2439) 1) v (I 1670) (I' 1670))) ∨ (∃ t : Nat, ∃ (I' : Nat → Int) (A' : Nat → Int → Int) (B' C' : Nat → Nat), (r = .inr t) ∧ (w_Rep w_TC fr X (u + 6) (l + 64) I' A' B' C' M') ∧ (c_fi c_ps I I') ∧ (c_fa c_pa A A') ∧ (M'.1[t]? = some (.inr (11, []))))
set_option maxHeartbeats 100000000 in
set_option maxRecDepth 100000 in
theorem c_atomic {L : Nat} {xs : Nat → Int32} {d : Nat} {fr : Nat → Bool} {X : Nat → Option (q_C (Nat → Int32))} {u l : Nat} {I : Nat → Int} {A : Nat → Int → Int} {B C : Nat → Nat} {M : w_M} (hA : c_ALL L xs d) (hR : w_Rep w_TC fr X u l I A B C M) (hd : 10 * (24 - (I 2439)) + 10 ≤ (d : Int)) (hl : l ≤ 7000000) (hNU : (0 ≤ (I 2436) ∧ (I 2436) ≤ (I 773) ∧ (I 773) ≤ 1501 ∧ ((I 2437) = 0 ∨ (I 2436) < (I 773))) ∧ (0 ≤ (I 2439) ∧ (I 2439) ≤ 24 ∧ 0 ≤ (I 2117)) ∧ 0 ≤ (I 1670) ∧ (I 1670) ≤ 2 * (I 2436) + 1) : w_W (z_P L xs) d 92 (0, [(0, .ref 38)], [], M) (c_atomic_Q fr X u l I A B C M) := by
  obtain ⟨d, rfl⟩ : ∃ d0, d = d0 + 1 := ⟨d - 1, by omega⟩
  refine w_adv (n := 1) (F' := (1, [(0, .ref 38)], [.ref 38], M)) rfl ?_
  refine w_gf (v := .int (Int32.ofInt ((I 2437)))) hR rfl rfl rfl rfl ?_
  obtain ⟨r1, r2⟩ : -2147483648 ≤ (I 2437) ∧ (I 2437) ≤ 2147483647 := hR.ri 2437
  rcases (show ((I 2437) < 1 ∨ 33 < (I 2437)) ∨ (I 2437) = 1 ∨ (I 2437) = 2 ∨ (I 2437) = 3 ∨ (I 2437) = 4 ∨ (I 2437) = 5 ∨ (I 2437) = 6 ∨ (I 2437) = 7 ∨ (I 2437) = 8 ∨ (I 2437) = 9 ∨ (I 2437) = 10 ∨ (I 2437) = 11 ∨ (I 2437) = 12 ∨ (I 2437) = 13 ∨ (I 2437) = 14 ∨ (I 2437) = 15 ∨ (I 2437) = 16 ∨ (I 2437) = 17 ∨ (I 2437) = 18 ∨ (I 2437) = 19 ∨ (I 2437) = 20 ∨ (I 2437) = 21 ∨ (I 2437) = 22 ∨ (I 2437) = 23 ∨ (I 2437) = 24 ∨ (I 2437) = 25 ∨ (I 2437) = 26 ∨ (I 2437) = 27 ∨ (I 2437) = 28 ∨ (I 2437) = 29 ∨ (I 2437) = 30 ∨ (I 2437) = 31 ∨ (I 2437) = 32 ∨ (I 2437) = 33 by omega) with h3 | h3 | h3 | h3 | h3 | h3 | h3 | h3 | h3 | h3 | h3 | h3 | h3 | h3 | h3 | h3 | h3 | h3 | h3 | h3 | h3 | h3 | h3 | h3 | h3 | h3 | h3 | h3 | h3 | h3 | h3 | h3 | h3 | h3
  · refine w_swd rfl ⟨by omega, by omega⟩ h3 rfl ?_
    show w_W _ _ _ (273, [(0, .ref 38)], [], M) _
    refine w_adv (n := 2) (F' := (275, [(0, .ref 38)], [.int (Int32.ofInt (1)), .ref 38], M)) rfl ?_
    refine w_call (cm := 100) (as := [(0, .ref 38), (1, .int (Int32.ofInt (1)))]) (rest := []) (o := some (4, 38)) rfl (w_fitR hR rfl) (c_fail (1) hR ⟨by omega, by omega⟩ (show l ≤ 7000000 by first | assumption | omega) (show 1 ≤ 1 ∧ 1 ≤ 7 by first | assumption | omega)) (fun r4 M5 q6 => ?_)
    rcases q6 with ⟨t7, I6a, A6a, B6a, C6a, e8, hR6a, f9, f10, f11⟩
    rw [e8]
    replace hR6a : w_Rep w_TC fr X (u + 6) (l + 64) I6a A6a B6a C6a M5 := hR6a
    replace f9 : c_fi c_ps I I6a := f9
    replace f10 : c_fa c_pa A A6a := f10
    replace f11 : M5.1[t7]? = some (.inr (11, [])) := f11
    exact Or.inr (⟨t7, I6a, A6a, B6a, C6a, rfl, hR6a, (show c_fi c_ps I I6a by exact f9), (show c_fa c_pa A A6a by exact f10), (show M5.1[t7]? = some (.inr (11, [])) by exact f11)⟩)
  · refine w_sw (v := 1) (F' := (162, [(0, .ref 38)], [], M)) h3 rfl rfl ?_
    refine w_adv (n := 1) (F' := (163, [(0, .ref 38)], [.ref 38], M)) rfl ?_
    refine w_call (cm := 95) (as := [(0, .ref 38)]) (rest := []) (o := some (4, 38)) rfl (w_fitR hR rfl) (c_bracketIsNext hR (show 3 ≤ d by omega) (show 0 ≤ (I 2436) ∧ (I 2436) ≤ 1501 by first | assumption | omega)) (fun r12 M13 q14 => ?_)
    rcases q14 with ⟨e15, e16, f17⟩ | ⟨e18, e19⟩
    · rw [e15, e16]
      replace f17 : (I 2436) + 1 < (I 773) := f17
      show w_W _ _ _ (166, [(0, .ref 38)], [.int (Int32.ofInt (1))], M) _
      refine w_adv (n := 2) (F' := (170, [(0, .ref 38)], [.ref 38], M)) rfl ?_
      refine w_call (cm := 98) (as := [(0, .ref 38)]) (rest := []) (o := some (4, 38)) rfl (w_fitR hR rfl) (c_record (c_ALL_dn hA) hR (show 10 * (24 - (I 2439)) + 9 ≤ (d : Int) by omega) (show l ≤ 7000000 by first | assumption | omega) (show (0 ≤ (I 2436) ∧ (I 2436) ≤ (I 773) ∧ (I 773) ≤ 1501 ∧ ((I 2437) = 0 ∨ (I 2436) < (I 773))) ∧ (0 ≤ (I 2439) ∧ (I 2439) ≤ 24 ∧ 0 ≤ (I 2117)) ∧ 0 ≤ (I 1670) ∧ (I 1670) ≤ 2 * (I 2436) + 1 by (repeat' apply And.intro) <;> first | assumption | omega) (show ¬ (I 2437) = 0 by first | assumption | omega) (show (I 2436) + 1 < (I 773) by first | assumption | omega)) (fun r20 M21 q22 => ?_)
      rcases q22 with ⟨v23, I22a, A22a, B22a, C22a, e24, ⟨r25, r26⟩, hR22a, f27, f28, f29, f30, f31⟩ | ⟨t32, I22b, A22b, B22b, C22b, e33, hR22b, f34, f35, f36⟩
      · rw [e24]
        replace hR22a : w_Rep w_TC fr X u l I22a A22a B22a C22a M21 := hR22a
        replace f27 : c_fi c_ps I I22a := f27
        replace f28 : c_fa c_pa A A22a := f28
        replace f29 : (0 ≤ (I22a 2436) ∧ (I22a 2436) ≤ (I22a 773) ∧ ((I22a 2437) = 0 ∨ (I22a 2436) < (I22a 773))) ∧ ((I22a 773) = (I 773) ∧ (I22a 2439) = (I 2439) ∧ 0 ≤ (I22a 2117)) ∧ (I 2436) + 1 ≤ (I22a 2436) ∧ (I22a 1670) + 1 ≤ (I 1670) + 2 * ((I22a 2436) - (I 2436)) ∧ (I 1670) ≤ (I22a 1670) := f29
        obtain ⟨⟨n37, n38, n39⟩, ⟨n40, n41, n42⟩, n43, n44, n45⟩ := id f29
        clear f29
        replace f30 : c_agl A A22a (I 1670) := f30
        replace f31 : c_Wn A22a (c_r (I 2439) 1) v23 (I 1670) (I22a 1670) := f31
        have g46 : c_agl A A22a (I 1670) := c_agl_trans c_agl_refl f30 (show (I 1670) ≤ (I 1670) by omega)
        have k47 : c_Wn A22a (c_r (I 2439) 1) v23 (I 1670) (I22a 1670) := c_Wn_up f31 (show c_r (I 2439) 1 ≤ c_r (I 2439) 1 by unfold c_r; omega)
        obtain ⟨b48, b49⟩ := c_W_in k47.1
        show w_W _ _ _ (173, [(0, .ref 38)], [.int (Int32.ofInt (v23))], M21) _
        refine w_adv (n := 1) (F' := (185, [(0, .ref 38)], [.int (Int32.ofInt (v23))], M21)) rfl ?_
        refine w_fin (r := .inl (some (v23))) (M' := M21) rfl ?_
        exact Or.inl ⟨v23, I22a, A22a, B22a, C22a, rfl, ⟨by omega, by omega⟩, hR22a, (show c_fi c_ps I I22a by exact f27), (show c_fa c_pa A A22a by exact f28), (show (0 ≤ (I22a 2436) ∧ (I22a 2436) ≤ (I22a 773) ∧ ((I22a 2437) = 0 ∨ (I22a 2436) < (I22a 773))) ∧ ((I22a 773) = (I 773) ∧ (I22a 2439) = (I 2439) ∧ 0 ≤ (I22a 2117)) ∧ (I 2436) + 1 ≤ (I22a 2436) ∧ (I22a 1670) + 1 ≤ (I 1670) + 2 * ((I22a 2436) - (I 2436)) ∧ (I 1670) ≤ (I22a 1670) by (repeat' apply And.intro) <;> first | assumption | omega), (show c_agl A A22a (I 1670) by exact g46), (show c_Wn A22a (c_r (I 2439) 1) v23 (I 1670) (I22a 1670) by exact c_Wn_win (c_Wn_up k47 (show c_r (I 2439) 1 ≤ c_r (I 2439) 1 by unfold c_r; omega)) (show (I 1670) ≤ (I 1670) by omega) (show (I22a 1670) ≤ (I22a 1670) by omega))⟩
      · rw [e33]
        replace hR22b : w_Rep w_TC fr X (u + 6) (l + 64) I22b A22b B22b C22b M21 := hR22b
        replace f34 : c_fi c_ps I I22b := f34
        replace f35 : c_fa c_pa A A22b := f35
        replace f36 : M21.1[t32]? = some (.inr (11, [])) := f36
        exact Or.inr (⟨t32, I22b, A22b, B22b, C22b, rfl, hR22b, (show c_fi c_ps I I22b by exact f34), (show c_fa c_pa A A22b by exact f35), (show M21.1[t32]? = some (.inr (11, [])) by exact f36)⟩)
    · rw [e18, e19]
      show w_W _ _ _ (166, [(0, .ref 38)], [.int (Int32.ofInt (0))], M) _
      refine w_adv (n := 4) (F' := (179, [(0, .ref 38)], [.ref 38, .int (Int32.ofInt (4)), .ref 38], M)) rfl ?_
      refine w_gf (v := .int (Int32.ofInt ((I 2438)))) hR rfl rfl rfl rfl ?_
      obtain ⟨r50, r51⟩ : -2147483648 ≤ (I 2438) ∧ (I 2438) ≤ 2147483647 := hR.ri 2438
      refine w_call (cm := 93) (as := [(0, .ref 38), (1, .int (Int32.ofInt (4))), (2, .int (Int32.ofInt ((I 2438))))]) (rest := []) (o := some (4, 38)) rfl (w_fitR hR rfl) (c_leaf (4) ((I 2438)) hR (show 5 ≤ d by omega) ⟨by omega, by omega⟩ ⟨by omega, by omega⟩ (show l ≤ 7000000 by first | assumption | omega) (show (0 ≤ (I 2436) ∧ (I 2436) ≤ (I 773) ∧ (I 773) ≤ 1501 ∧ ((I 2437) = 0 ∨ (I 2436) < (I 773))) ∧ (0 ≤ (I 2439) ∧ (I 2439) ≤ 24 ∧ 0 ≤ (I 2117)) ∧ 0 ≤ (I 1670) ∧ (I 1670) ≤ 2 * (I 2436) + 1 by (repeat' apply And.intro) <;> first | assumption | omega) (show ¬ (I 2437) = 0 by first | assumption | omega) (show 4 = 1 ∨ 4 = 2 ∨ 4 = 3 ∨ 4 = 4 ∨ 4 = 24 by first | assumption | omega)) (fun r52 M53 q54 => ?_)
      rcases q54 with ⟨v55, I54a, A54a, B54a, C54a, e56, ⟨r57, r58⟩, hR54a, f59, f60, f61, f62, f63⟩ | ⟨t64, I54b, A54b, B54b, C54b, e65, hR54b, f66, f67, f68⟩
      · rw [e56]
        replace hR54a : w_Rep w_TC fr X u l I54a A54a B54a C54a M53 := hR54a
        replace f59 : c_fi c_ps I I54a := f59
        replace f60 : c_fa c_pa A A54a := f60
        replace f61 : (0 ≤ (I54a 2436) ∧ (I54a 2436) ≤ (I54a 773) ∧ ((I54a 2437) = 0 ∨ (I54a 2436) < (I54a 773))) ∧ ((I54a 773) = (I 773) ∧ (I54a 2439) = (I 2439) ∧ 0 ≤ (I54a 2117)) ∧ (I 2436) + 1 ≤ (I54a 2436) ∧ (I54a 1670) + 1 ≤ (I 1670) + 2 * ((I54a 2436) - (I 2436)) ∧ (I 1670) ≤ (I54a 1670) := f61
        obtain ⟨⟨n69, n70, n71⟩, ⟨n72, n73, n74⟩, n75, n76, n77⟩ := id f61
        clear f61
        replace f62 : c_agl A A54a (I 1670) := f62
        replace f63 : c_Wn A54a (c_r (I 2439) 1) v55 (I 1670) (I54a 1670) := f63
        have g78 : c_agl A A54a (I 1670) := c_agl_trans c_agl_refl f62 (show (I 1670) ≤ (I 1670) by omega)
        have k79 : c_Wn A54a (c_r (I 2439) 1) v55 (I 1670) (I54a 1670) := c_Wn_up f63 (show c_r (I 2439) 1 ≤ c_r (I 2439) 1 by unfold c_r; omega)
        obtain ⟨b80, b81⟩ := c_W_in k79.1
        show w_W _ _ _ (185, [(0, .ref 38)], [.int (Int32.ofInt (v55))], M53) _
        refine w_fin (r := .inl (some (v55))) (M' := M53) rfl ?_
        exact Or.inl ⟨v55, I54a, A54a, B54a, C54a, rfl, ⟨by omega, by omega⟩, hR54a, (show c_fi c_ps I I54a by exact f59), (show c_fa c_pa A A54a by exact f60), (show (0 ≤ (I54a 2436) ∧ (I54a 2436) ≤ (I54a 773) ∧ ((I54a 2437) = 0 ∨ (I54a 2436) < (I54a 773))) ∧ ((I54a 773) = (I 773) ∧ (I54a 2439) = (I 2439) ∧ 0 ≤ (I54a 2117)) ∧ (I 2436) + 1 ≤ (I54a 2436) ∧ (I54a 1670) + 1 ≤ (I 1670) + 2 * ((I54a 2436) - (I 2436)) ∧ (I 1670) ≤ (I54a 1670) by (repeat' apply And.intro) <;> first | assumption | omega), (show c_agl A A54a (I 1670) by exact g78), (show c_Wn A54a (c_r (I 2439) 1) v55 (I 1670) (I54a 1670) by exact c_Wn_win (c_Wn_up k79 (show c_r (I 2439) 1 ≤ c_r (I 2439) 1 by unfold c_r; omega)) (show (I 1670) ≤ (I 1670) by omega) (show (I54a 1670) ≤ (I54a 1670) by omega))⟩
      · rw [e65]
        replace hR54b : w_Rep w_TC fr X (u + 6) (l + 64) I54b A54b B54b C54b M53 := hR54b
        replace f66 : c_fi c_ps I I54b := f66
        replace f67 : c_fa c_pa A A54b := f67
        replace f68 : M53.1[t64]? = some (.inr (11, [])) := f68
        exact Or.inr (⟨t64, I54b, A54b, B54b, C54b, rfl, hR54b, (show c_fi c_ps I I54b by exact f66), (show c_fa c_pa A A54b by exact f67), (show M53.1[t64]? = some (.inr (11, [])) by exact f68)⟩)
  · refine w_sw (v := 2) (F' := (186, [(0, .ref 38)], [], M)) h3 rfl rfl ?_
    refine w_adv (n := 3) (F' := (189, [(0, .ref 38)], [.ref 38, .int (Int32.ofInt (1)), .ref 38], M)) rfl ?_
    refine w_call (cm := 111) (as := [(0, .ref 38)]) (rest := [.int (Int32.ofInt (1)), .ref 38]) (o := some (4, 38)) rfl (w_fitR hR rfl) (c_meaning hR (show 3 ≤ d by omega) (show l ≤ 7000000 by first | assumption | omega)) (fun r82 M83 q84 => ?_)
    rcases q84 with ⟨v85, zm86, e87, ⟨r88, r89⟩, hR84a⟩ | ⟨t90, I84b, A84b, B84b, C84b, e91, hR84b, f92, f93, f94⟩
    · rw [e87]
      replace hR84a : w_Rep w_TC fr X u l (w_up I 2440 (zm86)) A B C M83 := hR84a
      show w_W _ _ _ (192, [(0, .ref 38)], [.int (Int32.ofInt (v85)), .int (Int32.ofInt (1)), .ref 38], M83) _
      refine w_call (cm := 93) (as := [(0, .ref 38), (1, .int (Int32.ofInt (1))), (2, .int (Int32.ofInt (v85)))]) (rest := []) (o := some (4, 38)) rfl (w_fitR hR84a rfl) (c_leaf (1) (v85) hR84a (show 5 ≤ d by omega) ⟨by omega, by omega⟩ ⟨by omega, by omega⟩ (show l ≤ 7000000 by first | assumption | omega) (show (0 ≤ (I 2436) ∧ (I 2436) ≤ (I 773) ∧ (I 773) ≤ 1501 ∧ ((I 2437) = 0 ∨ (I 2436) < (I 773))) ∧ (0 ≤ (I 2439) ∧ (I 2439) ≤ 24 ∧ 0 ≤ (I 2117)) ∧ 0 ≤ (I 1670) ∧ (I 1670) ≤ 2 * (I 2436) + 1 by (repeat' apply And.intro) <;> first | assumption | omega) (show ¬ (I 2437) = 0 by first | assumption | omega) (show 1 = 1 ∨ 1 = 2 ∨ 1 = 3 ∨ 1 = 4 ∨ 1 = 24 by first | assumption | omega)) (fun r95 M96 q97 => ?_)
      rcases q97 with ⟨v98, I97a, A97a, B97a, C97a, e99, ⟨r100, r101⟩, hR97a, f102, f103, f104, f105, f106⟩ | ⟨t107, I97b, A97b, B97b, C97b, e108, hR97b, f109, f110, f111⟩
      · rw [e99]
        replace hR97a : w_Rep w_TC fr X u l I97a A97a B97a C97a M96 := hR97a
        replace f102 : c_fi c_ps (w_up I 2440 (zm86)) I97a := f102
        replace f103 : c_fa c_pa A A97a := f103
        replace f104 : (0 ≤ (I97a 2436) ∧ (I97a 2436) ≤ (I97a 773) ∧ ((I97a 2437) = 0 ∨ (I97a 2436) < (I97a 773))) ∧ ((I97a 773) = (I 773) ∧ (I97a 2439) = (I 2439) ∧ 0 ≤ (I97a 2117)) ∧ (I 2436) + 1 ≤ (I97a 2436) ∧ (I97a 1670) + 1 ≤ (I 1670) + 2 * ((I97a 2436) - (I 2436)) ∧ (I 1670) ≤ (I97a 1670) := f104
        obtain ⟨⟨n112, n113, n114⟩, ⟨n115, n116, n117⟩, n118, n119, n120⟩ := id f104
        clear f104
        replace f105 : c_agl A A97a (I 1670) := f105
        replace f106 : c_Wn A97a (c_r (I 2439) 1) v98 (I 1670) (I97a 1670) := f106
        have g121 : c_agl A A97a (I 1670) := c_agl_trans c_agl_refl f105 (show (I 1670) ≤ (I 1670) by omega)
        have k122 : c_Wn A97a (c_r (I 2439) 1) v98 (I 1670) (I97a 1670) := c_Wn_up f106 (show c_r (I 2439) 1 ≤ c_r (I 2439) 1 by unfold c_r; omega)
        obtain ⟨b123, b124⟩ := c_W_in k122.1
        show w_W _ _ _ (195, [(0, .ref 38)], [.int (Int32.ofInt (v98))], M96) _
        refine w_fin (r := .inl (some (v98))) (M' := M96) rfl ?_
        exact Or.inl ⟨v98, I97a, A97a, B97a, C97a, rfl, ⟨by omega, by omega⟩, hR97a, (show c_fi c_ps I I97a by exact (c_fi_trans (c_fi_up c_fi_refl rfl) f102)), (show c_fa c_pa A A97a by exact f103), (show (0 ≤ (I97a 2436) ∧ (I97a 2436) ≤ (I97a 773) ∧ ((I97a 2437) = 0 ∨ (I97a 2436) < (I97a 773))) ∧ ((I97a 773) = (I 773) ∧ (I97a 2439) = (I 2439) ∧ 0 ≤ (I97a 2117)) ∧ (I 2436) + 1 ≤ (I97a 2436) ∧ (I97a 1670) + 1 ≤ (I 1670) + 2 * ((I97a 2436) - (I 2436)) ∧ (I 1670) ≤ (I97a 1670) by (repeat' apply And.intro) <;> first | assumption | omega), (show c_agl A A97a (I 1670) by exact g121), (show c_Wn A97a (c_r (I 2439) 1) v98 (I 1670) (I97a 1670) by exact c_Wn_win (c_Wn_up k122 (show c_r (I 2439) 1 ≤ c_r (I 2439) 1 by unfold c_r; omega)) (show (I 1670) ≤ (I 1670) by omega) (show (I97a 1670) ≤ (I97a 1670) by omega))⟩
      · rw [e108]
        replace hR97b : w_Rep w_TC fr X (u + 6) (l + 64) I97b A97b B97b C97b M96 := hR97b
        replace f109 : c_fi c_ps (w_up I 2440 (zm86)) I97b := f109
        replace f110 : c_fa c_pa A A97b := f110
        replace f111 : M96.1[t107]? = some (.inr (11, [])) := f111
        exact Or.inr (⟨t107, I97b, A97b, B97b, C97b, rfl, hR97b, (show c_fi c_ps I I97b by exact (c_fi_trans (c_fi_up c_fi_refl rfl) f109)), (show c_fa c_pa A A97b by exact f110), (show M96.1[t107]? = some (.inr (11, [])) by exact f111)⟩)
    · rw [e91]
      replace hR84b : w_Rep w_TC fr X (u + 6) (l + 64) I84b A84b B84b C84b M83 := hR84b
      replace f92 : c_fi c_ps I I84b := f92
      replace f93 : c_fa c_pa A A84b := f93
      replace f94 : M83.1[t90]? = some (.inr (11, [])) := f94
      exact Or.inr (⟨t90, I84b, A84b, B84b, C84b, rfl, hR84b, (show c_fi c_ps I I84b by exact f92), (show c_fa c_pa A A84b by exact f93), (show M83.1[t90]? = some (.inr (11, [])) by exact f94)⟩)
  · refine w_sw (v := 3) (F' := (196, [(0, .ref 38)], [], M)) h3 rfl rfl ?_
    refine w_adv (n := 3) (F' := (199, [(0, .ref 38)], [.int (Int32.ofInt ((-1))), .int (Int32.ofInt (2)), .ref 38], M)) rfl ?_
    refine w_call (cm := 93) (as := [(0, .ref 38), (1, .int (Int32.ofInt (2))), (2, .int (Int32.ofInt ((-1))))]) (rest := []) (o := some (4, 38)) rfl (w_fitR hR rfl) (c_leaf (2) ((-1)) hR (show 5 ≤ d by omega) ⟨by omega, by omega⟩ ⟨by omega, by omega⟩ (show l ≤ 7000000 by first | assumption | omega) (show (0 ≤ (I 2436) ∧ (I 2436) ≤ (I 773) ∧ (I 773) ≤ 1501 ∧ ((I 2437) = 0 ∨ (I 2436) < (I 773))) ∧ (0 ≤ (I 2439) ∧ (I 2439) ≤ 24 ∧ 0 ≤ (I 2117)) ∧ 0 ≤ (I 1670) ∧ (I 1670) ≤ 2 * (I 2436) + 1 by (repeat' apply And.intro) <;> first | assumption | omega) (show ¬ (I 2437) = 0 by first | assumption | omega) (show 2 = 1 ∨ 2 = 2 ∨ 2 = 3 ∨ 2 = 4 ∨ 2 = 24 by first | assumption | omega)) (fun r125 M126 q127 => ?_)
    rcases q127 with ⟨v128, I127a, A127a, B127a, C127a, e129, ⟨r130, r131⟩, hR127a, f132, f133, f134, f135, f136⟩ | ⟨t137, I127b, A127b, B127b, C127b, e138, hR127b, f139, f140, f141⟩
    · rw [e129]
      replace hR127a : w_Rep w_TC fr X u l I127a A127a B127a C127a M126 := hR127a
      replace f132 : c_fi c_ps I I127a := f132
      replace f133 : c_fa c_pa A A127a := f133
      replace f134 : (0 ≤ (I127a 2436) ∧ (I127a 2436) ≤ (I127a 773) ∧ ((I127a 2437) = 0 ∨ (I127a 2436) < (I127a 773))) ∧ ((I127a 773) = (I 773) ∧ (I127a 2439) = (I 2439) ∧ 0 ≤ (I127a 2117)) ∧ (I 2436) + 1 ≤ (I127a 2436) ∧ (I127a 1670) + 1 ≤ (I 1670) + 2 * ((I127a 2436) - (I 2436)) ∧ (I 1670) ≤ (I127a 1670) := f134
      obtain ⟨⟨n142, n143, n144⟩, ⟨n145, n146, n147⟩, n148, n149, n150⟩ := id f134
      clear f134
      replace f135 : c_agl A A127a (I 1670) := f135
      replace f136 : c_Wn A127a (c_r (I 2439) 1) v128 (I 1670) (I127a 1670) := f136
      have g151 : c_agl A A127a (I 1670) := c_agl_trans c_agl_refl f135 (show (I 1670) ≤ (I 1670) by omega)
      have k152 : c_Wn A127a (c_r (I 2439) 1) v128 (I 1670) (I127a 1670) := c_Wn_up f136 (show c_r (I 2439) 1 ≤ c_r (I 2439) 1 by unfold c_r; omega)
      obtain ⟨b153, b154⟩ := c_W_in k152.1
      show w_W _ _ _ (202, [(0, .ref 38)], [.int (Int32.ofInt (v128))], M126) _
      refine w_fin (r := .inl (some (v128))) (M' := M126) rfl ?_
      exact Or.inl ⟨v128, I127a, A127a, B127a, C127a, rfl, ⟨by omega, by omega⟩, hR127a, (show c_fi c_ps I I127a by exact f132), (show c_fa c_pa A A127a by exact f133), (show (0 ≤ (I127a 2436) ∧ (I127a 2436) ≤ (I127a 773) ∧ ((I127a 2437) = 0 ∨ (I127a 2436) < (I127a 773))) ∧ ((I127a 773) = (I 773) ∧ (I127a 2439) = (I 2439) ∧ 0 ≤ (I127a 2117)) ∧ (I 2436) + 1 ≤ (I127a 2436) ∧ (I127a 1670) + 1 ≤ (I 1670) + 2 * ((I127a 2436) - (I 2436)) ∧ (I 1670) ≤ (I127a 1670) by (repeat' apply And.intro) <;> first | assumption | omega), (show c_agl A A127a (I 1670) by exact g151), (show c_Wn A127a (c_r (I 2439) 1) v128 (I 1670) (I127a 1670) by exact c_Wn_win (c_Wn_up k152 (show c_r (I 2439) 1 ≤ c_r (I 2439) 1 by unfold c_r; omega)) (show (I 1670) ≤ (I 1670) by omega) (show (I127a 1670) ≤ (I127a 1670) by omega))⟩
    · rw [e138]
      replace hR127b : w_Rep w_TC fr X (u + 6) (l + 64) I127b A127b B127b C127b M126 := hR127b
      replace f139 : c_fi c_ps I I127b := f139
      replace f140 : c_fa c_pa A A127b := f140
      replace f141 : M126.1[t137]? = some (.inr (11, [])) := f141
      exact Or.inr (⟨t137, I127b, A127b, B127b, C127b, rfl, hR127b, (show c_fi c_ps I I127b by exact f139), (show c_fa c_pa A A127b by exact f140), (show M126.1[t137]? = some (.inr (11, [])) by exact f141)⟩)
  · refine w_sw (v := 4) (F' := (152, [(0, .ref 38)], [], M)) h3 rfl rfl ?_
    refine w_adv (n := 3) (F' := (155, [(0, .ref 38)], [.ref 38, .int (Int32.ofInt (3)), .ref 38], M)) rfl ?_
    refine w_gf (v := .int (Int32.ofInt ((I 2438)))) hR rfl rfl rfl rfl ?_
    obtain ⟨r155, r156⟩ : -2147483648 ≤ (I 2438) ∧ (I 2438) ≤ 2147483647 := hR.ri 2438
    refine w_call (cm := 93) (as := [(0, .ref 38), (1, .int (Int32.ofInt (3))), (2, .int (Int32.ofInt ((I 2438))))]) (rest := []) (o := some (4, 38)) rfl (w_fitR hR rfl) (c_leaf (3) ((I 2438)) hR (show 5 ≤ d by omega) ⟨by omega, by omega⟩ ⟨by omega, by omega⟩ (show l ≤ 7000000 by first | assumption | omega) (show (0 ≤ (I 2436) ∧ (I 2436) ≤ (I 773) ∧ (I 773) ≤ 1501 ∧ ((I 2437) = 0 ∨ (I 2436) < (I 773))) ∧ (0 ≤ (I 2439) ∧ (I 2439) ≤ 24 ∧ 0 ≤ (I 2117)) ∧ 0 ≤ (I 1670) ∧ (I 1670) ≤ 2 * (I 2436) + 1 by (repeat' apply And.intro) <;> first | assumption | omega) (show ¬ (I 2437) = 0 by first | assumption | omega) (show 3 = 1 ∨ 3 = 2 ∨ 3 = 3 ∨ 3 = 4 ∨ 3 = 24 by first | assumption | omega)) (fun r157 M158 q159 => ?_)
    rcases q159 with ⟨v160, I159a, A159a, B159a, C159a, e161, ⟨r162, r163⟩, hR159a, f164, f165, f166, f167, f168⟩ | ⟨t169, I159b, A159b, B159b, C159b, e170, hR159b, f171, f172, f173⟩
    · rw [e161]
      replace hR159a : w_Rep w_TC fr X u l I159a A159a B159a C159a M158 := hR159a
      replace f164 : c_fi c_ps I I159a := f164
      replace f165 : c_fa c_pa A A159a := f165
      replace f166 : (0 ≤ (I159a 2436) ∧ (I159a 2436) ≤ (I159a 773) ∧ ((I159a 2437) = 0 ∨ (I159a 2436) < (I159a 773))) ∧ ((I159a 773) = (I 773) ∧ (I159a 2439) = (I 2439) ∧ 0 ≤ (I159a 2117)) ∧ (I 2436) + 1 ≤ (I159a 2436) ∧ (I159a 1670) + 1 ≤ (I 1670) + 2 * ((I159a 2436) - (I 2436)) ∧ (I 1670) ≤ (I159a 1670) := f166
      obtain ⟨⟨n174, n175, n176⟩, ⟨n177, n178, n179⟩, n180, n181, n182⟩ := id f166
      clear f166
      replace f167 : c_agl A A159a (I 1670) := f167
      replace f168 : c_Wn A159a (c_r (I 2439) 1) v160 (I 1670) (I159a 1670) := f168
      have g183 : c_agl A A159a (I 1670) := c_agl_trans c_agl_refl f167 (show (I 1670) ≤ (I 1670) by omega)
      have k184 : c_Wn A159a (c_r (I 2439) 1) v160 (I 1670) (I159a 1670) := c_Wn_up f168 (show c_r (I 2439) 1 ≤ c_r (I 2439) 1 by unfold c_r; omega)
      obtain ⟨b185, b186⟩ := c_W_in k184.1
      show w_W _ _ _ (161, [(0, .ref 38)], [.int (Int32.ofInt (v160))], M158) _
      refine w_fin (r := .inl (some (v160))) (M' := M158) rfl ?_
      exact Or.inl ⟨v160, I159a, A159a, B159a, C159a, rfl, ⟨by omega, by omega⟩, hR159a, (show c_fi c_ps I I159a by exact f164), (show c_fa c_pa A A159a by exact f165), (show (0 ≤ (I159a 2436) ∧ (I159a 2436) ≤ (I159a 773) ∧ ((I159a 2437) = 0 ∨ (I159a 2436) < (I159a 773))) ∧ ((I159a 773) = (I 773) ∧ (I159a 2439) = (I 2439) ∧ 0 ≤ (I159a 2117)) ∧ (I 2436) + 1 ≤ (I159a 2436) ∧ (I159a 1670) + 1 ≤ (I 1670) + 2 * ((I159a 2436) - (I 2436)) ∧ (I 1670) ≤ (I159a 1670) by (repeat' apply And.intro) <;> first | assumption | omega), (show c_agl A A159a (I 1670) by exact g183), (show c_Wn A159a (c_r (I 2439) 1) v160 (I 1670) (I159a 1670) by exact c_Wn_win (c_Wn_up k184 (show c_r (I 2439) 1 ≤ c_r (I 2439) 1 by unfold c_r; omega)) (show (I 1670) ≤ (I 1670) by omega) (show (I159a 1670) ≤ (I159a 1670) by omega))⟩
    · rw [e170]
      replace hR159b : w_Rep w_TC fr X (u + 6) (l + 64) I159b A159b B159b C159b M158 := hR159b
      replace f171 : c_fi c_ps I I159b := f171
      replace f172 : c_fa c_pa A A159b := f172
      replace f173 : M158.1[t169]? = some (.inr (11, [])) := f173
      exact Or.inr (⟨t169, I159b, A159b, B159b, C159b, rfl, hR159b, (show c_fi c_ps I I159b by exact f171), (show c_fa c_pa A A159b by exact f172), (show M158.1[t169]? = some (.inr (11, [])) by exact f173)⟩)
  · refine w_sw (v := 5) (F' := (203, [(0, .ref 38)], [], M)) h3 rfl rfl ?_
    refine w_adv (n := 1) (F' := (204, [(0, .ref 38)], [.ref 38], M)) rfl ?_
    refine w_call (cm := 99) (as := [(0, .ref 38)]) (rest := []) (o := some (4, 38)) rfl (w_fitR hR rfl) (c_open hR (show 4 ≤ d by omega) (show l ≤ 7000000 by first | assumption | omega) (show -1 ≤ (I 2436) ∧ (I 2436) < (I 773) ∧ (I 773) ≤ 1501 by first | assumption | omega) (show 0 ≤ (I 2439) ∧ (I 2439) ≤ 24 by first | assumption | omega)) (fun r187 M188 q189 => ?_)
    rcases q189 with ⟨zt190, zk191, zv192, e193, hR189a, f194, f195⟩ | ⟨t196, I189b, A189b, B189b, C189b, e197, hR189b, f198, f199, f200⟩
    · rw [e193]
      replace hR189a : w_Rep w_TC fr X u l (w_up (w_up (w_up (w_up (w_up I 2436 ((I 2436) + 1)) 2441 (zt190)) 2437 (zk191)) 2438 (zv192)) 2439 ((I 2439) + 1)) A B C M188 := hR189a
      replace f194 : ((I 2436) + 1 < (I 773) ∨ zk191 = 0) := f194
      replace f195 : (I 2439) < 24 := f195
      show w_W _ _ _ (207, [(0, .ref 38)], [], M188) _
      refine w_adv (n := 1) (F' := (208, [(0, .ref 38)], [.ref 38], M188)) rfl ?_
      refine w_call (cm := 89) (as := [(0, .ref 38)]) (rest := []) (o := some (4, 38)) rfl (w_fitR hR189a rfl) ((hA d (Nat.lt_succ_self d)).1 hR189a (show 10 * (24 - ((I 2439) + 1)) + 13 ≤ (d : Int) by omega) (show l ≤ 7000000 by first | assumption | omega) (show (0 ≤ (I 2436) + 1 ∧ (I 2436) + 1 ≤ (I 773) ∧ (I 773) ≤ 1501 ∧ (zk191 = 0 ∨ (I 2436) + 1 < (I 773))) ∧ (0 ≤ (I 2439) + 1 ∧ (I 2439) + 1 ≤ 24 ∧ 0 ≤ (I 2117)) ∧ 0 ≤ (I 1670) ∧ (I 1670) ≤ 2 * ((I 2436) + 1) + 1 by (repeat' apply And.intro) <;> first | assumption | omega)) (fun r201 M202 q203 => ?_)
      rcases q203 with ⟨v204, I203a, A203a, B203a, C203a, e205, ⟨r206, r207⟩, hR203a, f208, f209, f210, f211, f212⟩ | ⟨t213, I203b, A203b, B203b, C203b, e214, hR203b, f215, f216, f217⟩
      · rw [e205]
        replace hR203a : w_Rep w_TC fr X u l I203a A203a B203a C203a M202 := hR203a
        replace f208 : c_fi c_ps (w_up (w_up (w_up (w_up (w_up I 2436 ((I 2436) + 1)) 2441 (zt190)) 2437 (zk191)) 2438 (zv192)) 2439 ((I 2439) + 1)) I203a := f208
        replace f209 : c_fa c_pa A A203a := f209
        replace f210 : (0 ≤ (I203a 2436) ∧ (I203a 2436) ≤ (I203a 773) ∧ ((I203a 2437) = 0 ∨ (I203a 2436) < (I203a 773))) ∧ ((I203a 773) = (I 773) ∧ (I203a 2439) = (I 2439) + 1 ∧ 0 ≤ (I203a 2117)) ∧ ((I 2436) + 1) + 1 ≤ (I203a 2436) ∧ (I203a 1670) + 1 ≤ (I 1670) + 2 * ((I203a 2436) - ((I 2436) + 1)) ∧ (I 1670) ≤ (I203a 1670) := f210
        obtain ⟨⟨n218, n219, n220⟩, ⟨n221, n222, n223⟩, n224, n225, n226⟩ := id f210
        clear f210
        replace f211 : c_agl A A203a (I 1670) := f211
        replace f212 : c_Wn A203a (c_r ((I 2439) + 1) 3) v204 (I 1670) (I203a 1670) := f212
        have g227 : c_agl A A203a (I 1670) := c_agl_trans c_agl_refl f211 (show (I 1670) ≤ (I 1670) by omega)
        have k228 : c_Wn A203a (c_r (I 2439) 1) v204 (I 1670) (I203a 1670) := c_Wn_up f212 (show c_r ((I 2439) + 1) 3 ≤ c_r (I 2439) 1 by unfold c_r; omega)
        obtain ⟨b229, b230⟩ := c_W_in k228.1
        show w_W _ _ _ (211, [(0, .ref 38)], [.int (Int32.ofInt (v204))], M202) _
        refine w_adv (n := 3) (F' := (215, [(1, .int (Int32.ofInt (v204))), (0, .ref 38)], [.int (Int32.ofInt (6)), .ref 38], M202)) rfl ?_
        refine w_call (cm := 113) (as := [(0, .ref 38), (1, .int (Int32.ofInt (6)))]) (rest := []) (o := some (4, 38)) rfl (w_fitR hR203a rfl) (c_close (6) hR203a (show 4 ≤ d by omega) ⟨by omega, by omega⟩ (show l ≤ 7000000 by first | assumption | omega) (show -1 ≤ (I203a 2436) ∧ ((I203a 2437) = 0 ∨ (I203a 2436) < (I203a 773)) ∧ (I203a 773) ≤ 1501 ∧ 1 ≤ 6 by first | assumption | omega) (show 0 ≤ (I203a 2439) ∧ (I203a 2439) ≤ 24 by first | assumption | omega)) (fun r231 M232 q233 => ?_)
        rcases q233 with ⟨zt234, zk235, zv236, e237, hR233a, f238, f239⟩ | ⟨t240, I233b, A233b, B233b, C233b, e241, hR233b, f242, f243, f244⟩
        · rw [e237]
          replace hR233a : w_Rep w_TC fr X u l (w_up (w_up (w_up (w_up (w_up I203a 2436 ((I203a 2436) + 1)) 2441 (zt234)) 2437 (zk235)) 2438 (zv236)) 2439 ((I203a 2439) - 1)) A203a B203a C203a M232 := hR233a
          replace f238 : ((I203a 2436) + 1 < (I203a 773) ∨ zk235 = 0) := f238
          replace f239 : (I203a 2437) = 6 := f239
          show w_W _ _ _ (218, [(1, .int (Int32.ofInt (v204))), (0, .ref 38)], [], M232) _
          refine w_adv (n := 1) (F' := (219, [(1, .int (Int32.ofInt (v204))), (0, .ref 38)], [.int (Int32.ofInt (v204))], M232)) rfl ?_
          refine w_fin (r := .inl (some (v204))) (M' := M232) rfl ?_
          exact Or.inl ⟨v204, (w_up (w_up (w_up (w_up (w_up I203a 2436 ((I203a 2436) + 1)) 2441 (zt234)) 2437 (zk235)) 2438 (zv236)) 2439 ((I203a 2439) - 1)), A203a, B203a, C203a, rfl, ⟨by omega, by omega⟩, hR233a, (show c_fi c_ps I (w_up (w_up (w_up (w_up (w_up I203a 2436 ((I203a 2436) + 1)) 2441 (zt234)) 2437 (zk235)) 2438 (zv236)) 2439 ((I203a 2439) - 1)) by exact (c_fi_up (c_fi_up (c_fi_up (c_fi_up (c_fi_up (c_fi_trans (c_fi_up (c_fi_up (c_fi_up (c_fi_up (c_fi_up c_fi_refl rfl) rfl) rfl) rfl) rfl) f208) rfl) rfl) rfl) rfl) rfl)), (show c_fa c_pa A A203a by exact f209), (show (0 ≤ (I203a 2436) + 1 ∧ (I203a 2436) + 1 ≤ (I203a 773) ∧ (zk235 = 0 ∨ (I203a 2436) + 1 < (I203a 773))) ∧ ((I203a 773) = (I 773) ∧ (I203a 2439) - 1 = (I 2439) ∧ 0 ≤ (I203a 2117)) ∧ (I 2436) + 1 ≤ (I203a 2436) + 1 ∧ (I203a 1670) + 1 ≤ (I 1670) + 2 * (((I203a 2436) + 1) - (I 2436)) ∧ (I 1670) ≤ (I203a 1670) by (repeat' apply And.intro) <;> first | assumption | omega), (show c_agl A A203a (I 1670) by exact g227), (show c_Wn A203a (c_r (I 2439) 1) v204 (I 1670) (I203a 1670) by exact c_Wn_win (c_Wn_up k228 (show c_r (I 2439) 1 ≤ c_r (I 2439) 1 by unfold c_r; omega)) (show (I 1670) ≤ (I 1670) by omega) (show (I203a 1670) ≤ (I203a 1670) by omega))⟩
        · rw [e241]
          replace hR233b : w_Rep w_TC fr X (u + 6) (l + 64) I233b A233b B233b C233b M232 := hR233b
          replace f242 : c_fi c_ps I203a I233b := f242
          replace f243 : c_fa c_pa A203a A233b := f243
          replace f244 : M232.1[t240]? = some (.inr (11, [])) := f244
          exact Or.inr (⟨t240, I233b, A233b, B233b, C233b, rfl, hR233b, (show c_fi c_ps I I233b by exact (c_fi_trans (c_fi_trans (c_fi_up (c_fi_up (c_fi_up (c_fi_up (c_fi_up c_fi_refl rfl) rfl) rfl) rfl) rfl) f208) f242)), (show c_fa c_pa A A233b by exact (c_fa_trans f209 f243)), (show M232.1[t240]? = some (.inr (11, [])) by exact f244)⟩)
      · rw [e214]
        replace hR203b : w_Rep w_TC fr X (u + 6) (l + 64) I203b A203b B203b C203b M202 := hR203b
        replace f215 : c_fi c_ps (w_up (w_up (w_up (w_up (w_up I 2436 ((I 2436) + 1)) 2441 (zt190)) 2437 (zk191)) 2438 (zv192)) 2439 ((I 2439) + 1)) I203b := f215
        replace f216 : c_fa c_pa A A203b := f216
        replace f217 : M202.1[t213]? = some (.inr (11, [])) := f217
        exact Or.inr (⟨t213, I203b, A203b, B203b, C203b, rfl, hR203b, (show c_fi c_ps I I203b by exact (c_fi_trans (c_fi_up (c_fi_up (c_fi_up (c_fi_up (c_fi_up c_fi_refl rfl) rfl) rfl) rfl) rfl) f215)), (show c_fa c_pa A A203b by exact f216), (show M202.1[t213]? = some (.inr (11, [])) by exact f217)⟩)
    · rw [e197]
      replace hR189b : w_Rep w_TC fr X (u + 6) (l + 64) I189b A189b B189b C189b M188 := hR189b
      replace f198 : c_fi c_ps I I189b := f198
      replace f199 : c_fa c_pa A A189b := f199
      replace f200 : M188.1[t196]? = some (.inr (11, [])) := f200
      exact Or.inr (⟨t196, I189b, A189b, B189b, C189b, rfl, hR189b, (show c_fi c_ps I I189b by exact f198), (show c_fa c_pa A A189b by exact f199), (show M188.1[t196]? = some (.inr (11, [])) by exact f200)⟩)
  · refine w_sw (v := 6) (F' := (273, [(0, .ref 38)], [], M)) h3 rfl rfl ?_
    refine w_adv (n := 2) (F' := (275, [(0, .ref 38)], [.int (Int32.ofInt (1)), .ref 38], M)) rfl ?_
    refine w_call (cm := 100) (as := [(0, .ref 38), (1, .int (Int32.ofInt (1)))]) (rest := []) (o := some (4, 38)) rfl (w_fitR hR rfl) (c_fail (1) hR ⟨by omega, by omega⟩ (show l ≤ 7000000 by first | assumption | omega) (show 1 ≤ 1 ∧ 1 ≤ 7 by first | assumption | omega)) (fun r245 M246 q247 => ?_)
    rcases q247 with ⟨t248, I247a, A247a, B247a, C247a, e249, hR247a, f250, f251, f252⟩
    rw [e249]
    replace hR247a : w_Rep w_TC fr X (u + 6) (l + 64) I247a A247a B247a C247a M246 := hR247a
    replace f250 : c_fi c_ps I I247a := f250
    replace f251 : c_fa c_pa A A247a := f251
    replace f252 : M246.1[t248]? = some (.inr (11, [])) := f252
    exact Or.inr (⟨t248, I247a, A247a, B247a, C247a, rfl, hR247a, (show c_fi c_ps I I247a by exact f250), (show c_fa c_pa A A247a by exact f251), (show M246.1[t248]? = some (.inr (11, [])) by exact f252)⟩)
  · refine w_sw (v := 7) (F' := (225, [(0, .ref 38)], [], M)) h3 rfl rfl ?_
    refine w_adv (n := 1) (F' := (226, [(0, .ref 38)], [.ref 38], M)) rfl ?_
    refine w_call (cm := 116) (as := [(0, .ref 38)]) (rest := []) (o := some (4, 38)) rfl (w_fitR hR rfl) (c_apply (c_ALL_dn hA) hR (show 10 * (24 - (I 2439)) + 9 ≤ (d : Int) by omega) (show l ≤ 7000000 by first | assumption | omega) (show (0 ≤ (I 2436) ∧ (I 2436) ≤ (I 773) ∧ (I 773) ≤ 1501 ∧ ((I 2437) = 0 ∨ (I 2436) < (I 773))) ∧ (0 ≤ (I 2439) ∧ (I 2439) ≤ 24 ∧ 0 ≤ (I 2117)) ∧ 0 ≤ (I 1670) ∧ (I 1670) ≤ 2 * (I 2436) + 1 by (repeat' apply And.intro) <;> first | assumption | omega) (show ¬ (I 2437) = 0 by first | assumption | omega)) (fun r253 M254 q255 => ?_)
    rcases q255 with ⟨v256, I255a, A255a, B255a, C255a, e257, ⟨r258, r259⟩, hR255a, f260, f261, f262, f263, f264⟩ | ⟨t265, I255b, A255b, B255b, C255b, e266, hR255b, f267, f268, f269⟩
    · rw [e257]
      replace hR255a : w_Rep w_TC fr X u l I255a A255a B255a C255a M254 := hR255a
      replace f260 : c_fi c_ps I I255a := f260
      replace f261 : c_fa c_pa A A255a := f261
      replace f262 : (0 ≤ (I255a 2436) ∧ (I255a 2436) ≤ (I255a 773) ∧ ((I255a 2437) = 0 ∨ (I255a 2436) < (I255a 773))) ∧ ((I255a 773) = (I 773) ∧ (I255a 2439) = (I 2439) ∧ 0 ≤ (I255a 2117)) ∧ (I 2436) + 1 ≤ (I255a 2436) ∧ (I255a 1670) + 1 ≤ (I 1670) + 2 * ((I255a 2436) - (I 2436)) ∧ (I 1670) ≤ (I255a 1670) := f262
      obtain ⟨⟨n270, n271, n272⟩, ⟨n273, n274, n275⟩, n276, n277, n278⟩ := id f262
      clear f262
      replace f263 : c_agl A A255a (I 1670) := f263
      replace f264 : c_Wn A255a (c_r (I 2439) 1) v256 (I 1670) (I255a 1670) := f264
      have g279 : c_agl A A255a (I 1670) := c_agl_trans c_agl_refl f263 (show (I 1670) ≤ (I 1670) by omega)
      have k280 : c_Wn A255a (c_r (I 2439) 1) v256 (I 1670) (I255a 1670) := c_Wn_up f264 (show c_r (I 2439) 1 ≤ c_r (I 2439) 1 by unfold c_r; omega)
      obtain ⟨b281, b282⟩ := c_W_in k280.1
      show w_W _ _ _ (229, [(0, .ref 38)], [.int (Int32.ofInt (v256))], M254) _
      refine w_fin (r := .inl (some (v256))) (M' := M254) rfl ?_
      exact Or.inl ⟨v256, I255a, A255a, B255a, C255a, rfl, ⟨by omega, by omega⟩, hR255a, (show c_fi c_ps I I255a by exact f260), (show c_fa c_pa A A255a by exact f261), (show (0 ≤ (I255a 2436) ∧ (I255a 2436) ≤ (I255a 773) ∧ ((I255a 2437) = 0 ∨ (I255a 2436) < (I255a 773))) ∧ ((I255a 773) = (I 773) ∧ (I255a 2439) = (I 2439) ∧ 0 ≤ (I255a 2117)) ∧ (I 2436) + 1 ≤ (I255a 2436) ∧ (I255a 1670) + 1 ≤ (I 1670) + 2 * ((I255a 2436) - (I 2436)) ∧ (I 1670) ≤ (I255a 1670) by (repeat' apply And.intro) <;> first | assumption | omega), (show c_agl A A255a (I 1670) by exact g279), (show c_Wn A255a (c_r (I 2439) 1) v256 (I 1670) (I255a 1670) by exact c_Wn_win (c_Wn_up k280 (show c_r (I 2439) 1 ≤ c_r (I 2439) 1 by unfold c_r; omega)) (show (I 1670) ≤ (I 1670) by omega) (show (I255a 1670) ≤ (I255a 1670) by omega))⟩
    · rw [e266]
      replace hR255b : w_Rep w_TC fr X (u + 6) (l + 64) I255b A255b B255b C255b M254 := hR255b
      replace f267 : c_fi c_ps I I255b := f267
      replace f268 : c_fa c_pa A A255b := f268
      replace f269 : M254.1[t265]? = some (.inr (11, [])) := f269
      exact Or.inr (⟨t265, I255b, A255b, B255b, C255b, rfl, hR255b, (show c_fi c_ps I I255b by exact f267), (show c_fa c_pa A A255b by exact f268), (show M254.1[t265]? = some (.inr (11, [])) by exact f269)⟩)
  · refine w_sw (v := 8) (F' := (273, [(0, .ref 38)], [], M)) h3 rfl rfl ?_
    refine w_adv (n := 2) (F' := (275, [(0, .ref 38)], [.int (Int32.ofInt (1)), .ref 38], M)) rfl ?_
    refine w_call (cm := 100) (as := [(0, .ref 38), (1, .int (Int32.ofInt (1)))]) (rest := []) (o := some (4, 38)) rfl (w_fitR hR rfl) (c_fail (1) hR ⟨by omega, by omega⟩ (show l ≤ 7000000 by first | assumption | omega) (show 1 ≤ 1 ∧ 1 ≤ 7 by first | assumption | omega)) (fun r283 M284 q285 => ?_)
    rcases q285 with ⟨t286, I285a, A285a, B285a, C285a, e287, hR285a, f288, f289, f290⟩
    rw [e287]
    replace hR285a : w_Rep w_TC fr X (u + 6) (l + 64) I285a A285a B285a C285a M284 := hR285a
    replace f288 : c_fi c_ps I I285a := f288
    replace f289 : c_fa c_pa A A285a := f289
    replace f290 : M284.1[t286]? = some (.inr (11, [])) := f290
    exact Or.inr (⟨t286, I285a, A285a, B285a, C285a, rfl, hR285a, (show c_fi c_ps I I285a by exact f288), (show c_fa c_pa A A285a by exact f289), (show M284.1[t286]? = some (.inr (11, [])) by exact f290)⟩)
  · refine w_sw (v := 9) (F' := (220, [(0, .ref 38)], [], M)) h3 rfl rfl ?_
    refine w_adv (n := 1) (F' := (221, [(0, .ref 38)], [.ref 38], M)) rfl ?_
    refine w_call (cm := 114) (as := [(0, .ref 38)]) (rest := []) (o := some (4, 38)) rfl (w_fitR hR rfl) (c_list (c_ALL_dn hA) hR (show 10 * (24 - (I 2439)) + 9 ≤ (d : Int) by omega) (show l ≤ 7000000 by first | assumption | omega) (show (0 ≤ (I 2436) ∧ (I 2436) ≤ (I 773) ∧ (I 773) ≤ 1501 ∧ ((I 2437) = 0 ∨ (I 2436) < (I 773))) ∧ (0 ≤ (I 2439) ∧ (I 2439) ≤ 24 ∧ 0 ≤ (I 2117)) ∧ 0 ≤ (I 1670) ∧ (I 1670) ≤ 2 * (I 2436) + 1 by (repeat' apply And.intro) <;> first | assumption | omega) (show ¬ (I 2437) = 0 by first | assumption | omega)) (fun r291 M292 q293 => ?_)
    rcases q293 with ⟨v294, I293a, A293a, B293a, C293a, e295, ⟨r296, r297⟩, hR293a, f298, f299, f300, f301, f302⟩ | ⟨t303, I293b, A293b, B293b, C293b, e304, hR293b, f305, f306, f307⟩
    · rw [e295]
      replace hR293a : w_Rep w_TC fr X u l I293a A293a B293a C293a M292 := hR293a
      replace f298 : c_fi c_ps I I293a := f298
      replace f299 : c_fa c_pa A A293a := f299
      replace f300 : (0 ≤ (I293a 2436) ∧ (I293a 2436) ≤ (I293a 773) ∧ ((I293a 2437) = 0 ∨ (I293a 2436) < (I293a 773))) ∧ ((I293a 773) = (I 773) ∧ (I293a 2439) = (I 2439) ∧ 0 ≤ (I293a 2117)) ∧ (I 2436) + 1 ≤ (I293a 2436) ∧ (I293a 1670) + 1 ≤ (I 1670) + 2 * ((I293a 2436) - (I 2436)) ∧ (I 1670) ≤ (I293a 1670) := f300
      obtain ⟨⟨n308, n309, n310⟩, ⟨n311, n312, n313⟩, n314, n315, n316⟩ := id f300
      clear f300
      replace f301 : c_agl A A293a (I 1670) := f301
      replace f302 : c_Wn A293a (c_r (I 2439) 1) v294 (I 1670) (I293a 1670) := f302
      have g317 : c_agl A A293a (I 1670) := c_agl_trans c_agl_refl f301 (show (I 1670) ≤ (I 1670) by omega)
      have k318 : c_Wn A293a (c_r (I 2439) 1) v294 (I 1670) (I293a 1670) := c_Wn_up f302 (show c_r (I 2439) 1 ≤ c_r (I 2439) 1 by unfold c_r; omega)
      obtain ⟨b319, b320⟩ := c_W_in k318.1
      show w_W _ _ _ (224, [(0, .ref 38)], [.int (Int32.ofInt (v294))], M292) _
      refine w_fin (r := .inl (some (v294))) (M' := M292) rfl ?_
      exact Or.inl ⟨v294, I293a, A293a, B293a, C293a, rfl, ⟨by omega, by omega⟩, hR293a, (show c_fi c_ps I I293a by exact f298), (show c_fa c_pa A A293a by exact f299), (show (0 ≤ (I293a 2436) ∧ (I293a 2436) ≤ (I293a 773) ∧ ((I293a 2437) = 0 ∨ (I293a 2436) < (I293a 773))) ∧ ((I293a 773) = (I 773) ∧ (I293a 2439) = (I 2439) ∧ 0 ≤ (I293a 2117)) ∧ (I 2436) + 1 ≤ (I293a 2436) ∧ (I293a 1670) + 1 ≤ (I 1670) + 2 * ((I293a 2436) - (I 2436)) ∧ (I 1670) ≤ (I293a 1670) by (repeat' apply And.intro) <;> first | assumption | omega), (show c_agl A A293a (I 1670) by exact g317), (show c_Wn A293a (c_r (I 2439) 1) v294 (I 1670) (I293a 1670) by exact c_Wn_win (c_Wn_up k318 (show c_r (I 2439) 1 ≤ c_r (I 2439) 1 by unfold c_r; omega)) (show (I 1670) ≤ (I 1670) by omega) (show (I293a 1670) ≤ (I293a 1670) by omega))⟩
    · rw [e304]
      replace hR293b : w_Rep w_TC fr X (u + 6) (l + 64) I293b A293b B293b C293b M292 := hR293b
      replace f305 : c_fi c_ps I I293b := f305
      replace f306 : c_fa c_pa A A293b := f306
      replace f307 : M292.1[t303]? = some (.inr (11, [])) := f307
      exact Or.inr (⟨t303, I293b, A293b, B293b, C293b, rfl, hR293b, (show c_fi c_ps I I293b by exact f305), (show c_fa c_pa A A293b by exact f306), (show M292.1[t303]? = some (.inr (11, [])) by exact f307)⟩)
  · refine w_sw (v := 10) (F' := (273, [(0, .ref 38)], [], M)) h3 rfl rfl ?_
    refine w_adv (n := 2) (F' := (275, [(0, .ref 38)], [.int (Int32.ofInt (1)), .ref 38], M)) rfl ?_
    refine w_call (cm := 100) (as := [(0, .ref 38), (1, .int (Int32.ofInt (1)))]) (rest := []) (o := some (4, 38)) rfl (w_fitR hR rfl) (c_fail (1) hR ⟨by omega, by omega⟩ (show l ≤ 7000000 by first | assumption | omega) (show 1 ≤ 1 ∧ 1 ≤ 7 by first | assumption | omega)) (fun r321 M322 q323 => ?_)
    rcases q323 with ⟨t324, I323a, A323a, B323a, C323a, e325, hR323a, f326, f327, f328⟩
    rw [e325]
    replace hR323a : w_Rep w_TC fr X (u + 6) (l + 64) I323a A323a B323a C323a M322 := hR323a
    replace f326 : c_fi c_ps I I323a := f326
    replace f327 : c_fa c_pa A A323a := f327
    replace f328 : M322.1[t324]? = some (.inr (11, [])) := f328
    exact Or.inr (⟨t324, I323a, A323a, B323a, C323a, rfl, hR323a, (show c_fi c_ps I I323a by exact f326), (show c_fa c_pa A A323a by exact f327), (show M322.1[t324]? = some (.inr (11, [])) by exact f328)⟩)
  · refine w_sw (v := 11) (F' := (273, [(0, .ref 38)], [], M)) h3 rfl rfl ?_
    refine w_adv (n := 2) (F' := (275, [(0, .ref 38)], [.int (Int32.ofInt (1)), .ref 38], M)) rfl ?_
    refine w_call (cm := 100) (as := [(0, .ref 38), (1, .int (Int32.ofInt (1)))]) (rest := []) (o := some (4, 38)) rfl (w_fitR hR rfl) (c_fail (1) hR ⟨by omega, by omega⟩ (show l ≤ 7000000 by first | assumption | omega) (show 1 ≤ 1 ∧ 1 ≤ 7 by first | assumption | omega)) (fun r329 M330 q331 => ?_)
    rcases q331 with ⟨t332, I331a, A331a, B331a, C331a, e333, hR331a, f334, f335, f336⟩
    rw [e333]
    replace hR331a : w_Rep w_TC fr X (u + 6) (l + 64) I331a A331a B331a C331a M330 := hR331a
    replace f334 : c_fi c_ps I I331a := f334
    replace f335 : c_fa c_pa A A331a := f335
    replace f336 : M330.1[t332]? = some (.inr (11, [])) := f336
    exact Or.inr (⟨t332, I331a, A331a, B331a, C331a, rfl, hR331a, (show c_fi c_ps I I331a by exact f334), (show c_fa c_pa A A331a by exact f335), (show M330.1[t332]? = some (.inr (11, [])) by exact f336)⟩)
  · refine w_sw (v := 12) (F' := (273, [(0, .ref 38)], [], M)) h3 rfl rfl ?_
    refine w_adv (n := 2) (F' := (275, [(0, .ref 38)], [.int (Int32.ofInt (1)), .ref 38], M)) rfl ?_
    refine w_call (cm := 100) (as := [(0, .ref 38), (1, .int (Int32.ofInt (1)))]) (rest := []) (o := some (4, 38)) rfl (w_fitR hR rfl) (c_fail (1) hR ⟨by omega, by omega⟩ (show l ≤ 7000000 by first | assumption | omega) (show 1 ≤ 1 ∧ 1 ≤ 7 by first | assumption | omega)) (fun r337 M338 q339 => ?_)
    rcases q339 with ⟨t340, I339a, A339a, B339a, C339a, e341, hR339a, f342, f343, f344⟩
    rw [e341]
    replace hR339a : w_Rep w_TC fr X (u + 6) (l + 64) I339a A339a B339a C339a M338 := hR339a
    replace f342 : c_fi c_ps I I339a := f342
    replace f343 : c_fa c_pa A A339a := f343
    replace f344 : M338.1[t340]? = some (.inr (11, [])) := f344
    exact Or.inr (⟨t340, I339a, A339a, B339a, C339a, rfl, hR339a, (show c_fi c_ps I I339a by exact f342), (show c_fa c_pa A A339a by exact f343), (show M338.1[t340]? = some (.inr (11, [])) by exact f344)⟩)
  · refine w_sw (v := 13) (F' := (273, [(0, .ref 38)], [], M)) h3 rfl rfl ?_
    refine w_adv (n := 2) (F' := (275, [(0, .ref 38)], [.int (Int32.ofInt (1)), .ref 38], M)) rfl ?_
    refine w_call (cm := 100) (as := [(0, .ref 38), (1, .int (Int32.ofInt (1)))]) (rest := []) (o := some (4, 38)) rfl (w_fitR hR rfl) (c_fail (1) hR ⟨by omega, by omega⟩ (show l ≤ 7000000 by first | assumption | omega) (show 1 ≤ 1 ∧ 1 ≤ 7 by first | assumption | omega)) (fun r345 M346 q347 => ?_)
    rcases q347 with ⟨t348, I347a, A347a, B347a, C347a, e349, hR347a, f350, f351, f352⟩
    rw [e349]
    replace hR347a : w_Rep w_TC fr X (u + 6) (l + 64) I347a A347a B347a C347a M346 := hR347a
    replace f350 : c_fi c_ps I I347a := f350
    replace f351 : c_fa c_pa A A347a := f351
    replace f352 : M346.1[t348]? = some (.inr (11, [])) := f352
    exact Or.inr (⟨t348, I347a, A347a, B347a, C347a, rfl, hR347a, (show c_fi c_ps I I347a by exact f350), (show c_fa c_pa A A347a by exact f351), (show M346.1[t348]? = some (.inr (11, [])) by exact f352)⟩)
  · refine w_sw (v := 14) (F' := (273, [(0, .ref 38)], [], M)) h3 rfl rfl ?_
    refine w_adv (n := 2) (F' := (275, [(0, .ref 38)], [.int (Int32.ofInt (1)), .ref 38], M)) rfl ?_
    refine w_call (cm := 100) (as := [(0, .ref 38), (1, .int (Int32.ofInt (1)))]) (rest := []) (o := some (4, 38)) rfl (w_fitR hR rfl) (c_fail (1) hR ⟨by omega, by omega⟩ (show l ≤ 7000000 by first | assumption | omega) (show 1 ≤ 1 ∧ 1 ≤ 7 by first | assumption | omega)) (fun r353 M354 q355 => ?_)
    rcases q355 with ⟨t356, I355a, A355a, B355a, C355a, e357, hR355a, f358, f359, f360⟩
    rw [e357]
    replace hR355a : w_Rep w_TC fr X (u + 6) (l + 64) I355a A355a B355a C355a M354 := hR355a
    replace f358 : c_fi c_ps I I355a := f358
    replace f359 : c_fa c_pa A A355a := f359
    replace f360 : M354.1[t356]? = some (.inr (11, [])) := f360
    exact Or.inr (⟨t356, I355a, A355a, B355a, C355a, rfl, hR355a, (show c_fi c_ps I I355a by exact f358), (show c_fa c_pa A A355a by exact f359), (show M354.1[t356]? = some (.inr (11, [])) by exact f360)⟩)
  · refine w_sw (v := 15) (F' := (273, [(0, .ref 38)], [], M)) h3 rfl rfl ?_
    refine w_adv (n := 2) (F' := (275, [(0, .ref 38)], [.int (Int32.ofInt (1)), .ref 38], M)) rfl ?_
    refine w_call (cm := 100) (as := [(0, .ref 38), (1, .int (Int32.ofInt (1)))]) (rest := []) (o := some (4, 38)) rfl (w_fitR hR rfl) (c_fail (1) hR ⟨by omega, by omega⟩ (show l ≤ 7000000 by first | assumption | omega) (show 1 ≤ 1 ∧ 1 ≤ 7 by first | assumption | omega)) (fun r361 M362 q363 => ?_)
    rcases q363 with ⟨t364, I363a, A363a, B363a, C363a, e365, hR363a, f366, f367, f368⟩
    rw [e365]
    replace hR363a : w_Rep w_TC fr X (u + 6) (l + 64) I363a A363a B363a C363a M362 := hR363a
    replace f366 : c_fi c_ps I I363a := f366
    replace f367 : c_fa c_pa A A363a := f367
    replace f368 : M362.1[t364]? = some (.inr (11, [])) := f368
    exact Or.inr (⟨t364, I363a, A363a, B363a, C363a, rfl, hR363a, (show c_fi c_ps I I363a by exact f366), (show c_fa c_pa A A363a by exact f367), (show M362.1[t364]? = some (.inr (11, [])) by exact f368)⟩)
  · refine w_sw (v := 16) (F' := (273, [(0, .ref 38)], [], M)) h3 rfl rfl ?_
    refine w_adv (n := 2) (F' := (275, [(0, .ref 38)], [.int (Int32.ofInt (1)), .ref 38], M)) rfl ?_
    refine w_call (cm := 100) (as := [(0, .ref 38), (1, .int (Int32.ofInt (1)))]) (rest := []) (o := some (4, 38)) rfl (w_fitR hR rfl) (c_fail (1) hR ⟨by omega, by omega⟩ (show l ≤ 7000000 by first | assumption | omega) (show 1 ≤ 1 ∧ 1 ≤ 7 by first | assumption | omega)) (fun r369 M370 q371 => ?_)
    rcases q371 with ⟨t372, I371a, A371a, B371a, C371a, e373, hR371a, f374, f375, f376⟩
    rw [e373]
    replace hR371a : w_Rep w_TC fr X (u + 6) (l + 64) I371a A371a B371a C371a M370 := hR371a
    replace f374 : c_fi c_ps I I371a := f374
    replace f375 : c_fa c_pa A A371a := f375
    replace f376 : M370.1[t372]? = some (.inr (11, [])) := f376
    exact Or.inr (⟨t372, I371a, A371a, B371a, C371a, rfl, hR371a, (show c_fi c_ps I I371a by exact f374), (show c_fa c_pa A A371a by exact f375), (show M370.1[t372]? = some (.inr (11, [])) by exact f376)⟩)
  · refine w_sw (v := 17) (F' := (273, [(0, .ref 38)], [], M)) h3 rfl rfl ?_
    refine w_adv (n := 2) (F' := (275, [(0, .ref 38)], [.int (Int32.ofInt (1)), .ref 38], M)) rfl ?_
    refine w_call (cm := 100) (as := [(0, .ref 38), (1, .int (Int32.ofInt (1)))]) (rest := []) (o := some (4, 38)) rfl (w_fitR hR rfl) (c_fail (1) hR ⟨by omega, by omega⟩ (show l ≤ 7000000 by first | assumption | omega) (show 1 ≤ 1 ∧ 1 ≤ 7 by first | assumption | omega)) (fun r377 M378 q379 => ?_)
    rcases q379 with ⟨t380, I379a, A379a, B379a, C379a, e381, hR379a, f382, f383, f384⟩
    rw [e381]
    replace hR379a : w_Rep w_TC fr X (u + 6) (l + 64) I379a A379a B379a C379a M378 := hR379a
    replace f382 : c_fi c_ps I I379a := f382
    replace f383 : c_fa c_pa A A379a := f383
    replace f384 : M378.1[t380]? = some (.inr (11, [])) := f384
    exact Or.inr (⟨t380, I379a, A379a, B379a, C379a, rfl, hR379a, (show c_fi c_ps I I379a by exact f382), (show c_fa c_pa A A379a by exact f383), (show M378.1[t380]? = some (.inr (11, [])) by exact f384)⟩)
  · refine w_sw (v := 18) (F' := (273, [(0, .ref 38)], [], M)) h3 rfl rfl ?_
    refine w_adv (n := 2) (F' := (275, [(0, .ref 38)], [.int (Int32.ofInt (1)), .ref 38], M)) rfl ?_
    refine w_call (cm := 100) (as := [(0, .ref 38), (1, .int (Int32.ofInt (1)))]) (rest := []) (o := some (4, 38)) rfl (w_fitR hR rfl) (c_fail (1) hR ⟨by omega, by omega⟩ (show l ≤ 7000000 by first | assumption | omega) (show 1 ≤ 1 ∧ 1 ≤ 7 by first | assumption | omega)) (fun r385 M386 q387 => ?_)
    rcases q387 with ⟨t388, I387a, A387a, B387a, C387a, e389, hR387a, f390, f391, f392⟩
    rw [e389]
    replace hR387a : w_Rep w_TC fr X (u + 6) (l + 64) I387a A387a B387a C387a M386 := hR387a
    replace f390 : c_fi c_ps I I387a := f390
    replace f391 : c_fa c_pa A A387a := f391
    replace f392 : M386.1[t388]? = some (.inr (11, [])) := f392
    exact Or.inr (⟨t388, I387a, A387a, B387a, C387a, rfl, hR387a, (show c_fi c_ps I I387a by exact f390), (show c_fa c_pa A A387a by exact f391), (show M386.1[t388]? = some (.inr (11, [])) by exact f392)⟩)
  · refine w_sw (v := 19) (F' := (273, [(0, .ref 38)], [], M)) h3 rfl rfl ?_
    refine w_adv (n := 2) (F' := (275, [(0, .ref 38)], [.int (Int32.ofInt (1)), .ref 38], M)) rfl ?_
    refine w_call (cm := 100) (as := [(0, .ref 38), (1, .int (Int32.ofInt (1)))]) (rest := []) (o := some (4, 38)) rfl (w_fitR hR rfl) (c_fail (1) hR ⟨by omega, by omega⟩ (show l ≤ 7000000 by first | assumption | omega) (show 1 ≤ 1 ∧ 1 ≤ 7 by first | assumption | omega)) (fun r393 M394 q395 => ?_)
    rcases q395 with ⟨t396, I395a, A395a, B395a, C395a, e397, hR395a, f398, f399, f400⟩
    rw [e397]
    replace hR395a : w_Rep w_TC fr X (u + 6) (l + 64) I395a A395a B395a C395a M394 := hR395a
    replace f398 : c_fi c_ps I I395a := f398
    replace f399 : c_fa c_pa A A395a := f399
    replace f400 : M394.1[t396]? = some (.inr (11, [])) := f400
    exact Or.inr (⟨t396, I395a, A395a, B395a, C395a, rfl, hR395a, (show c_fi c_ps I I395a by exact f398), (show c_fa c_pa A A395a by exact f399), (show M394.1[t396]? = some (.inr (11, [])) by exact f400)⟩)
  · refine w_sw (v := 20) (F' := (273, [(0, .ref 38)], [], M)) h3 rfl rfl ?_
    refine w_adv (n := 2) (F' := (275, [(0, .ref 38)], [.int (Int32.ofInt (1)), .ref 38], M)) rfl ?_
    refine w_call (cm := 100) (as := [(0, .ref 38), (1, .int (Int32.ofInt (1)))]) (rest := []) (o := some (4, 38)) rfl (w_fitR hR rfl) (c_fail (1) hR ⟨by omega, by omega⟩ (show l ≤ 7000000 by first | assumption | omega) (show 1 ≤ 1 ∧ 1 ≤ 7 by first | assumption | omega)) (fun r401 M402 q403 => ?_)
    rcases q403 with ⟨t404, I403a, A403a, B403a, C403a, e405, hR403a, f406, f407, f408⟩
    rw [e405]
    replace hR403a : w_Rep w_TC fr X (u + 6) (l + 64) I403a A403a B403a C403a M402 := hR403a
    replace f406 : c_fi c_ps I I403a := f406
    replace f407 : c_fa c_pa A A403a := f407
    replace f408 : M402.1[t404]? = some (.inr (11, [])) := f408
    exact Or.inr (⟨t404, I403a, A403a, B403a, C403a, rfl, hR403a, (show c_fi c_ps I I403a by exact f406), (show c_fa c_pa A A403a by exact f407), (show M402.1[t404]? = some (.inr (11, [])) by exact f408)⟩)
  · refine w_sw (v := 21) (F' := (273, [(0, .ref 38)], [], M)) h3 rfl rfl ?_
    refine w_adv (n := 2) (F' := (275, [(0, .ref 38)], [.int (Int32.ofInt (1)), .ref 38], M)) rfl ?_
    refine w_call (cm := 100) (as := [(0, .ref 38), (1, .int (Int32.ofInt (1)))]) (rest := []) (o := some (4, 38)) rfl (w_fitR hR rfl) (c_fail (1) hR ⟨by omega, by omega⟩ (show l ≤ 7000000 by first | assumption | omega) (show 1 ≤ 1 ∧ 1 ≤ 7 by first | assumption | omega)) (fun r409 M410 q411 => ?_)
    rcases q411 with ⟨t412, I411a, A411a, B411a, C411a, e413, hR411a, f414, f415, f416⟩
    rw [e413]
    replace hR411a : w_Rep w_TC fr X (u + 6) (l + 64) I411a A411a B411a C411a M410 := hR411a
    replace f414 : c_fi c_ps I I411a := f414
    replace f415 : c_fa c_pa A A411a := f415
    replace f416 : M410.1[t412]? = some (.inr (11, [])) := f416
    exact Or.inr (⟨t412, I411a, A411a, B411a, C411a, rfl, hR411a, (show c_fi c_ps I I411a by exact f414), (show c_fa c_pa A A411a by exact f415), (show M410.1[t412]? = some (.inr (11, [])) by exact f416)⟩)
  · refine w_sw (v := 22) (F' := (249, [(0, .ref 38)], [], M)) h3 rfl rfl ?_
    refine w_adv (n := 2) (F' := (251, [(0, .ref 38)], [.int (Int32.ofInt (1)), .ref 38], M)) rfl ?_
    refine w_call (cm := 122) (as := [(0, .ref 38), (1, .int (Int32.ofInt (1)))]) (rest := []) (o := some (4, 38)) rfl (w_fitR hR rfl) (c_local (c_ALL_dn hA) (1) hR (show 10 * (24 - (I 2439)) + 9 ≤ (d : Int) by omega) ⟨by omega, by omega⟩ (show l ≤ 7000000 by first | assumption | omega) (show (0 ≤ (I 2436) ∧ (I 2436) ≤ (I 773) ∧ (I 773) ≤ 1501 ∧ ((I 2437) = 0 ∨ (I 2436) < (I 773))) ∧ (0 ≤ (I 2439) ∧ (I 2439) ≤ 24 ∧ 0 ≤ (I 2117)) ∧ 0 ≤ (I 1670) ∧ (I 1670) ≤ 2 * (I 2436) + 1 by (repeat' apply And.intro) <;> first | assumption | omega) (show ¬ (I 2437) = 0 by first | assumption | omega)) (fun r417 M418 q419 => ?_)
    rcases q419 with ⟨v420, I419a, A419a, B419a, C419a, e421, ⟨r422, r423⟩, hR419a, f424, f425, f426, f427, f428⟩ | ⟨t429, I419b, A419b, B419b, C419b, e430, hR419b, f431, f432, f433⟩
    · rw [e421]
      replace hR419a : w_Rep w_TC fr X u l I419a A419a B419a C419a M418 := hR419a
      replace f424 : c_fi c_ps I I419a := f424
      replace f425 : c_fa c_pa A A419a := f425
      replace f426 : (0 ≤ (I419a 2436) ∧ (I419a 2436) ≤ (I419a 773) ∧ ((I419a 2437) = 0 ∨ (I419a 2436) < (I419a 773))) ∧ ((I419a 773) = (I 773) ∧ (I419a 2439) = (I 2439) ∧ 0 ≤ (I419a 2117)) ∧ (I 2436) + 1 ≤ (I419a 2436) ∧ (I419a 1670) + 1 ≤ (I 1670) + 2 * ((I419a 2436) - (I 2436)) ∧ (I 1670) ≤ (I419a 1670) := f426
      obtain ⟨⟨n434, n435, n436⟩, ⟨n437, n438, n439⟩, n440, n441, n442⟩ := id f426
      clear f426
      replace f427 : c_agl A A419a (I 1670) := f427
      replace f428 : c_Wn A419a (c_r (I 2439) 1) v420 (I 1670) (I419a 1670) := f428
      have g443 : c_agl A A419a (I 1670) := c_agl_trans c_agl_refl f427 (show (I 1670) ≤ (I 1670) by omega)
      have k444 : c_Wn A419a (c_r (I 2439) 1) v420 (I 1670) (I419a 1670) := c_Wn_up f428 (show c_r (I 2439) 1 ≤ c_r (I 2439) 1 by unfold c_r; omega)
      obtain ⟨b445, b446⟩ := c_W_in k444.1
      show w_W _ _ _ (254, [(0, .ref 38)], [.int (Int32.ofInt (v420))], M418) _
      refine w_fin (r := .inl (some (v420))) (M' := M418) rfl ?_
      exact Or.inl ⟨v420, I419a, A419a, B419a, C419a, rfl, ⟨by omega, by omega⟩, hR419a, (show c_fi c_ps I I419a by exact f424), (show c_fa c_pa A A419a by exact f425), (show (0 ≤ (I419a 2436) ∧ (I419a 2436) ≤ (I419a 773) ∧ ((I419a 2437) = 0 ∨ (I419a 2436) < (I419a 773))) ∧ ((I419a 773) = (I 773) ∧ (I419a 2439) = (I 2439) ∧ 0 ≤ (I419a 2117)) ∧ (I 2436) + 1 ≤ (I419a 2436) ∧ (I419a 1670) + 1 ≤ (I 1670) + 2 * ((I419a 2436) - (I 2436)) ∧ (I 1670) ≤ (I419a 1670) by (repeat' apply And.intro) <;> first | assumption | omega), (show c_agl A A419a (I 1670) by exact g443), (show c_Wn A419a (c_r (I 2439) 1) v420 (I 1670) (I419a 1670) by exact c_Wn_win (c_Wn_up k444 (show c_r (I 2439) 1 ≤ c_r (I 2439) 1 by unfold c_r; omega)) (show (I 1670) ≤ (I 1670) by omega) (show (I419a 1670) ≤ (I419a 1670) by omega))⟩
    · rw [e430]
      replace hR419b : w_Rep w_TC fr X (u + 6) (l + 64) I419b A419b B419b C419b M418 := hR419b
      replace f431 : c_fi c_ps I I419b := f431
      replace f432 : c_fa c_pa A A419b := f432
      replace f433 : M418.1[t429]? = some (.inr (11, [])) := f433
      exact Or.inr (⟨t429, I419b, A419b, B419b, C419b, rfl, hR419b, (show c_fi c_ps I I419b by exact f431), (show c_fa c_pa A A419b by exact f432), (show M418.1[t429]? = some (.inr (11, [])) by exact f433)⟩)
  · refine w_sw (v := 23) (F' := (273, [(0, .ref 38)], [], M)) h3 rfl rfl ?_
    refine w_adv (n := 2) (F' := (275, [(0, .ref 38)], [.int (Int32.ofInt (1)), .ref 38], M)) rfl ?_
    refine w_call (cm := 100) (as := [(0, .ref 38), (1, .int (Int32.ofInt (1)))]) (rest := []) (o := some (4, 38)) rfl (w_fitR hR rfl) (c_fail (1) hR ⟨by omega, by omega⟩ (show l ≤ 7000000 by first | assumption | omega) (show 1 ≤ 1 ∧ 1 ≤ 7 by first | assumption | omega)) (fun r447 M448 q449 => ?_)
    rcases q449 with ⟨t450, I449a, A449a, B449a, C449a, e451, hR449a, f452, f453, f454⟩
    rw [e451]
    replace hR449a : w_Rep w_TC fr X (u + 6) (l + 64) I449a A449a B449a C449a M448 := hR449a
    replace f452 : c_fi c_ps I I449a := f452
    replace f453 : c_fa c_pa A A449a := f453
    replace f454 : M448.1[t450]? = some (.inr (11, [])) := f454
    exact Or.inr (⟨t450, I449a, A449a, B449a, C449a, rfl, hR449a, (show c_fi c_ps I I449a by exact f452), (show c_fa c_pa A A449a by exact f453), (show M448.1[t450]? = some (.inr (11, [])) by exact f454)⟩)
  · refine w_sw (v := 24) (F' := (273, [(0, .ref 38)], [], M)) h3 rfl rfl ?_
    refine w_adv (n := 2) (F' := (275, [(0, .ref 38)], [.int (Int32.ofInt (1)), .ref 38], M)) rfl ?_
    refine w_call (cm := 100) (as := [(0, .ref 38), (1, .int (Int32.ofInt (1)))]) (rest := []) (o := some (4, 38)) rfl (w_fitR hR rfl) (c_fail (1) hR ⟨by omega, by omega⟩ (show l ≤ 7000000 by first | assumption | omega) (show 1 ≤ 1 ∧ 1 ≤ 7 by first | assumption | omega)) (fun r455 M456 q457 => ?_)
    rcases q457 with ⟨t458, I457a, A457a, B457a, C457a, e459, hR457a, f460, f461, f462⟩
    rw [e459]
    replace hR457a : w_Rep w_TC fr X (u + 6) (l + 64) I457a A457a B457a C457a M456 := hR457a
    replace f460 : c_fi c_ps I I457a := f460
    replace f461 : c_fa c_pa A A457a := f461
    replace f462 : M456.1[t458]? = some (.inr (11, [])) := f462
    exact Or.inr (⟨t458, I457a, A457a, B457a, C457a, rfl, hR457a, (show c_fi c_ps I I457a by exact f460), (show c_fa c_pa A A457a by exact f461), (show M456.1[t458]? = some (.inr (11, [])) by exact f462)⟩)
  · refine w_sw (v := 25) (F' := (255, [(0, .ref 38)], [], M)) h3 rfl rfl ?_
    refine w_adv (n := 2) (F' := (257, [(0, .ref 38)], [.int (Int32.ofInt (1)), .ref 38], M)) rfl ?_
    refine w_call (cm := 123) (as := [(0, .ref 38), (1, .int (Int32.ofInt (1)))]) (rest := []) (o := some (4, 38)) rfl (w_fitR hR rfl) (c_choice (c_ALL_dn hA) (1) hR (show 10 * (24 - (I 2439)) + 9 ≤ (d : Int) by omega) ⟨by omega, by omega⟩ (show l ≤ 7000000 by first | assumption | omega) (show (0 ≤ (I 2436) ∧ (I 2436) ≤ (I 773) ∧ (I 773) ≤ 1501 ∧ ((I 2437) = 0 ∨ (I 2436) < (I 773))) ∧ (0 ≤ (I 2439) ∧ (I 2439) ≤ 24 ∧ 0 ≤ (I 2117)) ∧ 0 ≤ (I 1670) ∧ (I 1670) ≤ 2 * (I 2436) + 1 by (repeat' apply And.intro) <;> first | assumption | omega) (show ¬ (I 2437) = 0 by first | assumption | omega)) (fun r463 M464 q465 => ?_)
    rcases q465 with ⟨v466, I465a, A465a, B465a, C465a, e467, ⟨r468, r469⟩, hR465a, f470, f471, f472, f473, f474⟩ | ⟨t475, I465b, A465b, B465b, C465b, e476, hR465b, f477, f478, f479⟩
    · rw [e467]
      replace hR465a : w_Rep w_TC fr X u l I465a A465a B465a C465a M464 := hR465a
      replace f470 : c_fi c_ps I I465a := f470
      replace f471 : c_fa c_pa A A465a := f471
      replace f472 : (0 ≤ (I465a 2436) ∧ (I465a 2436) ≤ (I465a 773) ∧ ((I465a 2437) = 0 ∨ (I465a 2436) < (I465a 773))) ∧ ((I465a 773) = (I 773) ∧ (I465a 2439) = (I 2439) ∧ 0 ≤ (I465a 2117)) ∧ (I 2436) + 1 ≤ (I465a 2436) ∧ (I465a 1670) + 1 ≤ (I 1670) + 2 * ((I465a 2436) - (I 2436)) ∧ (I 1670) ≤ (I465a 1670) := f472
      obtain ⟨⟨n480, n481, n482⟩, ⟨n483, n484, n485⟩, n486, n487, n488⟩ := id f472
      clear f472
      replace f473 : c_agl A A465a (I 1670) := f473
      replace f474 : c_Wn A465a (c_r (I 2439) 1) v466 (I 1670) (I465a 1670) := f474
      have g489 : c_agl A A465a (I 1670) := c_agl_trans c_agl_refl f473 (show (I 1670) ≤ (I 1670) by omega)
      have k490 : c_Wn A465a (c_r (I 2439) 1) v466 (I 1670) (I465a 1670) := c_Wn_up f474 (show c_r (I 2439) 1 ≤ c_r (I 2439) 1 by unfold c_r; omega)
      obtain ⟨b491, b492⟩ := c_W_in k490.1
      show w_W _ _ _ (260, [(0, .ref 38)], [.int (Int32.ofInt (v466))], M464) _
      refine w_fin (r := .inl (some (v466))) (M' := M464) rfl ?_
      exact Or.inl ⟨v466, I465a, A465a, B465a, C465a, rfl, ⟨by omega, by omega⟩, hR465a, (show c_fi c_ps I I465a by exact f470), (show c_fa c_pa A A465a by exact f471), (show (0 ≤ (I465a 2436) ∧ (I465a 2436) ≤ (I465a 773) ∧ ((I465a 2437) = 0 ∨ (I465a 2436) < (I465a 773))) ∧ ((I465a 773) = (I 773) ∧ (I465a 2439) = (I 2439) ∧ 0 ≤ (I465a 2117)) ∧ (I 2436) + 1 ≤ (I465a 2436) ∧ (I465a 1670) + 1 ≤ (I 1670) + 2 * ((I465a 2436) - (I 2436)) ∧ (I 1670) ≤ (I465a 1670) by (repeat' apply And.intro) <;> first | assumption | omega), (show c_agl A A465a (I 1670) by exact g489), (show c_Wn A465a (c_r (I 2439) 1) v466 (I 1670) (I465a 1670) by exact c_Wn_win (c_Wn_up k490 (show c_r (I 2439) 1 ≤ c_r (I 2439) 1 by unfold c_r; omega)) (show (I 1670) ≤ (I 1670) by omega) (show (I465a 1670) ≤ (I465a 1670) by omega))⟩
    · rw [e476]
      replace hR465b : w_Rep w_TC fr X (u + 6) (l + 64) I465b A465b B465b C465b M464 := hR465b
      replace f477 : c_fi c_ps I I465b := f477
      replace f478 : c_fa c_pa A A465b := f478
      replace f479 : M464.1[t475]? = some (.inr (11, [])) := f479
      exact Or.inr (⟨t475, I465b, A465b, B465b, C465b, rfl, hR465b, (show c_fi c_ps I I465b by exact f477), (show c_fa c_pa A A465b by exact f478), (show M464.1[t475]? = some (.inr (11, [])) by exact f479)⟩)
  · refine w_sw (v := 26) (F' := (273, [(0, .ref 38)], [], M)) h3 rfl rfl ?_
    refine w_adv (n := 2) (F' := (275, [(0, .ref 38)], [.int (Int32.ofInt (1)), .ref 38], M)) rfl ?_
    refine w_call (cm := 100) (as := [(0, .ref 38), (1, .int (Int32.ofInt (1)))]) (rest := []) (o := some (4, 38)) rfl (w_fitR hR rfl) (c_fail (1) hR ⟨by omega, by omega⟩ (show l ≤ 7000000 by first | assumption | omega) (show 1 ≤ 1 ∧ 1 ≤ 7 by first | assumption | omega)) (fun r493 M494 q495 => ?_)
    rcases q495 with ⟨t496, I495a, A495a, B495a, C495a, e497, hR495a, f498, f499, f500⟩
    rw [e497]
    replace hR495a : w_Rep w_TC fr X (u + 6) (l + 64) I495a A495a B495a C495a M494 := hR495a
    replace f498 : c_fi c_ps I I495a := f498
    replace f499 : c_fa c_pa A A495a := f499
    replace f500 : M494.1[t496]? = some (.inr (11, [])) := f500
    exact Or.inr (⟨t496, I495a, A495a, B495a, C495a, rfl, hR495a, (show c_fi c_ps I I495a by exact f498), (show c_fa c_pa A A495a by exact f499), (show M494.1[t496]? = some (.inr (11, [])) by exact f500)⟩)
  · refine w_sw (v := 27) (F' := (273, [(0, .ref 38)], [], M)) h3 rfl rfl ?_
    refine w_adv (n := 2) (F' := (275, [(0, .ref 38)], [.int (Int32.ofInt (1)), .ref 38], M)) rfl ?_
    refine w_call (cm := 100) (as := [(0, .ref 38), (1, .int (Int32.ofInt (1)))]) (rest := []) (o := some (4, 38)) rfl (w_fitR hR rfl) (c_fail (1) hR ⟨by omega, by omega⟩ (show l ≤ 7000000 by first | assumption | omega) (show 1 ≤ 1 ∧ 1 ≤ 7 by first | assumption | omega)) (fun r501 M502 q503 => ?_)
    rcases q503 with ⟨t504, I503a, A503a, B503a, C503a, e505, hR503a, f506, f507, f508⟩
    rw [e505]
    replace hR503a : w_Rep w_TC fr X (u + 6) (l + 64) I503a A503a B503a C503a M502 := hR503a
    replace f506 : c_fi c_ps I I503a := f506
    replace f507 : c_fa c_pa A A503a := f507
    replace f508 : M502.1[t504]? = some (.inr (11, [])) := f508
    exact Or.inr (⟨t504, I503a, A503a, B503a, C503a, rfl, hR503a, (show c_fi c_ps I I503a by exact f506), (show c_fa c_pa A A503a by exact f507), (show M502.1[t504]? = some (.inr (11, [])) by exact f508)⟩)
  · refine w_sw (v := 28) (F' := (261, [(0, .ref 38)], [], M)) h3 rfl rfl ?_
    refine w_adv (n := 2) (F' := (263, [(0, .ref 38)], [.int (Int32.ofInt (1)), .ref 38], M)) rfl ?_
    refine w_call (cm := 125) (as := [(0, .ref 38), (1, .int (Int32.ofInt (1)))]) (rest := []) (o := some (4, 38)) rfl (w_fitR hR rfl) (c_cases (c_ALL_dn hA) (1) hR (show 10 * (24 - (I 2439)) + 9 ≤ (d : Int) by omega) ⟨by omega, by omega⟩ (show l ≤ 7000000 by first | assumption | omega) (show (0 ≤ (I 2436) ∧ (I 2436) ≤ (I 773) ∧ (I 773) ≤ 1501 ∧ ((I 2437) = 0 ∨ (I 2436) < (I 773))) ∧ (0 ≤ (I 2439) ∧ (I 2439) ≤ 24 ∧ 0 ≤ (I 2117)) ∧ 0 ≤ (I 1670) ∧ (I 1670) ≤ 2 * (I 2436) + 1 by (repeat' apply And.intro) <;> first | assumption | omega) (show ¬ (I 2437) = 0 by first | assumption | omega)) (fun r509 M510 q511 => ?_)
    rcases q511 with ⟨v512, I511a, A511a, B511a, C511a, e513, ⟨r514, r515⟩, hR511a, f516, f517, f518, f519, f520⟩ | ⟨t521, I511b, A511b, B511b, C511b, e522, hR511b, f523, f524, f525⟩
    · rw [e513]
      replace hR511a : w_Rep w_TC fr X u l I511a A511a B511a C511a M510 := hR511a
      replace f516 : c_fi c_ps I I511a := f516
      replace f517 : c_fa c_pa A A511a := f517
      replace f518 : (0 ≤ (I511a 2436) ∧ (I511a 2436) ≤ (I511a 773) ∧ ((I511a 2437) = 0 ∨ (I511a 2436) < (I511a 773))) ∧ ((I511a 773) = (I 773) ∧ (I511a 2439) = (I 2439) ∧ 0 ≤ (I511a 2117)) ∧ (I 2436) + 1 ≤ (I511a 2436) ∧ (I511a 1670) + 1 ≤ (I 1670) + 2 * ((I511a 2436) - (I 2436)) ∧ (I 1670) ≤ (I511a 1670) := f518
      obtain ⟨⟨n526, n527, n528⟩, ⟨n529, n530, n531⟩, n532, n533, n534⟩ := id f518
      clear f518
      replace f519 : c_agl A A511a (I 1670) := f519
      replace f520 : c_Wn A511a (c_r (I 2439) 1) v512 (I 1670) (I511a 1670) := f520
      have g535 : c_agl A A511a (I 1670) := c_agl_trans c_agl_refl f519 (show (I 1670) ≤ (I 1670) by omega)
      have k536 : c_Wn A511a (c_r (I 2439) 1) v512 (I 1670) (I511a 1670) := c_Wn_up f520 (show c_r (I 2439) 1 ≤ c_r (I 2439) 1 by unfold c_r; omega)
      obtain ⟨b537, b538⟩ := c_W_in k536.1
      show w_W _ _ _ (266, [(0, .ref 38)], [.int (Int32.ofInt (v512))], M510) _
      refine w_fin (r := .inl (some (v512))) (M' := M510) rfl ?_
      exact Or.inl ⟨v512, I511a, A511a, B511a, C511a, rfl, ⟨by omega, by omega⟩, hR511a, (show c_fi c_ps I I511a by exact f516), (show c_fa c_pa A A511a by exact f517), (show (0 ≤ (I511a 2436) ∧ (I511a 2436) ≤ (I511a 773) ∧ ((I511a 2437) = 0 ∨ (I511a 2436) < (I511a 773))) ∧ ((I511a 773) = (I 773) ∧ (I511a 2439) = (I 2439) ∧ 0 ≤ (I511a 2117)) ∧ (I 2436) + 1 ≤ (I511a 2436) ∧ (I511a 1670) + 1 ≤ (I 1670) + 2 * ((I511a 2436) - (I 2436)) ∧ (I 1670) ≤ (I511a 1670) by (repeat' apply And.intro) <;> first | assumption | omega), (show c_agl A A511a (I 1670) by exact g535), (show c_Wn A511a (c_r (I 2439) 1) v512 (I 1670) (I511a 1670) by exact c_Wn_win (c_Wn_up k536 (show c_r (I 2439) 1 ≤ c_r (I 2439) 1 by unfold c_r; omega)) (show (I 1670) ≤ (I 1670) by omega) (show (I511a 1670) ≤ (I511a 1670) by omega))⟩
    · rw [e522]
      replace hR511b : w_Rep w_TC fr X (u + 6) (l + 64) I511b A511b B511b C511b M510 := hR511b
      replace f523 : c_fi c_ps I I511b := f523
      replace f524 : c_fa c_pa A A511b := f524
      replace f525 : M510.1[t521]? = some (.inr (11, [])) := f525
      exact Or.inr (⟨t521, I511b, A511b, B511b, C511b, rfl, hR511b, (show c_fi c_ps I I511b by exact f523), (show c_fa c_pa A A511b by exact f524), (show M510.1[t521]? = some (.inr (11, [])) by exact f525)⟩)
  · refine w_sw (v := 29) (F' := (273, [(0, .ref 38)], [], M)) h3 rfl rfl ?_
    refine w_adv (n := 2) (F' := (275, [(0, .ref 38)], [.int (Int32.ofInt (1)), .ref 38], M)) rfl ?_
    refine w_call (cm := 100) (as := [(0, .ref 38), (1, .int (Int32.ofInt (1)))]) (rest := []) (o := some (4, 38)) rfl (w_fitR hR rfl) (c_fail (1) hR ⟨by omega, by omega⟩ (show l ≤ 7000000 by first | assumption | omega) (show 1 ≤ 1 ∧ 1 ≤ 7 by first | assumption | omega)) (fun r539 M540 q541 => ?_)
    rcases q541 with ⟨t542, I541a, A541a, B541a, C541a, e543, hR541a, f544, f545, f546⟩
    rw [e543]
    replace hR541a : w_Rep w_TC fr X (u + 6) (l + 64) I541a A541a B541a C541a M540 := hR541a
    replace f544 : c_fi c_ps I I541a := f544
    replace f545 : c_fa c_pa A A541a := f545
    replace f546 : M540.1[t542]? = some (.inr (11, [])) := f546
    exact Or.inr (⟨t542, I541a, A541a, B541a, C541a, rfl, hR541a, (show c_fi c_ps I I541a by exact f544), (show c_fa c_pa A A541a by exact f545), (show M540.1[t542]? = some (.inr (11, [])) by exact f546)⟩)
  · refine w_sw (v := 30) (F' := (273, [(0, .ref 38)], [], M)) h3 rfl rfl ?_
    refine w_adv (n := 2) (F' := (275, [(0, .ref 38)], [.int (Int32.ofInt (1)), .ref 38], M)) rfl ?_
    refine w_call (cm := 100) (as := [(0, .ref 38), (1, .int (Int32.ofInt (1)))]) (rest := []) (o := some (4, 38)) rfl (w_fitR hR rfl) (c_fail (1) hR ⟨by omega, by omega⟩ (show l ≤ 7000000 by first | assumption | omega) (show 1 ≤ 1 ∧ 1 ≤ 7 by first | assumption | omega)) (fun r547 M548 q549 => ?_)
    rcases q549 with ⟨t550, I549a, A549a, B549a, C549a, e551, hR549a, f552, f553, f554⟩
    rw [e551]
    replace hR549a : w_Rep w_TC fr X (u + 6) (l + 64) I549a A549a B549a C549a M548 := hR549a
    replace f552 : c_fi c_ps I I549a := f552
    replace f553 : c_fa c_pa A A549a := f553
    replace f554 : M548.1[t550]? = some (.inr (11, [])) := f554
    exact Or.inr (⟨t550, I549a, A549a, B549a, C549a, rfl, hR549a, (show c_fi c_ps I I549a by exact f552), (show c_fa c_pa A A549a by exact f553), (show M548.1[t550]? = some (.inr (11, [])) by exact f554)⟩)
  · refine w_sw (v := 31) (F' := (230, [(0, .ref 38)], [], M)) h3 rfl rfl ?_
    refine w_adv (n := 2) (F' := (232, [(0, .ref 38)], [.ref 38, .ref 38], M)) rfl ?_
    refine w_gf (v := .int (Int32.ofInt ((I 2437)))) hR rfl rfl rfl rfl ?_
    refine w_adv (n := 1) (F' := (237, [(0, .ref 38)], [.int (Int32.ofInt (32)), .int (Int32.ofInt ((I 2437))), .ref 38], M)) rfl ?_
    refine w_br2 (a := (I 2437)) (b := 32) rfl rfl ⟨by omega, by omega⟩ ⟨by omega, by omega⟩ (fun h555 => ?_) (fun h555 => ?_)
    · have h555 : ¬ (I 2437) = 32 := h555
      show w_W _ _ _ (244, [(0, .ref 38)], [.ref 38], M) _
      refine w_adv (n := 1) (F' := (245, [(0, .ref 38)], [.int (Int32.ofInt (0)), .ref 38], M)) rfl ?_
      refine w_call (cm := 117) (as := [(0, .ref 38), (1, .int (Int32.ofInt (0)))]) (rest := []) (o := some (4, 38)) rfl (w_fitR hR rfl) (c_procedure (c_ALL_dn hA) (0) hR (show 10 * (24 - (I 2439)) + 9 ≤ (d : Int) by omega) ⟨by omega, by omega⟩ (show l ≤ 7000000 by first | assumption | omega) (show (0 ≤ (I 2436) ∧ (I 2436) ≤ (I 773) ∧ (I 773) ≤ 1501 ∧ ((I 2437) = 0 ∨ (I 2436) < (I 773))) ∧ (0 ≤ (I 2439) ∧ (I 2439) ≤ 24 ∧ 0 ≤ (I 2117)) ∧ 0 ≤ (I 1670) ∧ (I 1670) ≤ 2 * (I 2436) + 1 by (repeat' apply And.intro) <;> first | assumption | omega) (show ¬ (I 2437) = 0 by first | assumption | omega)) (fun r556 M557 q558 => ?_)
      rcases q558 with ⟨v559, I558a, A558a, B558a, C558a, e560, ⟨r561, r562⟩, hR558a, f563, f564, f565, f566, f567⟩ | ⟨t568, I558b, A558b, B558b, C558b, e569, hR558b, f570, f571, f572⟩
      · rw [e560]
        replace hR558a : w_Rep w_TC fr X u l I558a A558a B558a C558a M557 := hR558a
        replace f563 : c_fi c_ps I I558a := f563
        replace f564 : c_fa c_pa A A558a := f564
        replace f565 : (0 ≤ (I558a 2436) ∧ (I558a 2436) ≤ (I558a 773) ∧ ((I558a 2437) = 0 ∨ (I558a 2436) < (I558a 773))) ∧ ((I558a 773) = (I 773) ∧ (I558a 2439) = (I 2439) ∧ 0 ≤ (I558a 2117)) ∧ (I 2436) + 1 ≤ (I558a 2436) ∧ (I558a 1670) + 1 ≤ (I 1670) + 2 * ((I558a 2436) - (I 2436)) ∧ (I 1670) ≤ (I558a 1670) := f565
        obtain ⟨⟨n573, n574, n575⟩, ⟨n576, n577, n578⟩, n579, n580, n581⟩ := id f565
        clear f565
        replace f566 : c_agl A A558a (I 1670) := f566
        replace f567 : c_Wn A558a (c_r (I 2439) 1) v559 (I 1670) (I558a 1670) := f567
        have g582 : c_agl A A558a (I 1670) := c_agl_trans c_agl_refl f566 (show (I 1670) ≤ (I 1670) by omega)
        have k583 : c_Wn A558a (c_r (I 2439) 1) v559 (I 1670) (I558a 1670) := c_Wn_up f567 (show c_r (I 2439) 1 ≤ c_r (I 2439) 1 by unfold c_r; omega)
        obtain ⟨b584, b585⟩ := c_W_in k583.1
        show w_W _ _ _ (248, [(0, .ref 38)], [.int (Int32.ofInt (v559))], M557) _
        refine w_fin (r := .inl (some (v559))) (M' := M557) rfl ?_
        exact Or.inl ⟨v559, I558a, A558a, B558a, C558a, rfl, ⟨by omega, by omega⟩, hR558a, (show c_fi c_ps I I558a by exact f563), (show c_fa c_pa A A558a by exact f564), (show (0 ≤ (I558a 2436) ∧ (I558a 2436) ≤ (I558a 773) ∧ ((I558a 2437) = 0 ∨ (I558a 2436) < (I558a 773))) ∧ ((I558a 773) = (I 773) ∧ (I558a 2439) = (I 2439) ∧ 0 ≤ (I558a 2117)) ∧ (I 2436) + 1 ≤ (I558a 2436) ∧ (I558a 1670) + 1 ≤ (I 1670) + 2 * ((I558a 2436) - (I 2436)) ∧ (I 1670) ≤ (I558a 1670) by (repeat' apply And.intro) <;> first | assumption | omega), (show c_agl A A558a (I 1670) by exact g582), (show c_Wn A558a (c_r (I 2439) 1) v559 (I 1670) (I558a 1670) by exact c_Wn_win (c_Wn_up k583 (show c_r (I 2439) 1 ≤ c_r (I 2439) 1 by unfold c_r; omega)) (show (I 1670) ≤ (I 1670) by omega) (show (I558a 1670) ≤ (I558a 1670) by omega))⟩
      · rw [e569]
        replace hR558b : w_Rep w_TC fr X (u + 6) (l + 64) I558b A558b B558b C558b M557 := hR558b
        replace f570 : c_fi c_ps I I558b := f570
        replace f571 : c_fa c_pa A A558b := f571
        replace f572 : M557.1[t568]? = some (.inr (11, [])) := f572
        exact Or.inr (⟨t568, I558b, A558b, B558b, C558b, rfl, hR558b, (show c_fi c_ps I I558b by exact f570), (show c_fa c_pa A A558b by exact f571), (show M557.1[t568]? = some (.inr (11, [])) by exact f572)⟩)
    · have h555 : ¬ (¬ (I 2437) = 32) := h555
      exfalso; omega
  · refine w_sw (v := 32) (F' := (230, [(0, .ref 38)], [], M)) h3 rfl rfl ?_
    refine w_adv (n := 2) (F' := (232, [(0, .ref 38)], [.ref 38, .ref 38], M)) rfl ?_
    refine w_gf (v := .int (Int32.ofInt ((I 2437)))) hR rfl rfl rfl rfl ?_
    refine w_adv (n := 1) (F' := (237, [(0, .ref 38)], [.int (Int32.ofInt (32)), .int (Int32.ofInt ((I 2437))), .ref 38], M)) rfl ?_
    refine w_br2 (a := (I 2437)) (b := 32) rfl rfl ⟨by omega, by omega⟩ ⟨by omega, by omega⟩ (fun h586 => ?_) (fun h586 => ?_)
    · have h586 : ¬ (I 2437) = 32 := h586
      exfalso; omega
    · have h586 : ¬ (¬ (I 2437) = 32) := h586
      show w_W _ _ _ (240, [(0, .ref 38)], [.ref 38], M) _
      refine w_adv (n := 2) (F' := (245, [(0, .ref 38)], [.int (Int32.ofInt (1)), .ref 38], M)) rfl ?_
      refine w_call (cm := 117) (as := [(0, .ref 38), (1, .int (Int32.ofInt (1)))]) (rest := []) (o := some (4, 38)) rfl (w_fitR hR rfl) (c_procedure (c_ALL_dn hA) (1) hR (show 10 * (24 - (I 2439)) + 9 ≤ (d : Int) by omega) ⟨by omega, by omega⟩ (show l ≤ 7000000 by first | assumption | omega) (show (0 ≤ (I 2436) ∧ (I 2436) ≤ (I 773) ∧ (I 773) ≤ 1501 ∧ ((I 2437) = 0 ∨ (I 2436) < (I 773))) ∧ (0 ≤ (I 2439) ∧ (I 2439) ≤ 24 ∧ 0 ≤ (I 2117)) ∧ 0 ≤ (I 1670) ∧ (I 1670) ≤ 2 * (I 2436) + 1 by (repeat' apply And.intro) <;> first | assumption | omega) (show ¬ (I 2437) = 0 by first | assumption | omega)) (fun r587 M588 q589 => ?_)
      rcases q589 with ⟨v590, I589a, A589a, B589a, C589a, e591, ⟨r592, r593⟩, hR589a, f594, f595, f596, f597, f598⟩ | ⟨t599, I589b, A589b, B589b, C589b, e600, hR589b, f601, f602, f603⟩
      · rw [e591]
        replace hR589a : w_Rep w_TC fr X u l I589a A589a B589a C589a M588 := hR589a
        replace f594 : c_fi c_ps I I589a := f594
        replace f595 : c_fa c_pa A A589a := f595
        replace f596 : (0 ≤ (I589a 2436) ∧ (I589a 2436) ≤ (I589a 773) ∧ ((I589a 2437) = 0 ∨ (I589a 2436) < (I589a 773))) ∧ ((I589a 773) = (I 773) ∧ (I589a 2439) = (I 2439) ∧ 0 ≤ (I589a 2117)) ∧ (I 2436) + 1 ≤ (I589a 2436) ∧ (I589a 1670) + 1 ≤ (I 1670) + 2 * ((I589a 2436) - (I 2436)) ∧ (I 1670) ≤ (I589a 1670) := f596
        obtain ⟨⟨n604, n605, n606⟩, ⟨n607, n608, n609⟩, n610, n611, n612⟩ := id f596
        clear f596
        replace f597 : c_agl A A589a (I 1670) := f597
        replace f598 : c_Wn A589a (c_r (I 2439) 1) v590 (I 1670) (I589a 1670) := f598
        have g613 : c_agl A A589a (I 1670) := c_agl_trans c_agl_refl f597 (show (I 1670) ≤ (I 1670) by omega)
        have k614 : c_Wn A589a (c_r (I 2439) 1) v590 (I 1670) (I589a 1670) := c_Wn_up f598 (show c_r (I 2439) 1 ≤ c_r (I 2439) 1 by unfold c_r; omega)
        obtain ⟨b615, b616⟩ := c_W_in k614.1
        show w_W _ _ _ (248, [(0, .ref 38)], [.int (Int32.ofInt (v590))], M588) _
        refine w_fin (r := .inl (some (v590))) (M' := M588) rfl ?_
        exact Or.inl ⟨v590, I589a, A589a, B589a, C589a, rfl, ⟨by omega, by omega⟩, hR589a, (show c_fi c_ps I I589a by exact f594), (show c_fa c_pa A A589a by exact f595), (show (0 ≤ (I589a 2436) ∧ (I589a 2436) ≤ (I589a 773) ∧ ((I589a 2437) = 0 ∨ (I589a 2436) < (I589a 773))) ∧ ((I589a 773) = (I 773) ∧ (I589a 2439) = (I 2439) ∧ 0 ≤ (I589a 2117)) ∧ (I 2436) + 1 ≤ (I589a 2436) ∧ (I589a 1670) + 1 ≤ (I 1670) + 2 * ((I589a 2436) - (I 2436)) ∧ (I 1670) ≤ (I589a 1670) by (repeat' apply And.intro) <;> first | assumption | omega), (show c_agl A A589a (I 1670) by exact g613), (show c_Wn A589a (c_r (I 2439) 1) v590 (I 1670) (I589a 1670) by exact c_Wn_win (c_Wn_up k614 (show c_r (I 2439) 1 ≤ c_r (I 2439) 1 by unfold c_r; omega)) (show (I 1670) ≤ (I 1670) by omega) (show (I589a 1670) ≤ (I589a 1670) by omega))⟩
      · rw [e600]
        replace hR589b : w_Rep w_TC fr X (u + 6) (l + 64) I589b A589b B589b C589b M588 := hR589b
        replace f601 : c_fi c_ps I I589b := f601
        replace f602 : c_fa c_pa A A589b := f602
        replace f603 : M588.1[t599]? = some (.inr (11, [])) := f603
        exact Or.inr (⟨t599, I589b, A589b, B589b, C589b, rfl, hR589b, (show c_fi c_ps I I589b by exact f601), (show c_fa c_pa A A589b by exact f602), (show M588.1[t599]? = some (.inr (11, [])) by exact f603)⟩)
  · refine w_sw (v := 33) (F' := (267, [(0, .ref 38)], [], M)) h3 rfl rfl ?_
    refine w_adv (n := 2) (F' := (269, [(0, .ref 38)], [.int (Int32.ofInt (1)), .ref 38], M)) rfl ?_
    refine w_call (cm := 129) (as := [(0, .ref 38), (1, .int (Int32.ofInt (1)))]) (rest := []) (o := some (4, 38)) rfl (w_fitR hR rfl) (c_thread (c_ALL_dn hA) (1) hR (show 10 * (24 - (I 2439)) + 9 ≤ (d : Int) by omega) ⟨by omega, by omega⟩ (show l ≤ 7000000 by first | assumption | omega) (show (0 ≤ (I 2436) ∧ (I 2436) ≤ (I 773) ∧ (I 773) ≤ 1501 ∧ ((I 2437) = 0 ∨ (I 2436) < (I 773))) ∧ (0 ≤ (I 2439) ∧ (I 2439) ≤ 24 ∧ 0 ≤ (I 2117)) ∧ 0 ≤ (I 1670) ∧ (I 1670) ≤ 2 * (I 2436) + 1 by (repeat' apply And.intro) <;> first | assumption | omega) (show ¬ (I 2437) = 0 by first | assumption | omega)) (fun r617 M618 q619 => ?_)
    rcases q619 with ⟨v620, I619a, A619a, B619a, C619a, e621, ⟨r622, r623⟩, hR619a, f624, f625, f626, f627, f628⟩ | ⟨t629, I619b, A619b, B619b, C619b, e630, hR619b, f631, f632, f633⟩
    · rw [e621]
      replace hR619a : w_Rep w_TC fr X u l I619a A619a B619a C619a M618 := hR619a
      replace f624 : c_fi c_ps I I619a := f624
      replace f625 : c_fa c_pa A A619a := f625
      replace f626 : (0 ≤ (I619a 2436) ∧ (I619a 2436) ≤ (I619a 773) ∧ ((I619a 2437) = 0 ∨ (I619a 2436) < (I619a 773))) ∧ ((I619a 773) = (I 773) ∧ (I619a 2439) = (I 2439) ∧ 0 ≤ (I619a 2117)) ∧ (I 2436) + 1 ≤ (I619a 2436) ∧ (I619a 1670) + 1 ≤ (I 1670) + 2 * ((I619a 2436) - (I 2436)) ∧ (I 1670) ≤ (I619a 1670) := f626
      obtain ⟨⟨n634, n635, n636⟩, ⟨n637, n638, n639⟩, n640, n641, n642⟩ := id f626
      clear f626
      replace f627 : c_agl A A619a (I 1670) := f627
      replace f628 : c_Wn A619a (c_r (I 2439) 1) v620 (I 1670) (I619a 1670) := f628
      have g643 : c_agl A A619a (I 1670) := c_agl_trans c_agl_refl f627 (show (I 1670) ≤ (I 1670) by omega)
      have k644 : c_Wn A619a (c_r (I 2439) 1) v620 (I 1670) (I619a 1670) := c_Wn_up f628 (show c_r (I 2439) 1 ≤ c_r (I 2439) 1 by unfold c_r; omega)
      obtain ⟨b645, b646⟩ := c_W_in k644.1
      show w_W _ _ _ (272, [(0, .ref 38)], [.int (Int32.ofInt (v620))], M618) _
      refine w_fin (r := .inl (some (v620))) (M' := M618) rfl ?_
      exact Or.inl ⟨v620, I619a, A619a, B619a, C619a, rfl, ⟨by omega, by omega⟩, hR619a, (show c_fi c_ps I I619a by exact f624), (show c_fa c_pa A A619a by exact f625), (show (0 ≤ (I619a 2436) ∧ (I619a 2436) ≤ (I619a 773) ∧ ((I619a 2437) = 0 ∨ (I619a 2436) < (I619a 773))) ∧ ((I619a 773) = (I 773) ∧ (I619a 2439) = (I 2439) ∧ 0 ≤ (I619a 2117)) ∧ (I 2436) + 1 ≤ (I619a 2436) ∧ (I619a 1670) + 1 ≤ (I 1670) + 2 * ((I619a 2436) - (I 2436)) ∧ (I 1670) ≤ (I619a 1670) by (repeat' apply And.intro) <;> first | assumption | omega), (show c_agl A A619a (I 1670) by exact g643), (show c_Wn A619a (c_r (I 2439) 1) v620 (I 1670) (I619a 1670) by exact c_Wn_win (c_Wn_up k644 (show c_r (I 2439) 1 ≤ c_r (I 2439) 1 by unfold c_r; omega)) (show (I 1670) ≤ (I 1670) by omega) (show (I619a 1670) ≤ (I619a 1670) by omega))⟩
    · rw [e630]
      replace hR619b : w_Rep w_TC fr X (u + 6) (l + 64) I619b A619b B619b C619b M618 := hR619b
      replace f631 : c_fi c_ps I I619b := f631
      replace f632 : c_fa c_pa A A619b := f632
      replace f633 : M618.1[t629]? = some (.inr (11, [])) := f633
      exact Or.inr (⟨t629, I619b, A619b, B619b, C619b, rfl, hR619b, (show c_fi c_ps I I619b by exact f631), (show c_fa c_pa A A619b by exact f632), (show M618.1[t629]? = some (.inr (11, [])) by exact f633)⟩)
