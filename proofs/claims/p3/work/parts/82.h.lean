/-! TOKENS of the class: scan. -/
def c_scan_Q (fr : Nat → Bool) (X : Nat → Option (q_C (Nat → Int32))) (u l : Nat) (I : Nat → Int) (A : Nat → Int → Int) (B C : Nat → Nat) (M : w_M) : w_X → w_M → Prop := fun r M' => (∃ (I' : Nat → Int) (A' : Nat → Int → Int) (B' C' : Nat → Nat), (r = .inl none) ∧ (w_Rep w_TC fr X u l I' A' B' C' M') ∧ (c_fr c_ts c_ta I A I' A') ∧ (36 ≤ (I' 200) ∧ (I' 200) ≤ 419 ∧ 0 ≤ (I' 202) ∧ (I' 202) ≤ 24) ∧ (∀ i, (A' 5) i ≤ 24) ∧ (1 ≤ (I' 773) ∧ (I' 773) ≤ 1501 ∧ (I' 65) = (I 65)))
set_option maxHeartbeats 100000000 in
set_option maxRecDepth 100000 in
theorem c_scan {L : Nat} {xs : Nat → Int32} {d : Nat} {fr : Nat → Bool} {X : Nat → Option (q_C (Nat → Int32))} {u l : Nat} {I : Nat → Int} {A : Nat → Int → Int} {B C : Nat → Nat} {M : w_M} (hR : w_Rep w_TC fr X u l I A B C M) (hd : 8 ≤ d) (hNM : 36 ≤ (I 200) ∧ (I 200) ≤ 419 ∧ 0 ≤ (I 202) ∧ (I 202) ≤ 24) (hLN : ∀ i, (A 5) i ≤ 24) : w_W (z_P L xs) d 42 (0, [(0, .ref 12)], [], M) (c_scan_Q fr X u l I A B C M) := by
  obtain ⟨d, rfl⟩ : ∃ d0, d = d0 + 1 := ⟨d - 1, by omega⟩
  refine w_adv (n := 1) (F' := (1, [(0, .ref 12)], [.ref 12], M)) rfl ?_
  refine w_gf (v := .ref 3) hR rfl rfl rfl rfl ?_
  refine w_call (cm := 43) (as := [(0, .ref 3)]) (rest := []) (o := some (3, 3)) rfl (w_fitR hR rfl) (c_Names_reset hR (show 1 ≤ d by omega) (show 36 ≤ (I 200) ∧ (I 200) ≤ 419 ∧ 0 ≤ (I 202) ∧ (I 202) ≤ 24 by (repeat' apply And.intro) <;> first | assumption | omega) (show ∀ i, (A 5) i ≤ 24 by exact hLN)) (fun r1 M2 q3 => ?_)
  rcases q3 with ⟨I3a, A3a, B3a, C3a, e4, hR3a, f5, f6, f7, f8⟩
  rw [e4]
  replace hR3a : w_Rep w_TC fr X u l I3a A3a B3a C3a M2 := hR3a
  replace f5 : c_fr c_ts c_ta I A I3a A3a := f5
  replace f6 : 36 ≤ (I3a 200) ∧ (I3a 200) ≤ 419 ∧ 0 ≤ (I3a 202) ∧ (I3a 202) ≤ 24 := f6
  obtain ⟨n9, n10, n11, n12⟩ := id f6
  clear f6
  replace f7 : ∀ i, (A3a 5) i ≤ 24 := f7
  replace f8 : (I3a 773) = (I 773) ∧ (I3a 65) = (I 65) := f8
  obtain ⟨n13, n14⟩ := id f8
  clear f8
  show w_W _ _ _ (7, [(0, .ref 12)], [], M2) _
  refine w_adv (n := 2) (F' := (9, [(0, .ref 12)], [.int (Int32.ofInt (0)), .ref 12], M2)) rfl ?_
  refine w_pf hR3a rfl rfl rfl rfl (show w_in (0) from ⟨by omega, by omega⟩) (fun h => absurd h (by decide)) (fun M15 hR16 => ?_)
  replace hR16 : w_Rep w_TC fr X u l (w_up I3a 773 (0)) A3a B3a C3a M15 := hR16
  refine w_adv (n := 2) (F' := (14, [(0, .ref 12)], [.int (Int32.ofInt (0)), .ref 12], M15)) rfl ?_
  refine w_pf hR16 rfl rfl rfl rfl (show w_in (0) from ⟨by omega, by omega⟩) (fun h => absurd h (by decide)) (fun M17 hR18 => ?_)
  replace hR18 : w_Rep w_TC fr X u l (w_up (w_up I3a 773 (0)) 775 (0)) A3a B3a C3a M17 := hR18
  refine w_adv (n := 2) (F' := (19, [(0, .ref 12)], [.int (Int32.ofInt ((-1))), .ref 12], M17)) rfl ?_
  refine w_pf hR18 rfl rfl rfl rfl (show w_in ((-1)) from ⟨by omega, by omega⟩) (fun h => absurd h (by decide)) (fun M19 hR20 => ?_)
  replace hR20 : w_Rep w_TC fr X u l (w_up (w_up (w_up I3a 773 (0)) 775 (0)) 774 ((-1))) A3a B3a C3a M19 := hR20
  refine w_adv (n := 2) (F' := (24, [(0, .ref 12)], [.int (Int32.ofInt (0)), .ref 12], M19)) rfl ?_
  refine w_call (cm := 44) (as := [(0, .ref 12), (1, .int (Int32.ofInt (0)))]) (rest := []) (o := some (7, 12)) rfl (w_fitR hR20 rfl) (c_pastBlanks (0) hR20 (show 2 ≤ d by omega) ⟨by omega, by omega⟩) (fun r21 M22 q23 => ?_)
  rcases q23 with ⟨v24, e25, ⟨r26, r27⟩, e28⟩
  rw [e25, e28]
  show w_W _ _ _ (27, [(0, .ref 12)], [.int (Int32.ofInt (v24))], M19) _
  refine w_adv (n := 3) (F' := (30, [(2, .int (Int32.ofInt (0))), (1, .int (Int32.ofInt (v24))), (0, .ref 12)], [], M19)) rfl ?_
  have lp30 : ∀ fu30 : Nat, ∀ (y30_1 : Int) (y30_2 : Int) (I_30 : Nat → Int) (A_30 : Nat → Int → Int) (B_30 C_30 : Nat → Nat) (M_30 : w_M) (hR_30 : w_Rep w_TC fr X u l I_30 A_30 B_30 C_30 M_30), w_in y30_1 → w_in y30_2 → c_fr c_ts c_ta I A I_30 A_30 → 36 ≤ (I_30 200) ∧ (I_30 200) ≤ 419 ∧ 0 ≤ (I_30 202) ∧ (I_30 202) ≤ 24 → (∀ i, (A_30 5) i ≤ 24) → 0 ≤ y30_2 ∧ y30_2 ≤ 1500 ∧ (I_30 773) = y30_2 ∧ (I_30 65) = (I 65) → 1501 - y30_2 < (fu30 : Int) → w_W (z_P L xs) (d + 1) 42 (30, [(0, .ref 12), (1, .int (Int32.ofInt (y30_1))), (2, .int (Int32.ofInt (y30_2)))], [], M_30) (c_scan_Q fr X u l I A B C M) := by
    intro fu30
    induction fu30 with
    | zero =>
      intro y30_1 y30_2 I_30 A_30 B_30 C_30 M_30 hR_30 ⟨ra_y30_1, rb_y30_1⟩ ⟨ra_y30_2, rb_y30_2⟩ hi30_0 hi30_1 hi30_2 hi30_3 hn30
      exfalso
      omega
    | succ fu30 ih30 =>
      intro y30_1 y30_2 I_30 A_30 B_30 C_30 M_30 hR_30 ⟨ra_y30_1, rb_y30_1⟩ ⟨ra_y30_2, rb_y30_2⟩ hi30_0 hi30_1 hi30_2 hi30_3 hn30
      refine w_adv (n := 2) (F' := (34, [(0, .ref 12), (1, .int (Int32.ofInt (y30_1))), (2, .int (Int32.ofInt (y30_2)))], [.int (Int32.ofInt (1500)), .int (Int32.ofInt (y30_2))], M_30)) rfl ?_
      refine w_br2 (a := y30_2) (b := 1500) rfl rfl ⟨by omega, by omega⟩ ⟨by omega, by omega⟩ (fun h29 => ?_) (fun h29 => ?_)
      · have h29 : y30_2 > 1500 := h29
        show w_W _ _ _ (108, [(0, .ref 12), (1, .int (Int32.ofInt (y30_1))), (2, .int (Int32.ofInt (y30_2)))], [], M_30) _
        refine w_adv (n := 3) (F' := (111, [(0, .ref 12), (1, .int (Int32.ofInt (y30_1))), (2, .int (Int32.ofInt (y30_2)))], [.ref 12, .int (Int32.ofInt (0)), .ref 12], M_30)) rfl ?_
        refine w_gf (v := .ref 1) hR_30 rfl rfl rfl rfl ?_
        refine w_call (cm := 45) (as := [(0, .ref 1)]) (rest := [.int (Int32.ofInt (0)), .ref 12]) (o := some (6, 1)) rfl (w_fitR hR_30 rfl) (c_len hR_30) (fun r30 M31 q32 => ?_)
        rcases q32 with ⟨e33, e34, f35⟩
        rw [e33, e34]
        replace f35 : -2147483648 ≤ (I_30 65) ∧ (I_30 65) ≤ 2147483647 := f35
        obtain ⟨n36, n37⟩ := id f35
        clear f35
        show w_W _ _ _ (117, [(0, .ref 12), (1, .int (Int32.ofInt (y30_1))), (2, .int (Int32.ofInt (y30_2)))], [.int (Int32.ofInt ((I_30 65))), .int (Int32.ofInt (0)), .ref 12], M_30) _
        refine w_adv (n := 1) (F' := (118, [(0, .ref 12), (1, .int (Int32.ofInt (y30_1))), (2, .int (Int32.ofInt (y30_2)))], [.int (Int32.ofInt ((-1))), .int (Int32.ofInt ((I_30 65))), .int (Int32.ofInt (0)), .ref 12], M_30)) rfl ?_
        refine w_call (cm := 52) (as := [(0, .ref 12), (1, .int (Int32.ofInt (0))), (2, .int (Int32.ofInt ((I_30 65)))), (3, .int (Int32.ofInt ((-1))))]) (rest := []) (o := some (7, 12)) rfl (w_fitR hR_30 rfl) (c_Tokens_add (0) ((I_30 65)) ((-1)) hR_30 (show 1 ≤ d by omega) ⟨by omega, by omega⟩ ⟨by omega, by omega⟩ ⟨by omega, by omega⟩ (show 0 ≤ (I_30 773) ∧ (I_30 773) ≤ 1501 by first | assumption | omega)) (fun r38 M39 q40 => ?_)
        rcases q40 with ⟨g1341, g1442, g1543, e44, hR40a⟩
        rw [e44]
        replace hR40a : w_Rep w_TC fr X u l (w_up I_30 773 ((I_30 773) + 1)) (w_upF (w_upF (w_upF A_30 13 g1341) 14 g1442) 15 g1543) B_30 C_30 M39 := hR40a
        show w_W _ _ _ (121, [(0, .ref 12), (1, .int (Int32.ofInt (y30_1))), (2, .int (Int32.ofInt (y30_2)))], [], M39) _
        refine w_fin (r := .inl none) (M' := M39) rfl ?_
        exact ⟨(w_up I_30 773 ((I_30 773) + 1)), (w_upF (w_upF (w_upF A_30 13 g1341) 14 g1442) 15 g1543), B_30, C_30, rfl, hR40a, (show c_fr c_ts c_ta I A (w_up I_30 773 ((I_30 773) + 1)) (w_upF (w_upF (w_upF A_30 13 g1341) 14 g1442) 15 g1543) by exact (c_fr_upF (c_fr_upF (c_fr_upF (c_fr_up hi30_0 rfl) rfl) rfl) rfl)), (show 36 ≤ (I_30 200) ∧ (I_30 200) ≤ 419 ∧ 0 ≤ (I_30 202) ∧ (I_30 202) ≤ 24 by (repeat' apply And.intro) <;> first | assumption | omega), (show ∀ i, (A_30 5) i ≤ 24 by exact hi30_2), (show 1 ≤ (I_30 773) + 1 ∧ (I_30 773) + 1 ≤ 1501 ∧ (I_30 65) = (I 65) by (repeat' apply And.intro) <;> first | assumption | omega)⟩
      · have h29 : ¬ (y30_2 > 1500) := h29
        show w_W _ _ _ (37, [(0, .ref 12), (1, .int (Int32.ofInt (y30_1))), (2, .int (Int32.ofInt (y30_2)))], [], M_30) _
        refine w_adv (n := 2) (F' := (39, [(0, .ref 12), (1, .int (Int32.ofInt (y30_1))), (2, .int (Int32.ofInt (y30_2)))], [.ref 12, .int (Int32.ofInt (y30_1))], M_30)) rfl ?_
        refine w_gf (v := .ref 1) hR_30 rfl rfl rfl rfl ?_
        refine w_call (cm := 45) (as := [(0, .ref 1)]) (rest := [.int (Int32.ofInt (y30_1))]) (o := some (6, 1)) rfl (w_fitR hR_30 rfl) (c_len hR_30) (fun r45 M46 q47 => ?_)
        rcases q47 with ⟨e48, e49, f50⟩
        rw [e48, e49]
        replace f50 : -2147483648 ≤ (I_30 65) ∧ (I_30 65) ≤ 2147483647 := f50
        obtain ⟨n51, n52⟩ := id f50
        clear f50
        show w_W _ _ _ (45, [(0, .ref 12), (1, .int (Int32.ofInt (y30_1))), (2, .int (Int32.ofInt (y30_2)))], [.int (Int32.ofInt ((I_30 65))), .int (Int32.ofInt (y30_1))], M_30) _
        refine w_br2 (a := y30_1) (b := (I_30 65)) rfl rfl ⟨by omega, by omega⟩ ⟨by omega, by omega⟩ (fun h53 => ?_) (fun h53 => ?_)
        · have h53 : y30_1 ≥ (I_30 65) := h53
          show w_W _ _ _ (108, [(0, .ref 12), (1, .int (Int32.ofInt (y30_1))), (2, .int (Int32.ofInt (y30_2)))], [], M_30) _
          refine w_adv (n := 3) (F' := (111, [(0, .ref 12), (1, .int (Int32.ofInt (y30_1))), (2, .int (Int32.ofInt (y30_2)))], [.ref 12, .int (Int32.ofInt (0)), .ref 12], M_30)) rfl ?_
          refine w_gf (v := .ref 1) hR_30 rfl rfl rfl rfl ?_
          refine w_call (cm := 45) (as := [(0, .ref 1)]) (rest := [.int (Int32.ofInt (0)), .ref 12]) (o := some (6, 1)) rfl (w_fitR hR_30 rfl) (c_len hR_30) (fun r54 M55 q56 => ?_)
          rcases q56 with ⟨e57, e58, f59⟩
          rw [e57, e58]
          replace f59 : -2147483648 ≤ (I_30 65) ∧ (I_30 65) ≤ 2147483647 := f59
          obtain ⟨n60, n61⟩ := id f59
          clear f59
          show w_W _ _ _ (117, [(0, .ref 12), (1, .int (Int32.ofInt (y30_1))), (2, .int (Int32.ofInt (y30_2)))], [.int (Int32.ofInt ((I_30 65))), .int (Int32.ofInt (0)), .ref 12], M_30) _
          refine w_adv (n := 1) (F' := (118, [(0, .ref 12), (1, .int (Int32.ofInt (y30_1))), (2, .int (Int32.ofInt (y30_2)))], [.int (Int32.ofInt ((-1))), .int (Int32.ofInt ((I_30 65))), .int (Int32.ofInt (0)), .ref 12], M_30)) rfl ?_
          refine w_call (cm := 52) (as := [(0, .ref 12), (1, .int (Int32.ofInt (0))), (2, .int (Int32.ofInt ((I_30 65)))), (3, .int (Int32.ofInt ((-1))))]) (rest := []) (o := some (7, 12)) rfl (w_fitR hR_30 rfl) (c_Tokens_add (0) ((I_30 65)) ((-1)) hR_30 (show 1 ≤ d by omega) ⟨by omega, by omega⟩ ⟨by omega, by omega⟩ ⟨by omega, by omega⟩ (show 0 ≤ (I_30 773) ∧ (I_30 773) ≤ 1501 by first | assumption | omega)) (fun r62 M63 q64 => ?_)
          rcases q64 with ⟨g1365, g1466, g1567, e68, hR64a⟩
          rw [e68]
          replace hR64a : w_Rep w_TC fr X u l (w_up I_30 773 ((I_30 773) + 1)) (w_upF (w_upF (w_upF A_30 13 g1365) 14 g1466) 15 g1567) B_30 C_30 M63 := hR64a
          show w_W _ _ _ (121, [(0, .ref 12), (1, .int (Int32.ofInt (y30_1))), (2, .int (Int32.ofInt (y30_2)))], [], M63) _
          refine w_fin (r := .inl none) (M' := M63) rfl ?_
          exact ⟨(w_up I_30 773 ((I_30 773) + 1)), (w_upF (w_upF (w_upF A_30 13 g1365) 14 g1466) 15 g1567), B_30, C_30, rfl, hR64a, (show c_fr c_ts c_ta I A (w_up I_30 773 ((I_30 773) + 1)) (w_upF (w_upF (w_upF A_30 13 g1365) 14 g1466) 15 g1567) by exact (c_fr_upF (c_fr_upF (c_fr_upF (c_fr_up hi30_0 rfl) rfl) rfl) rfl)), (show 36 ≤ (I_30 200) ∧ (I_30 200) ≤ 419 ∧ 0 ≤ (I_30 202) ∧ (I_30 202) ≤ 24 by (repeat' apply And.intro) <;> first | assumption | omega), (show ∀ i, (A_30 5) i ≤ 24 by exact hi30_2), (show 1 ≤ (I_30 773) + 1 ∧ (I_30 773) + 1 ≤ 1501 ∧ (I_30 65) = (I 65) by (repeat' apply And.intro) <;> first | assumption | omega)⟩
        · have h53 : ¬ (y30_1 ≥ (I_30 65)) := h53
          show w_W _ _ _ (48, [(0, .ref 12), (1, .int (Int32.ofInt (y30_1))), (2, .int (Int32.ofInt (y30_2)))], [], M_30) _
          refine w_adv (n := 2) (F' := (50, [(0, .ref 12), (1, .int (Int32.ofInt (y30_1))), (2, .int (Int32.ofInt (y30_2)))], [.int (Int32.ofInt (y30_1)), .ref 12], M_30)) rfl ?_
          refine w_call (cm := 47) (as := [(0, .ref 12), (1, .int (Int32.ofInt (y30_1)))]) (rest := []) (o := some (7, 12)) rfl (w_fitR hR_30 rfl) (c_one (y30_1) hR_30 (show 7 ≤ d by omega) ⟨by omega, by omega⟩ (show 0 ≤ (I_30 773) ∧ (I_30 773) ≤ 1501 by first | assumption | omega) (show 36 ≤ (I_30 200) ∧ (I_30 200) ≤ 419 ∧ 0 ≤ (I_30 202) ∧ (I_30 202) ≤ 24 by (repeat' apply And.intro) <;> first | assumption | omega) (show ∀ i, (A_30 5) i ≤ 24 by exact hi30_2)) (fun r69 M70 q71 => ?_)
          rcases q71 with ⟨I71a, A71a, B71a, C71a, e72, hR71a, f73, f74, f75, f76⟩
          rw [e72]
          replace hR71a : w_Rep w_TC fr X u l I71a A71a B71a C71a M70 := hR71a
          replace f73 : c_fr c_ts c_ta I_30 A_30 I71a A71a := f73
          replace f74 : 36 ≤ (I71a 200) ∧ (I71a 200) ≤ 419 ∧ 0 ≤ (I71a 202) ∧ (I71a 202) ≤ 24 := f74
          obtain ⟨n77, n78, n79, n80⟩ := id f74
          clear f74
          replace f75 : ∀ i, (A71a 5) i ≤ 24 := f75
          replace f76 : (I71a 773) = (I_30 773) + 1 ∧ (I71a 65) = (I_30 65) := f76
          obtain ⟨n81, n82⟩ := id f76
          clear f76
          show w_W _ _ _ (53, [(0, .ref 12), (1, .int (Int32.ofInt (y30_1))), (2, .int (Int32.ofInt (y30_2)))], [], M70) _
          refine w_adv (n := 1) (F' := (54, [(0, .ref 12), (1, .int (Int32.ofInt (y30_1))), (2, .int (Int32.ofInt (y30_2)))], [.ref 12], M70)) rfl ?_
          refine w_gf (v := .int (Int32.ofInt ((I71a 775)))) hR71a rfl rfl rfl rfl ?_
          obtain ⟨r83, r84⟩ : -2147483648 ≤ (I71a 775) ∧ (I71a 775) ≤ 2147483647 := hR71a.ri 775
          refine w_br1 (a := (I71a 775)) rfl rfl ⟨by omega, by omega⟩ (fun h85 => ?_) (fun h85 => ?_)
          · have h85 : ¬ (I71a 775) = 0 := h85
            show w_W _ _ _ (75, [(0, .ref 12), (1, .int (Int32.ofInt (y30_1))), (2, .int (Int32.ofInt (y30_2)))], [], M70) _
            refine w_adv (n := 1) (F' := (76, [(0, .ref 12), (1, .int (Int32.ofInt (y30_1))), (2, .int (Int32.ofInt (y30_2)))], [.ref 12], M70)) rfl ?_
            refine w_gf (v := .int (Int32.ofInt ((I71a 775)))) hR71a rfl rfl rfl rfl ?_
            refine w_br1 (a := (I71a 775)) rfl rfl ⟨by omega, by omega⟩ (fun h86 => ?_) (fun h86 => ?_)
            · have h86 : (I71a 775) = 0 := h86
              show w_W _ _ _ (93, [(0, .ref 12), (1, .int (Int32.ofInt (y30_1))), (2, .int (Int32.ofInt (y30_2)))], [], M70) _
              refine w_adv (n := 2) (F' := (95, [(0, .ref 12), (1, .int (Int32.ofInt (y30_1))), (2, .int (Int32.ofInt (y30_2)))], [.ref 12, .ref 12], M70)) rfl ?_
              refine w_gf (v := .int (Int32.ofInt ((I71a 776)))) hR71a rfl rfl rfl rfl ?_
              obtain ⟨r87, r88⟩ : -2147483648 ≤ (I71a 776) ∧ (I71a 776) ≤ 2147483647 := hR71a.ri 776
              refine w_call (cm := 44) (as := [(0, .ref 12), (1, .int (Int32.ofInt ((I71a 776))))]) (rest := []) (o := some (7, 12)) rfl (w_fitR hR71a rfl) (c_pastBlanks ((I71a 776)) hR71a (show 2 ≤ d by omega) ⟨by omega, by omega⟩) (fun r89 M90 q91 => ?_)
              rcases q91 with ⟨v92, e93, ⟨r94, r95⟩, e96⟩
              rw [e93, e96]
              show w_W _ _ _ (101, [(0, .ref 12), (1, .int (Int32.ofInt (y30_1))), (2, .int (Int32.ofInt (y30_2)))], [.int (Int32.ofInt (v92))], M70) _
              refine w_adv (n := 1) (F' := (102, [(1, .int (Int32.ofInt (v92))), (0, .ref 12), (2, .int (Int32.ofInt (y30_2)))], [], M70)) rfl ?_
              refine w_inc (nL := 3) (a := y30_2) rfl rfl rfl (by decide) ?_
              refine w_adv (n := 1) (F' := (30, [(2, .int (Int32.ofInt (y30_2 + 1))), (1, .int (Int32.ofInt (v92))), (0, .ref 12)], [], M70)) rfl ?_
              refine w_ls (ls := [(0, .ref 12), (1, .int (Int32.ofInt (v92))), (2, .int (Int32.ofInt (y30_2 + 1)))]) (show List.Nodup [0, 1, 2] by decide) (show List.Nodup [2, 1, 0] by decide) (List.forall_mem_cons.mpr ⟨(List.Mem.tail _ (List.Mem.tail _ (List.Mem.head _))), (List.forall_mem_cons.mpr ⟨(List.Mem.tail _ (List.Mem.head _)), (List.forall_mem_cons.mpr ⟨(List.Mem.head _), (fun _ h => by cases h)⟩)⟩)⟩) ?_
              exact ih30  (v92) (y30_2 + 1) I71a A71a B71a C71a M70 hR71a ⟨by omega, by omega⟩ ⟨by omega, by omega⟩ (show c_fr c_ts c_ta I A I71a A71a by exact (c_fr_trans hi30_0 f73)) (show 36 ≤ (I71a 200) ∧ (I71a 200) ≤ 419 ∧ 0 ≤ (I71a 202) ∧ (I71a 202) ≤ 24 by (repeat' apply And.intro) <;> first | assumption | omega) (show ∀ i, (A71a 5) i ≤ 24 by exact f75) (show 0 ≤ (y30_2 + 1) ∧ (y30_2 + 1) ≤ 1500 ∧ (I71a 773) = (y30_2 + 1) ∧ (I71a 65) = (I 65) by (repeat' apply And.intro) <;> first | assumption | omega) (show 1501 - (y30_2 + 1) < (fu30 : Int) by omega)
            · have h86 : ¬ ((I71a 775) = 0) := h86
              show w_W _ _ _ (82, [(0, .ref 12), (1, .int (Int32.ofInt (y30_1))), (2, .int (Int32.ofInt (y30_2)))], [], M70) _
              refine w_adv (n := 2) (F' := (84, [(0, .ref 12), (1, .int (Int32.ofInt (y30_1))), (2, .int (Int32.ofInt (y30_2)))], [.ref 12, .ref 12], M70)) rfl ?_
              refine w_gf (v := .int (Int32.ofInt ((I71a 773)))) hR71a rfl rfl rfl rfl ?_
              obtain ⟨r97, r98⟩ : -2147483648 ≤ (I71a 773) ∧ (I71a 773) ≤ 2147483647 := hR71a.ri 773
              refine w_adv (n := 1) (F' := (88, [(0, .ref 12), (1, .int (Int32.ofInt (y30_1))), (2, .int (Int32.ofInt (y30_2)))], [.int (Int32.ofInt (1)), .int (Int32.ofInt ((I71a 773))), .ref 12], M70)) rfl ?_
              refine w_sub rfl ?_
              refine w_pf hR71a rfl rfl rfl rfl (show w_in ((I71a 773) - 1) from ⟨by omega, by omega⟩) (fun h => absurd h (by decide)) (fun M99 hR100 => ?_)
              replace hR100 : w_Rep w_TC fr X u l (w_up I71a 774 ((I71a 773) - 1)) A71a B71a C71a M99 := hR100
              refine w_fin (r := .inl none) (M' := M99) rfl ?_
              exact ⟨(w_up I71a 774 ((I71a 773) - 1)), A71a, B71a, C71a, rfl, hR100, (show c_fr c_ts c_ta I A (w_up I71a 774 ((I71a 773) - 1)) A71a by exact (c_fr_up (c_fr_trans hi30_0 f73) rfl)), (show 36 ≤ (I71a 200) ∧ (I71a 200) ≤ 419 ∧ 0 ≤ (I71a 202) ∧ (I71a 202) ≤ 24 by (repeat' apply And.intro) <;> first | assumption | omega), (show ∀ i, (A71a 5) i ≤ 24 by exact f75), (show 1 ≤ (I71a 773) ∧ (I71a 773) ≤ 1501 ∧ (I71a 65) = (I 65) by (repeat' apply And.intro) <;> first | assumption | omega)⟩
          · have h85 : ¬ (¬ (I71a 775) = 0) := h85
            show w_W _ _ _ (60, [(0, .ref 12), (1, .int (Int32.ofInt (y30_1))), (2, .int (Int32.ofInt (y30_2)))], [], M70) _
            refine w_adv (n := 1) (F' := (61, [(0, .ref 12), (1, .int (Int32.ofInt (y30_1))), (2, .int (Int32.ofInt (y30_2)))], [.ref 12], M70)) rfl ?_
            refine w_gf (v := .int (Int32.ofInt ((I71a 773)))) hR71a rfl rfl rfl rfl ?_
            obtain ⟨r101, r102⟩ : -2147483648 ≤ (I71a 773) ∧ (I71a 773) ≤ 2147483647 := hR71a.ri 773
            refine w_adv (n := 1) (F' := (67, [(0, .ref 12), (1, .int (Int32.ofInt (y30_1))), (2, .int (Int32.ofInt (y30_2)))], [.int (Int32.ofInt (1500)), .int (Int32.ofInt ((I71a 773)))], M70)) rfl ?_
            refine w_br2 (a := (I71a 773)) (b := 1500) rfl rfl ⟨by omega, by omega⟩ ⟨by omega, by omega⟩ (fun h103 => ?_) (fun h103 => ?_)
            · have h103 : (I71a 773) ≤ 1500 := h103
              show w_W _ _ _ (75, [(0, .ref 12), (1, .int (Int32.ofInt (y30_1))), (2, .int (Int32.ofInt (y30_2)))], [], M70) _
              refine w_adv (n := 1) (F' := (76, [(0, .ref 12), (1, .int (Int32.ofInt (y30_1))), (2, .int (Int32.ofInt (y30_2)))], [.ref 12], M70)) rfl ?_
              refine w_gf (v := .int (Int32.ofInt ((I71a 775)))) hR71a rfl rfl rfl rfl ?_
              refine w_br1 (a := (I71a 775)) rfl rfl ⟨by omega, by omega⟩ (fun h104 => ?_) (fun h104 => ?_)
              · have h104 : (I71a 775) = 0 := h104
                show w_W _ _ _ (93, [(0, .ref 12), (1, .int (Int32.ofInt (y30_1))), (2, .int (Int32.ofInt (y30_2)))], [], M70) _
                refine w_adv (n := 2) (F' := (95, [(0, .ref 12), (1, .int (Int32.ofInt (y30_1))), (2, .int (Int32.ofInt (y30_2)))], [.ref 12, .ref 12], M70)) rfl ?_
                refine w_gf (v := .int (Int32.ofInt ((I71a 776)))) hR71a rfl rfl rfl rfl ?_
                obtain ⟨r105, r106⟩ : -2147483648 ≤ (I71a 776) ∧ (I71a 776) ≤ 2147483647 := hR71a.ri 776
                refine w_call (cm := 44) (as := [(0, .ref 12), (1, .int (Int32.ofInt ((I71a 776))))]) (rest := []) (o := some (7, 12)) rfl (w_fitR hR71a rfl) (c_pastBlanks ((I71a 776)) hR71a (show 2 ≤ d by omega) ⟨by omega, by omega⟩) (fun r107 M108 q109 => ?_)
                rcases q109 with ⟨v110, e111, ⟨r112, r113⟩, e114⟩
                rw [e111, e114]
                show w_W _ _ _ (101, [(0, .ref 12), (1, .int (Int32.ofInt (y30_1))), (2, .int (Int32.ofInt (y30_2)))], [.int (Int32.ofInt (v110))], M70) _
                refine w_adv (n := 1) (F' := (102, [(1, .int (Int32.ofInt (v110))), (0, .ref 12), (2, .int (Int32.ofInt (y30_2)))], [], M70)) rfl ?_
                refine w_inc (nL := 3) (a := y30_2) rfl rfl rfl (by decide) ?_
                refine w_adv (n := 1) (F' := (30, [(2, .int (Int32.ofInt (y30_2 + 1))), (1, .int (Int32.ofInt (v110))), (0, .ref 12)], [], M70)) rfl ?_
                refine w_ls (ls := [(0, .ref 12), (1, .int (Int32.ofInt (v110))), (2, .int (Int32.ofInt (y30_2 + 1)))]) (show List.Nodup [0, 1, 2] by decide) (show List.Nodup [2, 1, 0] by decide) (List.forall_mem_cons.mpr ⟨(List.Mem.tail _ (List.Mem.tail _ (List.Mem.head _))), (List.forall_mem_cons.mpr ⟨(List.Mem.tail _ (List.Mem.head _)), (List.forall_mem_cons.mpr ⟨(List.Mem.head _), (fun _ h => by cases h)⟩)⟩)⟩) ?_
                exact ih30  (v110) (y30_2 + 1) I71a A71a B71a C71a M70 hR71a ⟨by omega, by omega⟩ ⟨by omega, by omega⟩ (show c_fr c_ts c_ta I A I71a A71a by exact (c_fr_trans hi30_0 f73)) (show 36 ≤ (I71a 200) ∧ (I71a 200) ≤ 419 ∧ 0 ≤ (I71a 202) ∧ (I71a 202) ≤ 24 by (repeat' apply And.intro) <;> first | assumption | omega) (show ∀ i, (A71a 5) i ≤ 24 by exact f75) (show 0 ≤ (y30_2 + 1) ∧ (y30_2 + 1) ≤ 1500 ∧ (I71a 773) = (y30_2 + 1) ∧ (I71a 65) = (I 65) by (repeat' apply And.intro) <;> first | assumption | omega) (show 1501 - (y30_2 + 1) < (fu30 : Int) by omega)
              · have h104 : ¬ ((I71a 775) = 0) := h104
                show w_W _ _ _ (82, [(0, .ref 12), (1, .int (Int32.ofInt (y30_1))), (2, .int (Int32.ofInt (y30_2)))], [], M70) _
                refine w_adv (n := 2) (F' := (84, [(0, .ref 12), (1, .int (Int32.ofInt (y30_1))), (2, .int (Int32.ofInt (y30_2)))], [.ref 12, .ref 12], M70)) rfl ?_
                refine w_gf (v := .int (Int32.ofInt ((I71a 773)))) hR71a rfl rfl rfl rfl ?_
                refine w_adv (n := 1) (F' := (88, [(0, .ref 12), (1, .int (Int32.ofInt (y30_1))), (2, .int (Int32.ofInt (y30_2)))], [.int (Int32.ofInt (1)), .int (Int32.ofInt ((I71a 773))), .ref 12], M70)) rfl ?_
                refine w_sub rfl ?_
                refine w_pf hR71a rfl rfl rfl rfl (show w_in ((I71a 773) - 1) from ⟨by omega, by omega⟩) (fun h => absurd h (by decide)) (fun M115 hR116 => ?_)
                replace hR116 : w_Rep w_TC fr X u l (w_up I71a 774 ((I71a 773) - 1)) A71a B71a C71a M115 := hR116
                refine w_fin (r := .inl none) (M' := M115) rfl ?_
                exact ⟨(w_up I71a 774 ((I71a 773) - 1)), A71a, B71a, C71a, rfl, hR116, (show c_fr c_ts c_ta I A (w_up I71a 774 ((I71a 773) - 1)) A71a by exact (c_fr_up (c_fr_trans hi30_0 f73) rfl)), (show 36 ≤ (I71a 200) ∧ (I71a 200) ≤ 419 ∧ 0 ≤ (I71a 202) ∧ (I71a 202) ≤ 24 by (repeat' apply And.intro) <;> first | assumption | omega), (show ∀ i, (A71a 5) i ≤ 24 by exact f75), (show 1 ≤ (I71a 773) ∧ (I71a 773) ≤ 1501 ∧ (I71a 65) = (I 65) by (repeat' apply And.intro) <;> first | assumption | omega)⟩
            · have h103 : ¬ ((I71a 773) ≤ 1500) := h103
              show w_W _ _ _ (70, [(0, .ref 12), (1, .int (Int32.ofInt (y30_1))), (2, .int (Int32.ofInt (y30_2)))], [], M70) _
              refine w_adv (n := 2) (F' := (72, [(0, .ref 12), (1, .int (Int32.ofInt (y30_1))), (2, .int (Int32.ofInt (y30_2)))], [.int (Int32.ofInt (5)), .ref 12], M70)) rfl ?_
              refine w_pf hR71a rfl rfl rfl rfl (show w_in (5) from ⟨by omega, by omega⟩) (fun h => absurd h (by decide)) (fun M117 hR118 => ?_)
              replace hR118 : w_Rep w_TC fr X u l (w_up I71a 775 (5)) A71a B71a C71a M117 := hR118
              refine w_adv (n := 1) (F' := (76, [(0, .ref 12), (1, .int (Int32.ofInt (y30_1))), (2, .int (Int32.ofInt (y30_2)))], [.ref 12], M117)) rfl ?_
              refine w_gf (v := .int (Int32.ofInt (5))) hR118 rfl rfl rfl rfl ?_
              refine w_adv (n := 3) (F' := (84, [(0, .ref 12), (1, .int (Int32.ofInt (y30_1))), (2, .int (Int32.ofInt (y30_2)))], [.ref 12, .ref 12], M117)) rfl ?_
              refine w_gf (v := .int (Int32.ofInt ((I71a 773)))) hR118 rfl rfl rfl rfl ?_
              refine w_adv (n := 1) (F' := (88, [(0, .ref 12), (1, .int (Int32.ofInt (y30_1))), (2, .int (Int32.ofInt (y30_2)))], [.int (Int32.ofInt (1)), .int (Int32.ofInt ((I71a 773))), .ref 12], M117)) rfl ?_
              refine w_sub rfl ?_
              refine w_pf hR118 rfl rfl rfl rfl (show w_in ((I71a 773) - 1) from ⟨by omega, by omega⟩) (fun h => absurd h (by decide)) (fun M119 hR120 => ?_)
              replace hR120 : w_Rep w_TC fr X u l (w_up (w_up I71a 775 (5)) 774 ((I71a 773) - 1)) A71a B71a C71a M119 := hR120
              refine w_fin (r := .inl none) (M' := M119) rfl ?_
              exact ⟨(w_up (w_up I71a 775 (5)) 774 ((I71a 773) - 1)), A71a, B71a, C71a, rfl, hR120, (show c_fr c_ts c_ta I A (w_up (w_up I71a 775 (5)) 774 ((I71a 773) - 1)) A71a by exact (c_fr_up (c_fr_up (c_fr_trans hi30_0 f73) rfl) rfl)), (show 36 ≤ (I71a 200) ∧ (I71a 200) ≤ 419 ∧ 0 ≤ (I71a 202) ∧ (I71a 202) ≤ 24 by (repeat' apply And.intro) <;> first | assumption | omega), (show ∀ i, (A71a 5) i ≤ 24 by exact f75), (show 1 ≤ (I71a 773) ∧ (I71a 773) ≤ 1501 ∧ (I71a 65) = (I 65) by (repeat' apply And.intro) <;> first | assumption | omega)⟩
  refine w_ls (ls := [(0, .ref 12), (1, .int (Int32.ofInt (v24))), (2, .int (Int32.ofInt (0)))]) (show List.Nodup [0, 1, 2] by decide) (show List.Nodup [2, 1, 0] by decide) (List.forall_mem_cons.mpr ⟨(List.Mem.tail _ (List.Mem.tail _ (List.Mem.head _))), (List.forall_mem_cons.mpr ⟨(List.Mem.tail _ (List.Mem.head _)), (List.forall_mem_cons.mpr ⟨(List.Mem.head _), (fun _ h => by cases h)⟩)⟩)⟩) ?_
  exact lp30 ((1501 - 0 : Int).toNat + 1)  (v24) (0) (w_up (w_up (w_up I3a 773 (0)) 775 (0)) 774 ((-1))) A3a B3a C3a M19 hR20 ⟨by omega, by omega⟩ ⟨by omega, by omega⟩ (show c_fr c_ts c_ta I A (w_up (w_up (w_up I3a 773 (0)) 775 (0)) 774 ((-1))) A3a by exact (c_fr_up (c_fr_up (c_fr_up f5 rfl) rfl) rfl)) (show 36 ≤ (I3a 200) ∧ (I3a 200) ≤ 419 ∧ 0 ≤ (I3a 202) ∧ (I3a 202) ≤ 24 by (repeat' apply And.intro) <;> first | assumption | omega) (show ∀ i, (A3a 5) i ≤ 24 by exact f7) (show 0 ≤ (0 : Int) ∧ (0 : Int) ≤ 1500 ∧ 0 = (0 : Int) ∧ (I3a 65) = (I 65) by (repeat' apply And.intro) <;> first | assumption | omega) (show 1501 - 0 < (((1501 - 0 : Int).toNat + 1 : Nat) : Int) by omega)
