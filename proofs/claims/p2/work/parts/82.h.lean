/-! TOKENS of the class: scan. -/
def c_scan_Q (fr : Nat → Bool) (X : Nat → Option (q_C (Nat → Int32))) (u l : Nat) (I : Nat → Int) (A : Nat → Int → Int) (B C : Nat → Nat) (M : w_M) : w_X → w_M → Prop := fun r M' => (∃ (I' : Nat → Int) (A' : Nat → Int → Int) (B' C' : Nat → Nat), (r = .inl none) ∧ (w_Rep w_TC fr X u l I' A' B' C' M') ∧ (c_fr c_ts c_ta I A I' A') ∧ (36 ≤ (I' 200) ∧ (I' 200) ≤ 419 ∧ 0 ≤ (I' 202) ∧ (I' 202) ≤ 24) ∧ (∀ i, (A' 5) i ≤ 24) ∧ (1 ≤ (I' 773) ∧ (I' 773) ≤ 1501 ∧ (I' 65) = (I 65)))
set_option maxHeartbeats 100000000 in
set_option maxRecDepth 100000 in
theorem c_scan {L : Nat} {xs : Nat → Int32} {d : Nat} {fr : Nat → Bool} {X : Nat → Option (q_C (Nat → Int32))} {u l : Nat} {I : Nat → Int} {A : Nat → Int → Int} {B C : Nat → Nat} {M : w_M} (hR : w_Rep w_TC fr X u l I A B C M) (hd : 8 ≤ d) (hNM : 36 ≤ (I 200) ∧ (I 200) ≤ 419 ∧ 0 ≤ (I 202) ∧ (I 202) ≤ 24) (hLN : ∀ i, (A 5) i ≤ 24) : w_W (z_P L xs) d 42 (0, [(0, .ref 12)], [], M) (c_scan_Q fr X u l I A B C M) := by
  obtain ⟨d, rfl⟩ : ∃ d0, d = d0 + 1 := ⟨d - 1, by omega⟩
  refine w_adv (n := 1) (F' := (1, [(0, .ref 12)], [.ref 12], M)) rfl ?_
  refine w_gf (v := .ref 3) hR rfl rfl rfl rfl ?_
  refine w_call (cm := 43) (as := [(0, .ref 3)]) (rest := []) (o := some (3, 3)) rfl (w_fitR hR rfl) (c_Names_reset hR (show 1 ≤ d by omega) (show 36 ≤ (I 200) ∧ (I 200) ≤ 419 ∧ 0 ≤ (I 202) ∧ (I 202) ≤ 24 by (repeat' apply And.intro) <;> first | assumption | omega) (show ∀ i, (A 5) i ≤ 24 by exact hLN)) (fun r1 M2 q3 => ?_)
  rcases q3 with ⟨I3a, A3a, B3a, C3a, e4, hR3a, f5, f6, f7⟩
  rw [e4]
  replace hR3a : w_Rep w_TC fr X u l I3a A3a B3a C3a M2 := hR3a
  replace f5 : c_fr c_ts c_ta I A I3a A3a := f5
  replace f6 : 36 ≤ (I3a 200) ∧ (I3a 200) ≤ 419 ∧ 0 ≤ (I3a 202) ∧ (I3a 202) ≤ 24 := f6
  obtain ⟨n8, n9, n10, n11⟩ := id f6
  clear f6
  replace f7 : ∀ i, (A3a 5) i ≤ 24 := f7
  show w_W _ _ _ (7, [(0, .ref 12)], [], M2) _
  refine w_adv (n := 2) (F' := (9, [(0, .ref 12)], [.int (Int32.ofInt (0)), .ref 12], M2)) rfl ?_
  refine w_pf hR3a rfl rfl rfl rfl (show w_in (0) from ⟨by omega, by omega⟩) (fun h => absurd h (by decide)) (fun M12 hR13 => ?_)
  replace hR13 : w_Rep w_TC fr X u l (w_up I3a 773 (0)) A3a B3a C3a M12 := hR13
  refine w_adv (n := 2) (F' := (14, [(0, .ref 12)], [.int (Int32.ofInt (0)), .ref 12], M12)) rfl ?_
  refine w_pf hR13 rfl rfl rfl rfl (show w_in (0) from ⟨by omega, by omega⟩) (fun h => absurd h (by decide)) (fun M14 hR15 => ?_)
  replace hR15 : w_Rep w_TC fr X u l (w_up (w_up I3a 773 (0)) 775 (0)) A3a B3a C3a M14 := hR15
  refine w_adv (n := 2) (F' := (19, [(0, .ref 12)], [.int (Int32.ofInt ((-1))), .ref 12], M14)) rfl ?_
  refine w_pf hR15 rfl rfl rfl rfl (show w_in ((-1)) from ⟨by omega, by omega⟩) (fun h => absurd h (by decide)) (fun M16 hR17 => ?_)
  replace hR17 : w_Rep w_TC fr X u l (w_up (w_up (w_up I3a 773 (0)) 775 (0)) 774 ((-1))) A3a B3a C3a M16 := hR17
  refine w_adv (n := 2) (F' := (24, [(0, .ref 12)], [.int (Int32.ofInt (0)), .ref 12], M16)) rfl ?_
  refine w_call (cm := 44) (as := [(0, .ref 12), (1, .int (Int32.ofInt (0)))]) (rest := []) (o := some (7, 12)) rfl (w_fitR hR17 rfl) (c_pastBlanks (0) hR17 (show 1 ≤ d by omega) ⟨by omega, by omega⟩) (fun r18 M19 q20 => ?_)
  rcases q20 with ⟨v21, e22, ⟨r23, r24⟩, e25⟩
  rw [e22, e25]
  show w_W _ _ _ (27, [(0, .ref 12)], [.int (Int32.ofInt (v21))], M16) _
  refine w_adv (n := 3) (F' := (30, [(2, .int (Int32.ofInt (0))), (1, .int (Int32.ofInt (v21))), (0, .ref 12)], [], M16)) rfl ?_
  have lp30 : ∀ fu30 : Nat, ∀ (y30_1 : Int) (y30_2 : Int) (I_30 : Nat → Int) (A_30 : Nat → Int → Int) (B_30 C_30 : Nat → Nat) (M_30 : w_M) (hR_30 : w_Rep w_TC fr X u l I_30 A_30 B_30 C_30 M_30), w_in y30_1 → w_in y30_2 → c_fr c_ts c_ta I A I_30 A_30 → 36 ≤ (I_30 200) ∧ (I_30 200) ≤ 419 ∧ 0 ≤ (I_30 202) ∧ (I_30 202) ≤ 24 → ∀ i, (A_30 5) i ≤ 24 → 0 ≤ y30_2 ∧ y30_2 ≤ 1500 ∧ (I_30 773) = y30_2 ∧ (I_30 65) = (I 65) → 1501 - y30_2 < (fu30 : Int) → w_W (z_P L xs) (d + 1) 42 (30, [(0, .ref 12), (1, .int (Int32.ofInt (y30_1))), (2, .int (Int32.ofInt (y30_2)))], [], M_30) (c_scan_Q fr X u l I A B C M) := by
    intro fu30
    induction fu30 with
    | zero =>
      intro y30_1 y30_2 I_30 A_30 B_30 C_30 M_30 hR_30 ⟨ra_y30_1, rb_y30_1⟩ ⟨ra_y30_2, rb_y30_2⟩ hi30_0 hi30_1 hi30_2 hi30_3 hn30
      exfalso
      omega
    | succ fu30 ih30 =>
      intro y30_1 y30_2 I_30 A_30 B_30 C_30 M_30 hR_30 ⟨ra_y30_1, rb_y30_1⟩ ⟨ra_y30_2, rb_y30_2⟩ hi30_0 hi30_1 hi30_2 hi30_3 hn30
      refine w_adv (n := 2) (F' := (34, [(0, .ref 12), (1, .int (Int32.ofInt (y30_1))), (2, .int (Int32.ofInt (y30_2)))], [.int (Int32.ofInt (1500)), .int (Int32.ofInt (y30_2))], M_30)) rfl ?_
      refine w_br2 (a := y30_2) (b := 1500) rfl rfl ⟨by omega, by omega⟩ ⟨by omega, by omega⟩ (fun h26 => ?_) (fun h26 => ?_)
      · have h26 : y30_2 > 1500 := h26
        show w_W _ _ _ (108, [(0, .ref 12), (1, .int (Int32.ofInt (y30_1))), (2, .int (Int32.ofInt (y30_2)))], [], M_30) _
        refine w_adv (n := 3) (F' := (111, [(0, .ref 12), (1, .int (Int32.ofInt (y30_1))), (2, .int (Int32.ofInt (y30_2)))], [.ref 12, .int (Int32.ofInt (0)), .ref 12], M_30)) rfl ?_
        refine w_gf (v := .ref 1) hR_30 rfl rfl rfl rfl ?_
        refine w_call (cm := 45) (as := [(0, .ref 1)]) (rest := [.int (Int32.ofInt (0)), .ref 12]) (o := some (6, 1)) rfl (w_fitR hR_30 rfl) (c_len hR_30) (fun r27 M28 q29 => ?_)
        rcases q29 with ⟨e30, e31, f32⟩
        rw [e30, e31]
        replace f32 : -2147483648 ≤ (I_30 65) ∧ (I_30 65) ≤ 2147483647 := f32
        obtain ⟨n33, n34⟩ := id f32
        clear f32
        show w_W _ _ _ (117, [(0, .ref 12), (1, .int (Int32.ofInt (y30_1))), (2, .int (Int32.ofInt (y30_2)))], [.int (Int32.ofInt ((I_30 65))), .int (Int32.ofInt (0)), .ref 12], M_30) _
        refine w_adv (n := 1) (F' := (118, [(0, .ref 12), (1, .int (Int32.ofInt (y30_1))), (2, .int (Int32.ofInt (y30_2)))], [.int (Int32.ofInt ((-1))), .int (Int32.ofInt ((I_30 65))), .int (Int32.ofInt (0)), .ref 12], M_30)) rfl ?_
        refine w_call (cm := 52) (as := [(0, .ref 12), (1, .int (Int32.ofInt (0))), (2, .int (Int32.ofInt ((I_30 65)))), (3, .int (Int32.ofInt ((-1))))]) (rest := []) (o := some (7, 12)) rfl (w_fitR hR_30 rfl) (c_Tokens_add (0) ((I_30 65)) ((-1)) hR_30 (show 1 ≤ d by omega) ⟨by omega, by omega⟩ ⟨by omega, by omega⟩ ⟨by omega, by omega⟩ (show 0 ≤ (I_30 773) ∧ (I_30 773) ≤ 1501 by first | assumption | omega)) (fun r35 M36 q37 => ?_)
        rcases q37 with ⟨g1338, g1439, g1540, e41, hR37a⟩
        rw [e41]
        replace hR37a : w_Rep w_TC fr X u l (w_up I_30 773 ((I_30 773) + 1)) (w_upF (w_upF (w_upF A_30 13 g1338) 14 g1439) 15 g1540) B_30 C_30 M36 := hR37a
        show w_W _ _ _ (121, [(0, .ref 12), (1, .int (Int32.ofInt (y30_1))), (2, .int (Int32.ofInt (y30_2)))], [], M36) _
        refine w_fin (r := .inl none) (M' := M36) rfl ?_
        exact ⟨(w_up I_30 773 ((I_30 773) + 1)), (w_upF (w_upF (w_upF A_30 13 g1338) 14 g1439) 15 g1540), B_30, C_30, rfl, hR37a, (show c_fr c_ts c_ta I A (w_up I_30 773 ((I_30 773) + 1)) (w_upF (w_upF (w_upF A_30 13 g1338) 14 g1439) 15 g1540) by exact (c_fr_upF (c_fr_upF (c_fr_upF (c_fr_up hi30_0 rfl) rfl) rfl) rfl)), (show 36 ≤ (I_30 200) ∧ (I_30 200) ≤ 419 ∧ 0 ≤ (I_30 202) ∧ (I_30 202) ≤ 24 by (repeat' apply And.intro) <;> first | assumption | omega), (show ∀ i, (A_30 5) i ≤ 24 by exact hi30_2), (show 1 ≤ (I_30 773) + 1 ∧ (I_30 773) + 1 ≤ 1501 ∧ (I_30 65) = (I 65) by (repeat' apply And.intro) <;> first | assumption | omega)⟩
      · have h26 : ¬ (y30_2 > 1500) := h26
        show w_W _ _ _ (37, [(0, .ref 12), (1, .int (Int32.ofInt (y30_1))), (2, .int (Int32.ofInt (y30_2)))], [], M_30) _
        refine w_adv (n := 2) (F' := (39, [(0, .ref 12), (1, .int (Int32.ofInt (y30_1))), (2, .int (Int32.ofInt (y30_2)))], [.ref 12, .int (Int32.ofInt (y30_1))], M_30)) rfl ?_
        refine w_gf (v := .ref 1) hR_30 rfl rfl rfl rfl ?_
        refine w_call (cm := 45) (as := [(0, .ref 1)]) (rest := [.int (Int32.ofInt (y30_1))]) (o := some (6, 1)) rfl (w_fitR hR_30 rfl) (c_len hR_30) (fun r42 M43 q44 => ?_)
        rcases q44 with ⟨e45, e46, f47⟩
        rw [e45, e46]
        replace f47 : -2147483648 ≤ (I_30 65) ∧ (I_30 65) ≤ 2147483647 := f47
        obtain ⟨n48, n49⟩ := id f47
        clear f47
        show w_W _ _ _ (45, [(0, .ref 12), (1, .int (Int32.ofInt (y30_1))), (2, .int (Int32.ofInt (y30_2)))], [.int (Int32.ofInt ((I_30 65))), .int (Int32.ofInt (y30_1))], M_30) _
        refine w_br2 (a := y30_1) (b := (I_30 65)) rfl rfl ⟨by omega, by omega⟩ ⟨by omega, by omega⟩ (fun h50 => ?_) (fun h50 => ?_)
        · have h50 : y30_1 ≥ (I_30 65) := h50
          show w_W _ _ _ (108, [(0, .ref 12), (1, .int (Int32.ofInt (y30_1))), (2, .int (Int32.ofInt (y30_2)))], [], M_30) _
          refine w_adv (n := 3) (F' := (111, [(0, .ref 12), (1, .int (Int32.ofInt (y30_1))), (2, .int (Int32.ofInt (y30_2)))], [.ref 12, .int (Int32.ofInt (0)), .ref 12], M_30)) rfl ?_
          refine w_gf (v := .ref 1) hR_30 rfl rfl rfl rfl ?_
          refine w_call (cm := 45) (as := [(0, .ref 1)]) (rest := [.int (Int32.ofInt (0)), .ref 12]) (o := some (6, 1)) rfl (w_fitR hR_30 rfl) (c_len hR_30) (fun r51 M52 q53 => ?_)
          rcases q53 with ⟨e54, e55, f56⟩
          rw [e54, e55]
          replace f56 : -2147483648 ≤ (I_30 65) ∧ (I_30 65) ≤ 2147483647 := f56
          obtain ⟨n57, n58⟩ := id f56
          clear f56
          show w_W _ _ _ (117, [(0, .ref 12), (1, .int (Int32.ofInt (y30_1))), (2, .int (Int32.ofInt (y30_2)))], [.int (Int32.ofInt ((I_30 65))), .int (Int32.ofInt (0)), .ref 12], M_30) _
          refine w_adv (n := 1) (F' := (118, [(0, .ref 12), (1, .int (Int32.ofInt (y30_1))), (2, .int (Int32.ofInt (y30_2)))], [.int (Int32.ofInt ((-1))), .int (Int32.ofInt ((I_30 65))), .int (Int32.ofInt (0)), .ref 12], M_30)) rfl ?_
          refine w_call (cm := 52) (as := [(0, .ref 12), (1, .int (Int32.ofInt (0))), (2, .int (Int32.ofInt ((I_30 65)))), (3, .int (Int32.ofInt ((-1))))]) (rest := []) (o := some (7, 12)) rfl (w_fitR hR_30 rfl) (c_Tokens_add (0) ((I_30 65)) ((-1)) hR_30 (show 1 ≤ d by omega) ⟨by omega, by omega⟩ ⟨by omega, by omega⟩ ⟨by omega, by omega⟩ (show 0 ≤ (I_30 773) ∧ (I_30 773) ≤ 1501 by first | assumption | omega)) (fun r59 M60 q61 => ?_)
          rcases q61 with ⟨g1362, g1463, g1564, e65, hR61a⟩
          rw [e65]
          replace hR61a : w_Rep w_TC fr X u l (w_up I_30 773 ((I_30 773) + 1)) (w_upF (w_upF (w_upF A_30 13 g1362) 14 g1463) 15 g1564) B_30 C_30 M60 := hR61a
          show w_W _ _ _ (121, [(0, .ref 12), (1, .int (Int32.ofInt (y30_1))), (2, .int (Int32.ofInt (y30_2)))], [], M60) _
          refine w_fin (r := .inl none) (M' := M60) rfl ?_
          exact ⟨(w_up I_30 773 ((I_30 773) + 1)), (w_upF (w_upF (w_upF A_30 13 g1362) 14 g1463) 15 g1564), B_30, C_30, rfl, hR61a, (show c_fr c_ts c_ta I A (w_up I_30 773 ((I_30 773) + 1)) (w_upF (w_upF (w_upF A_30 13 g1362) 14 g1463) 15 g1564) by exact (c_fr_upF (c_fr_upF (c_fr_upF (c_fr_up hi30_0 rfl) rfl) rfl) rfl)), (show 36 ≤ (I_30 200) ∧ (I_30 200) ≤ 419 ∧ 0 ≤ (I_30 202) ∧ (I_30 202) ≤ 24 by (repeat' apply And.intro) <;> first | assumption | omega), (show ∀ i, (A_30 5) i ≤ 24 by exact hi30_2), (show 1 ≤ (I_30 773) + 1 ∧ (I_30 773) + 1 ≤ 1501 ∧ (I_30 65) = (I 65) by (repeat' apply And.intro) <;> first | assumption | omega)⟩
        · have h50 : ¬ (y30_1 ≥ (I_30 65)) := h50
          show w_W _ _ _ (48, [(0, .ref 12), (1, .int (Int32.ofInt (y30_1))), (2, .int (Int32.ofInt (y30_2)))], [], M_30) _
          refine w_adv (n := 2) (F' := (50, [(0, .ref 12), (1, .int (Int32.ofInt (y30_1))), (2, .int (Int32.ofInt (y30_2)))], [.int (Int32.ofInt (y30_1)), .ref 12], M_30)) rfl ?_
          refine w_call (cm := 47) (as := [(0, .ref 12), (1, .int (Int32.ofInt (y30_1)))]) (rest := []) (o := some (7, 12)) rfl (w_fitR hR_30 rfl) (c_one (y30_1) hR_30 (show 7 ≤ d by omega) ⟨by omega, by omega⟩ (show 0 ≤ (I_30 773) ∧ (I_30 773) ≤ 1501 by first | assumption | omega) (show 36 ≤ (I_30 200) ∧ (I_30 200) ≤ 419 ∧ 0 ≤ (I_30 202) ∧ (I_30 202) ≤ 24 by (repeat' apply And.intro) <;> first | assumption | omega) (show ∀ i, (A_30 5) i ≤ 24 by exact hi30_2)) (fun r66 M67 q68 => ?_)
          rcases q68 with ⟨I68a, A68a, B68a, C68a, e69, hR68a, f70, f71, f72, f73⟩
          rw [e69]
          replace hR68a : w_Rep w_TC fr X u l I68a A68a B68a C68a M67 := hR68a
          replace f70 : c_fr c_ts c_ta I_30 A_30 I68a A68a := f70
          replace f71 : 36 ≤ (I68a 200) ∧ (I68a 200) ≤ 419 ∧ 0 ≤ (I68a 202) ∧ (I68a 202) ≤ 24 := f71
          obtain ⟨n74, n75, n76, n77⟩ := id f71
          clear f71
          replace f72 : ∀ i, (A68a 5) i ≤ 24 := f72
          replace f73 : (I68a 773) = (I_30 773) + 1 ∧ (I68a 65) = (I_30 65) := f73
          obtain ⟨n78, n79⟩ := id f73
          clear f73
          show w_W _ _ _ (53, [(0, .ref 12), (1, .int (Int32.ofInt (y30_1))), (2, .int (Int32.ofInt (y30_2)))], [], M67) _
          refine w_adv (n := 1) (F' := (54, [(0, .ref 12), (1, .int (Int32.ofInt (y30_1))), (2, .int (Int32.ofInt (y30_2)))], [.ref 12], M67)) rfl ?_
          refine w_gf (v := .int (Int32.ofInt ((I68a 775)))) hR68a rfl rfl rfl rfl ?_
          obtain ⟨r80, r81⟩ : -2147483648 ≤ (I68a 775) ∧ (I68a 775) ≤ 2147483647 := hR68a.ri 775
          refine w_br1 (a := (I68a 775)) rfl rfl ⟨by omega, by omega⟩ (fun h82 => ?_) (fun h82 => ?_)
          · have h82 : ¬ (I68a 775) = 0 := h82
            show w_W _ _ _ (75, [(0, .ref 12), (1, .int (Int32.ofInt (y30_1))), (2, .int (Int32.ofInt (y30_2)))], [], M67) _
            refine w_adv (n := 1) (F' := (76, [(0, .ref 12), (1, .int (Int32.ofInt (y30_1))), (2, .int (Int32.ofInt (y30_2)))], [.ref 12], M67)) rfl ?_
            refine w_gf (v := .int (Int32.ofInt ((I68a 775)))) hR68a rfl rfl rfl rfl ?_
            refine w_br1 (a := (I68a 775)) rfl rfl ⟨by omega, by omega⟩ (fun h83 => ?_) (fun h83 => ?_)
            · have h83 : (I68a 775) = 0 := h83
              show w_W _ _ _ (93, [(0, .ref 12), (1, .int (Int32.ofInt (y30_1))), (2, .int (Int32.ofInt (y30_2)))], [], M67) _
              refine w_adv (n := 2) (F' := (95, [(0, .ref 12), (1, .int (Int32.ofInt (y30_1))), (2, .int (Int32.ofInt (y30_2)))], [.ref 12, .ref 12], M67)) rfl ?_
              refine w_gf (v := .int (Int32.ofInt ((I68a 776)))) hR68a rfl rfl rfl rfl ?_
              obtain ⟨r84, r85⟩ : -2147483648 ≤ (I68a 776) ∧ (I68a 776) ≤ 2147483647 := hR68a.ri 776
              refine w_call (cm := 44) (as := [(0, .ref 12), (1, .int (Int32.ofInt ((I68a 776))))]) (rest := []) (o := some (7, 12)) rfl (w_fitR hR68a rfl) (c_pastBlanks ((I68a 776)) hR68a (show 1 ≤ d by omega) ⟨by omega, by omega⟩) (fun r86 M87 q88 => ?_)
              rcases q88 with ⟨v89, e90, ⟨r91, r92⟩, e93⟩
              rw [e90, e93]
              show w_W _ _ _ (101, [(0, .ref 12), (1, .int (Int32.ofInt (y30_1))), (2, .int (Int32.ofInt (y30_2)))], [.int (Int32.ofInt (v89))], M67) _
              refine w_adv (n := 1) (F' := (102, [(1, .int (Int32.ofInt (v89))), (0, .ref 12), (2, .int (Int32.ofInt (y30_2)))], [], M67)) rfl ?_
              refine w_inc (nL := 3) (a := y30_2) rfl rfl rfl (by decide) ?_
              refine w_adv (n := 1) (F' := (30, [(2, .int (Int32.ofInt (y30_2 + 1))), (1, .int (Int32.ofInt (v89))), (0, .ref 12)], [], M67)) rfl ?_
              refine w_ls (ls := [(0, .ref 12), (1, .int (Int32.ofInt (v89))), (2, .int (Int32.ofInt (y30_2 + 1)))]) (show List.Nodup [0, 1, 2] by decide) (show List.Nodup [2, 1, 0] by decide) (List.forall_mem_cons.mpr ⟨(List.Mem.tail _ (List.Mem.tail _ (List.Mem.head _))), (List.forall_mem_cons.mpr ⟨(List.Mem.tail _ (List.Mem.head _)), (List.forall_mem_cons.mpr ⟨(List.Mem.head _), (fun _ h => by cases h)⟩)⟩)⟩) ?_
              exact ih30  (v89) (y30_2 + 1) I68a A68a B68a C68a M67 hR68a ⟨by omega, by omega⟩ ⟨by omega, by omega⟩ (show c_fr c_ts c_ta I A I68a A68a by exact (c_fr_trans hi30_0 f70)) (show 36 ≤ (I68a 200) ∧ (I68a 200) ≤ 419 ∧ 0 ≤ (I68a 202) ∧ (I68a 202) ≤ 24 by (repeat' apply And.intro) <;> first | assumption | omega) (show ∀ i, (A68a 5) i ≤ 24 by exact f72) (show 0 ≤ (y30_2 + 1) ∧ (y30_2 + 1) ≤ 1500 ∧ (I68a 773) = (y30_2 + 1) ∧ (I68a 65) = (I 65) by (repeat' apply And.intro) <;> first | assumption | omega) (show 1501 - (y30_2 + 1) < (fu30 : Int) by omega)
            · have h83 : ¬ ((I68a 775) = 0) := h83
              show w_W _ _ _ (82, [(0, .ref 12), (1, .int (Int32.ofInt (y30_1))), (2, .int (Int32.ofInt (y30_2)))], [], M67) _
              refine w_adv (n := 2) (F' := (84, [(0, .ref 12), (1, .int (Int32.ofInt (y30_1))), (2, .int (Int32.ofInt (y30_2)))], [.ref 12, .ref 12], M67)) rfl ?_
              refine w_gf (v := .int (Int32.ofInt ((I68a 773)))) hR68a rfl rfl rfl rfl ?_
              obtain ⟨r94, r95⟩ : -2147483648 ≤ (I68a 773) ∧ (I68a 773) ≤ 2147483647 := hR68a.ri 773
              refine w_adv (n := 1) (F' := (88, [(0, .ref 12), (1, .int (Int32.ofInt (y30_1))), (2, .int (Int32.ofInt (y30_2)))], [.int (Int32.ofInt (1)), .int (Int32.ofInt ((I68a 773))), .ref 12], M67)) rfl ?_
              refine w_sub rfl ?_
              refine w_pf hR68a rfl rfl rfl rfl (show w_in ((I68a 773) - 1) from ⟨by omega, by omega⟩) (fun h => absurd h (by decide)) (fun M96 hR97 => ?_)
              replace hR97 : w_Rep w_TC fr X u l (w_up I68a 774 ((I68a 773) - 1)) A68a B68a C68a M96 := hR97
              refine w_fin (r := .inl none) (M' := M96) rfl ?_
              exact ⟨(w_up I68a 774 ((I68a 773) - 1)), A68a, B68a, C68a, rfl, hR97, (show c_fr c_ts c_ta I A (w_up I68a 774 ((I68a 773) - 1)) A68a by exact (c_fr_up (c_fr_trans hi30_0 f70) rfl)), (show 36 ≤ (I68a 200) ∧ (I68a 200) ≤ 419 ∧ 0 ≤ (I68a 202) ∧ (I68a 202) ≤ 24 by (repeat' apply And.intro) <;> first | assumption | omega), (show ∀ i, (A68a 5) i ≤ 24 by exact f72), (show 1 ≤ (I68a 773) ∧ (I68a 773) ≤ 1501 ∧ (I68a 65) = (I 65) by (repeat' apply And.intro) <;> first | assumption | omega)⟩
          · have h82 : ¬ (¬ (I68a 775) = 0) := h82
            show w_W _ _ _ (60, [(0, .ref 12), (1, .int (Int32.ofInt (y30_1))), (2, .int (Int32.ofInt (y30_2)))], [], M67) _
            refine w_adv (n := 1) (F' := (61, [(0, .ref 12), (1, .int (Int32.ofInt (y30_1))), (2, .int (Int32.ofInt (y30_2)))], [.ref 12], M67)) rfl ?_
            refine w_gf (v := .int (Int32.ofInt ((I68a 773)))) hR68a rfl rfl rfl rfl ?_
            obtain ⟨r98, r99⟩ : -2147483648 ≤ (I68a 773) ∧ (I68a 773) ≤ 2147483647 := hR68a.ri 773
            refine w_adv (n := 1) (F' := (67, [(0, .ref 12), (1, .int (Int32.ofInt (y30_1))), (2, .int (Int32.ofInt (y30_2)))], [.int (Int32.ofInt (1500)), .int (Int32.ofInt ((I68a 773)))], M67)) rfl ?_
            refine w_br2 (a := (I68a 773)) (b := 1500) rfl rfl ⟨by omega, by omega⟩ ⟨by omega, by omega⟩ (fun h100 => ?_) (fun h100 => ?_)
            · have h100 : (I68a 773) ≤ 1500 := h100
              show w_W _ _ _ (75, [(0, .ref 12), (1, .int (Int32.ofInt (y30_1))), (2, .int (Int32.ofInt (y30_2)))], [], M67) _
              refine w_adv (n := 1) (F' := (76, [(0, .ref 12), (1, .int (Int32.ofInt (y30_1))), (2, .int (Int32.ofInt (y30_2)))], [.ref 12], M67)) rfl ?_
              refine w_gf (v := .int (Int32.ofInt ((I68a 775)))) hR68a rfl rfl rfl rfl ?_
              refine w_br1 (a := (I68a 775)) rfl rfl ⟨by omega, by omega⟩ (fun h101 => ?_) (fun h101 => ?_)
              · have h101 : (I68a 775) = 0 := h101
                show w_W _ _ _ (93, [(0, .ref 12), (1, .int (Int32.ofInt (y30_1))), (2, .int (Int32.ofInt (y30_2)))], [], M67) _
                refine w_adv (n := 2) (F' := (95, [(0, .ref 12), (1, .int (Int32.ofInt (y30_1))), (2, .int (Int32.ofInt (y30_2)))], [.ref 12, .ref 12], M67)) rfl ?_
                refine w_gf (v := .int (Int32.ofInt ((I68a 776)))) hR68a rfl rfl rfl rfl ?_
                obtain ⟨r102, r103⟩ : -2147483648 ≤ (I68a 776) ∧ (I68a 776) ≤ 2147483647 := hR68a.ri 776
                refine w_call (cm := 44) (as := [(0, .ref 12), (1, .int (Int32.ofInt ((I68a 776))))]) (rest := []) (o := some (7, 12)) rfl (w_fitR hR68a rfl) (c_pastBlanks ((I68a 776)) hR68a (show 1 ≤ d by omega) ⟨by omega, by omega⟩) (fun r104 M105 q106 => ?_)
                rcases q106 with ⟨v107, e108, ⟨r109, r110⟩, e111⟩
                rw [e108, e111]
                show w_W _ _ _ (101, [(0, .ref 12), (1, .int (Int32.ofInt (y30_1))), (2, .int (Int32.ofInt (y30_2)))], [.int (Int32.ofInt (v107))], M67) _
                refine w_adv (n := 1) (F' := (102, [(1, .int (Int32.ofInt (v107))), (0, .ref 12), (2, .int (Int32.ofInt (y30_2)))], [], M67)) rfl ?_
                refine w_inc (nL := 3) (a := y30_2) rfl rfl rfl (by decide) ?_
                refine w_adv (n := 1) (F' := (30, [(2, .int (Int32.ofInt (y30_2 + 1))), (1, .int (Int32.ofInt (v107))), (0, .ref 12)], [], M67)) rfl ?_
                refine w_ls (ls := [(0, .ref 12), (1, .int (Int32.ofInt (v107))), (2, .int (Int32.ofInt (y30_2 + 1)))]) (show List.Nodup [0, 1, 2] by decide) (show List.Nodup [2, 1, 0] by decide) (List.forall_mem_cons.mpr ⟨(List.Mem.tail _ (List.Mem.tail _ (List.Mem.head _))), (List.forall_mem_cons.mpr ⟨(List.Mem.tail _ (List.Mem.head _)), (List.forall_mem_cons.mpr ⟨(List.Mem.head _), (fun _ h => by cases h)⟩)⟩)⟩) ?_
                exact ih30  (v107) (y30_2 + 1) I68a A68a B68a C68a M67 hR68a ⟨by omega, by omega⟩ ⟨by omega, by omega⟩ (show c_fr c_ts c_ta I A I68a A68a by exact (c_fr_trans hi30_0 f70)) (show 36 ≤ (I68a 200) ∧ (I68a 200) ≤ 419 ∧ 0 ≤ (I68a 202) ∧ (I68a 202) ≤ 24 by (repeat' apply And.intro) <;> first | assumption | omega) (show ∀ i, (A68a 5) i ≤ 24 by exact f72) (show 0 ≤ (y30_2 + 1) ∧ (y30_2 + 1) ≤ 1500 ∧ (I68a 773) = (y30_2 + 1) ∧ (I68a 65) = (I 65) by (repeat' apply And.intro) <;> first | assumption | omega) (show 1501 - (y30_2 + 1) < (fu30 : Int) by omega)
              · have h101 : ¬ ((I68a 775) = 0) := h101
                show w_W _ _ _ (82, [(0, .ref 12), (1, .int (Int32.ofInt (y30_1))), (2, .int (Int32.ofInt (y30_2)))], [], M67) _
                refine w_adv (n := 2) (F' := (84, [(0, .ref 12), (1, .int (Int32.ofInt (y30_1))), (2, .int (Int32.ofInt (y30_2)))], [.ref 12, .ref 12], M67)) rfl ?_
                refine w_gf (v := .int (Int32.ofInt ((I68a 773)))) hR68a rfl rfl rfl rfl ?_
                refine w_adv (n := 1) (F' := (88, [(0, .ref 12), (1, .int (Int32.ofInt (y30_1))), (2, .int (Int32.ofInt (y30_2)))], [.int (Int32.ofInt (1)), .int (Int32.ofInt ((I68a 773))), .ref 12], M67)) rfl ?_
                refine w_sub rfl ?_
                refine w_pf hR68a rfl rfl rfl rfl (show w_in ((I68a 773) - 1) from ⟨by omega, by omega⟩) (fun h => absurd h (by decide)) (fun M112 hR113 => ?_)
                replace hR113 : w_Rep w_TC fr X u l (w_up I68a 774 ((I68a 773) - 1)) A68a B68a C68a M112 := hR113
                refine w_fin (r := .inl none) (M' := M112) rfl ?_
                exact ⟨(w_up I68a 774 ((I68a 773) - 1)), A68a, B68a, C68a, rfl, hR113, (show c_fr c_ts c_ta I A (w_up I68a 774 ((I68a 773) - 1)) A68a by exact (c_fr_up (c_fr_trans hi30_0 f70) rfl)), (show 36 ≤ (I68a 200) ∧ (I68a 200) ≤ 419 ∧ 0 ≤ (I68a 202) ∧ (I68a 202) ≤ 24 by (repeat' apply And.intro) <;> first | assumption | omega), (show ∀ i, (A68a 5) i ≤ 24 by exact f72), (show 1 ≤ (I68a 773) ∧ (I68a 773) ≤ 1501 ∧ (I68a 65) = (I 65) by (repeat' apply And.intro) <;> first | assumption | omega)⟩
            · have h100 : ¬ ((I68a 773) ≤ 1500) := h100
              show w_W _ _ _ (70, [(0, .ref 12), (1, .int (Int32.ofInt (y30_1))), (2, .int (Int32.ofInt (y30_2)))], [], M67) _
              refine w_adv (n := 2) (F' := (72, [(0, .ref 12), (1, .int (Int32.ofInt (y30_1))), (2, .int (Int32.ofInt (y30_2)))], [.int (Int32.ofInt (5)), .ref 12], M67)) rfl ?_
              refine w_pf hR68a rfl rfl rfl rfl (show w_in (5) from ⟨by omega, by omega⟩) (fun h => absurd h (by decide)) (fun M114 hR115 => ?_)
              replace hR115 : w_Rep w_TC fr X u l (w_up I68a 775 (5)) A68a B68a C68a M114 := hR115
              refine w_adv (n := 1) (F' := (76, [(0, .ref 12), (1, .int (Int32.ofInt (y30_1))), (2, .int (Int32.ofInt (y30_2)))], [.ref 12], M114)) rfl ?_
              refine w_gf (v := .int (Int32.ofInt (5))) hR115 rfl rfl rfl rfl ?_
              refine w_adv (n := 3) (F' := (84, [(0, .ref 12), (1, .int (Int32.ofInt (y30_1))), (2, .int (Int32.ofInt (y30_2)))], [.ref 12, .ref 12], M114)) rfl ?_
              refine w_gf (v := .int (Int32.ofInt ((I68a 773)))) hR115 rfl rfl rfl rfl ?_
              refine w_adv (n := 1) (F' := (88, [(0, .ref 12), (1, .int (Int32.ofInt (y30_1))), (2, .int (Int32.ofInt (y30_2)))], [.int (Int32.ofInt (1)), .int (Int32.ofInt ((I68a 773))), .ref 12], M114)) rfl ?_
              refine w_sub rfl ?_
              refine w_pf hR115 rfl rfl rfl rfl (show w_in ((I68a 773) - 1) from ⟨by omega, by omega⟩) (fun h => absurd h (by decide)) (fun M116 hR117 => ?_)
              replace hR117 : w_Rep w_TC fr X u l (w_up (w_up I68a 775 (5)) 774 ((I68a 773) - 1)) A68a B68a C68a M116 := hR117
              refine w_fin (r := .inl none) (M' := M116) rfl ?_
              exact ⟨(w_up (w_up I68a 775 (5)) 774 ((I68a 773) - 1)), A68a, B68a, C68a, rfl, hR117, (show c_fr c_ts c_ta I A (w_up (w_up I68a 775 (5)) 774 ((I68a 773) - 1)) A68a by exact (c_fr_up (c_fr_up (c_fr_trans hi30_0 f70) rfl) rfl)), (show 36 ≤ (I68a 200) ∧ (I68a 200) ≤ 419 ∧ 0 ≤ (I68a 202) ∧ (I68a 202) ≤ 24 by (repeat' apply And.intro) <;> first | assumption | omega), (show ∀ i, (A68a 5) i ≤ 24 by exact f72), (show 1 ≤ (I68a 773) ∧ (I68a 773) ≤ 1501 ∧ (I68a 65) = (I 65) by (repeat' apply And.intro) <;> first | assumption | omega)⟩
  refine w_ls (ls := [(0, .ref 12), (1, .int (Int32.ofInt (v21))), (2, .int (Int32.ofInt (0)))]) (show List.Nodup [0, 1, 2] by decide) (show List.Nodup [2, 1, 0] by decide) (List.forall_mem_cons.mpr ⟨(List.Mem.tail _ (List.Mem.tail _ (List.Mem.head _))), (List.forall_mem_cons.mpr ⟨(List.Mem.tail _ (List.Mem.head _)), (List.forall_mem_cons.mpr ⟨(List.Mem.head _), (fun _ h => by cases h)⟩)⟩)⟩) ?_
  exact lp30 ((1501 - 0 : Int).toNat + 1)  (v21) (0) (w_up (w_up (w_up I3a 773 (0)) 775 (0)) 774 ((-1))) A3a B3a C3a M16 hR17 ⟨by omega, by omega⟩ ⟨by omega, by omega⟩ (show c_fr c_ts c_ta I A (w_up (w_up (w_up I3a 773 (0)) 775 (0)) 774 ((-1))) A3a by exact (c_fr_up (c_fr_up (c_fr_up f5 rfl) rfl) rfl)) (show 36 ≤ (I3a 200) ∧ (I3a 200) ≤ 419 ∧ 0 ≤ (I3a 202) ∧ (I3a 202) ≤ 24 by (repeat' apply And.intro) <;> first | assumption | omega) (show ∀ i, (A3a 5) i ≤ 24 by exact f7) (show 0 ≤ (0 : Int) ∧ (0 : Int) ≤ 1500 ∧ 0 = (0 : Int) ∧ (I3a 65) = (I 65) by (repeat' apply And.intro) <;> first | assumption | omega) (show 1501 - 0 < (((1501 - 0 : Int).toNat + 1 : Nat) : Int) by omega)
