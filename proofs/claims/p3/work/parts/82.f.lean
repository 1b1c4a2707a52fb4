/-! TOKENS of the class: integers, signs. -/
def c_integer_Q (fr : Nat → Bool) (X : Nat → Option (q_C (Nat → Int32))) (u l : Nat) (I : Nat → Int) (A : Nat → Int → Int) (B C : Nat → Nat) (M : w_M) (p : Int) : w_X → w_M → Prop := fun r M' => (∃ (I' : Nat → Int) (A' : Nat → Int → Int) (B' C' : Nat → Nat), (r = .inl none) ∧ (w_Rep w_TC fr X u l I' A' B' C' M') ∧ (c_fr c_ts c_ta I A I' A') ∧ (36 ≤ (I' 200) ∧ (I' 200) ≤ 419 ∧ 0 ≤ (I' 202) ∧ (I' 202) ≤ 24) ∧ (∀ i, (A' 5) i ≤ 24) ∧ ((I' 773) = (I 773) + 1 ∧ (I' 65) = (I 65)))
set_option maxHeartbeats 100000000 in
set_option maxRecDepth 100000 in
theorem c_integer {L : Nat} {xs : Nat → Int32} {d : Nat} {fr : Nat → Bool} {X : Nat → Option (q_C (Nat → Int32))} {u l : Nat} {I : Nat → Int} {A : Nat → Int → Int} {B C : Nat → Nat} {M : w_M} (p : Int) (hR : w_Rep w_TC fr X u l I A B C M) (hd : 3 ≤ d) (r_p : w_in p) (hT : 0 ≤ (I 773) ∧ (I 773) ≤ 1501) (hNM : 36 ≤ (I 200) ∧ (I 200) ≤ 419 ∧ 0 ≤ (I 202) ∧ (I 202) ≤ 24) (hLN : ∀ i, (A 5) i ≤ 24) : w_W (z_P L xs) d 55 (0, [(0, .ref 12), (1, .int (Int32.ofInt (p)))], [], M) (c_integer_Q fr X u l I A B C M p) := by
  obtain ⟨ra_p, rb_p⟩ := r_p
  obtain ⟨d, rfl⟩ : ∃ d0, d = d0 + 1 := ⟨d - 1, by omega⟩
  refine w_adv (n := 1) (F' := (1, [(0, .ref 12), (1, .int (Int32.ofInt (p)))], [.ref 12], M)) rfl ?_
  refine w_gf (v := .ref 1) hR rfl rfl rfl rfl ?_
  refine w_adv (n := 1) (F' := (5, [(0, .ref 12), (1, .int (Int32.ofInt (p)))], [.int (Int32.ofInt (p)), .ref 1], M)) rfl ?_
  refine w_call (cm := 46) (as := [(0, .ref 1), (1, .int (Int32.ofInt (p)))]) (rest := []) (o := some (6, 1)) rfl (w_fitR hR rfl) (c_byteAt (p) hR (show 1 ≤ d by omega) ⟨by omega, by omega⟩) (fun r1 M2 q3 => ?_)
  rcases q3 with ⟨v4, e5, ⟨r6, r7⟩, e8⟩
  rw [e5, e8]
  show w_W _ _ _ (8, [(0, .ref 12), (1, .int (Int32.ofInt (p)))], [.int (Int32.ofInt (v4))], M) _
  refine w_adv (n := 1) (F' := (10, [(0, .ref 12), (1, .int (Int32.ofInt (p)))], [.int (Int32.ofInt (126)), .int (Int32.ofInt (v4))], M)) rfl ?_
  refine w_br2 (a := v4) (b := 126) rfl rfl ⟨by omega, by omega⟩ ⟨by omega, by omega⟩ (fun h9 => ?_) (fun h9 => ?_)
  · have h9 : ¬ v4 = 126 := h9
    show w_W _ _ _ (17, [(0, .ref 12), (1, .int (Int32.ofInt (p)))], [], M) _
    refine w_adv (n := 10) (F' := (37, [(6, .int (Int32.ofInt (p))), (4, .long (0)), (3, .int (Int32.ofInt (p))), (2, .int (Int32.ofInt (0))), (0, .ref 12), (1, .int (Int32.ofInt (p)))], [], M)) rfl ?_
    have lp37 : ∀ fu37 : Nat, ∀ (y37_6 : Int) (g37_4 : Int64), w_in y37_6 → (if y37_6 < (I 65) then (I 65) - y37_6 else 0) < (fu37 : Int) → w_W (z_P L xs) (d + 1) 55 (37, [(0, .ref 12), (1, .int (Int32.ofInt (p))), (2, .int (Int32.ofInt (0))), (3, .int (Int32.ofInt (p))), (4, .long (g37_4)), (6, .int (Int32.ofInt (y37_6)))], [], M) (c_integer_Q fr X u l I A B C M p) := by
      intro fu37
      induction fu37 with
      | zero =>
        intro y37_6 g37_4 ⟨ra_y37_6, rb_y37_6⟩ hn37
        exfalso
        omega
      | succ fu37 ih37 =>
        intro y37_6 g37_4 ⟨ra_y37_6, rb_y37_6⟩ hn37
        refine w_adv (n := 2) (F' := (40, [(0, .ref 12), (1, .int (Int32.ofInt (p))), (2, .int (Int32.ofInt (0))), (3, .int (Int32.ofInt (p))), (4, .long (g37_4)), (6, .int (Int32.ofInt (y37_6)))], [.ref 12, .int (Int32.ofInt (y37_6))], M)) rfl ?_
        refine w_gf (v := .ref 1) hR rfl rfl rfl rfl ?_
        refine w_call (cm := 45) (as := [(0, .ref 1)]) (rest := [.int (Int32.ofInt (y37_6))]) (o := some (6, 1)) rfl (w_fitR hR rfl) (c_len hR) (fun r10 M11 q12 => ?_)
        rcases q12 with ⟨e13, e14, f15⟩
        rw [e13, e14]
        replace f15 : -2147483648 ≤ (I 65) ∧ (I 65) ≤ 2147483647 := f15
        obtain ⟨n16, n17⟩ := id f15
        clear f15
        show w_W _ _ _ (46, [(0, .ref 12), (1, .int (Int32.ofInt (p))), (2, .int (Int32.ofInt (0))), (3, .int (Int32.ofInt (p))), (4, .long (g37_4)), (6, .int (Int32.ofInt (y37_6)))], [.int (Int32.ofInt ((I 65))), .int (Int32.ofInt (y37_6))], M) _
        refine w_br2 (a := y37_6) (b := (I 65)) rfl rfl ⟨by omega, by omega⟩ ⟨by omega, by omega⟩ (fun h18 => ?_) (fun h18 => ?_)
        · have h18 : y37_6 ≥ (I 65) := h18
          show w_W _ _ _ (99, [(0, .ref 12), (1, .int (Int32.ofInt (p))), (2, .int (Int32.ofInt (0))), (3, .int (Int32.ofInt (p))), (4, .long (g37_4)), (6, .int (Int32.ofInt (y37_6)))], [], M) _
          refine w_adv (n := 2) (F' := (102, [(0, .ref 12), (1, .int (Int32.ofInt (p))), (2, .int (Int32.ofInt (0))), (3, .int (Int32.ofInt (p))), (4, .long (g37_4)), (6, .int (Int32.ofInt (y37_6)))], [.int (Int32.ofInt (y37_6)), .ref 12], M)) rfl ?_
          refine w_pf hR rfl rfl rfl rfl (show w_in (y37_6) from ⟨by omega, by omega⟩) (fun h => absurd h (by decide)) (fun M19 hR20 => ?_)
          replace hR20 : w_Rep w_TC fr X u l (w_up I 776 (y37_6)) A B C M19 := hR20
          refine w_adv (n := 6) (F' := (122, [(7, .long (g37_4)), (0, .ref 12), (1, .int (Int32.ofInt (p))), (2, .int (Int32.ofInt (0))), (3, .int (Int32.ofInt (p))), (4, .long (g37_4)), (6, .int (Int32.ofInt (y37_6)))], [.int (Int32.ofInt (p)), .int (Int32.ofInt (y37_6))], M19)) rfl ?_
          refine w_br2 (a := y37_6) (b := p) rfl rfl ⟨by omega, by omega⟩ ⟨by omega, by omega⟩ (fun h21 => ?_) (fun h21 => ?_)
          · have h21 : ¬ y37_6 = p := h21
            show w_W _ _ _ (133, [(7, .long (g37_4)), (0, .ref 12), (1, .int (Int32.ofInt (p))), (2, .int (Int32.ofInt (0))), (3, .int (Int32.ofInt (p))), (4, .long (g37_4)), (6, .int (Int32.ofInt (y37_6)))], [], M19) _
            refine w_adv (n := 1) (F' := (134, [(7, .long (g37_4)), (0, .ref 12), (1, .int (Int32.ofInt (p))), (2, .int (Int32.ofInt (0))), (3, .int (Int32.ofInt (p))), (4, .long (g37_4)), (6, .int (Int32.ofInt (y37_6)))], [.ref 12], M19)) rfl ?_
            refine w_gf (v := .ref 1) hR20 rfl rfl rfl rfl ?_
            refine w_adv (n := 1) (F' := (139, [(7, .long (g37_4)), (0, .ref 12), (1, .int (Int32.ofInt (p))), (2, .int (Int32.ofInt (0))), (3, .int (Int32.ofInt (p))), (4, .long (g37_4)), (6, .int (Int32.ofInt (y37_6)))], [.int (Int32.ofInt (y37_6)), .ref 1], M19)) rfl ?_
            refine w_call (cm := 46) (as := [(0, .ref 1), (1, .int (Int32.ofInt (y37_6)))]) (rest := []) (o := some (6, 1)) rfl (w_fitR hR20 rfl) (c_byteAt (y37_6) hR20 (show 1 ≤ d by omega) ⟨by omega, by omega⟩) (fun r22 M23 q24 => ?_)
            rcases q24 with ⟨v25, e26, ⟨r27, r28⟩, e29⟩
            rw [e26, e29]
            show w_W _ _ _ (142, [(7, .long (g37_4)), (0, .ref 12), (1, .int (Int32.ofInt (p))), (2, .int (Int32.ofInt (0))), (3, .int (Int32.ofInt (p))), (4, .long (g37_4)), (6, .int (Int32.ofInt (y37_6)))], [.int (Int32.ofInt (v25))], M19) _
            refine w_call (cm := 50) (as := [(0, .int (Int32.ofInt (v25)))]) (rest := []) (o := none) rfl (trivial) (c_isNamePart (v25) hR20 (show 1 ≤ d by omega) ⟨by omega, by omega⟩) (fun r30 M31 q32 => ?_)
            rcases q32 with ⟨e33, e34⟩ | ⟨e35, e36⟩
            · rw [e33, e34]
              show w_W _ _ _ (145, [(7, .long (g37_4)), (0, .ref 12), (1, .int (Int32.ofInt (p))), (2, .int (Int32.ofInt (0))), (3, .int (Int32.ofInt (p))), (4, .long (g37_4)), (6, .int (Int32.ofInt (y37_6)))], [.int (Int32.ofInt (1))], M19) _
              refine w_adv (n := 3) (F' := (150, [(7, .long (g37_4)), (0, .ref 12), (1, .int (Int32.ofInt (p))), (2, .int (Int32.ofInt (0))), (3, .int (Int32.ofInt (p))), (4, .long (g37_4)), (6, .int (Int32.ofInt (y37_6)))], [.int (Int32.ofInt (4)), .ref 12], M19)) rfl ?_
              refine w_pf hR20 rfl rfl rfl rfl (show w_in (4) from ⟨by omega, by omega⟩) (fun h => absurd h (by decide)) (fun M37 hR38 => ?_)
              replace hR38 : w_Rep w_TC fr X u l (w_up (w_up I 776 (y37_6)) 775 (4)) A B C M37 := hR38
              refine w_adv (n := 6) (F' := (185, [(7, .long (g37_4)), (0, .ref 12), (1, .int (Int32.ofInt (p))), (2, .int (Int32.ofInt (0))), (3, .int (Int32.ofInt (p))), (4, .long (g37_4)), (6, .int (Int32.ofInt (y37_6)))], [.int ((g37_4).toInt32), .int (Int32.ofInt (p)), .int (Int32.ofInt (4)), .ref 12], M37)) rfl ?_
              refine w_int (fun x39 r40 e41 => ?_)
              obtain ⟨r40a, r40b⟩ := r40
              refine w_call (cm := 52) (as := [(0, .ref 12), (1, .int (Int32.ofInt (4))), (2, .int (Int32.ofInt (p))), (3, .int (Int32.ofInt (x39)))]) (rest := []) (o := some (7, 12)) rfl (w_fitR hR38 rfl) (c_Tokens_add (4) (p) (x39) hR38 (show 1 ≤ d by omega) ⟨by omega, by omega⟩ ⟨by omega, by omega⟩ ⟨by omega, by omega⟩ (show 0 ≤ (I 773) ∧ (I 773) ≤ 1501 by first | assumption | omega)) (fun r42 M43 q44 => ?_)
              rcases q44 with ⟨g1345, g1446, g1547, e48, hR44a⟩
              rw [e48]
              replace hR44a : w_Rep w_TC fr X u l (w_up (w_up (w_up I 776 (y37_6)) 775 (4)) 773 ((I 773) + 1)) (w_upF (w_upF (w_upF A 13 g1345) 14 g1446) 15 g1547) B C M43 := hR44a
              show w_W _ _ _ (188, [(7, .long (g37_4)), (0, .ref 12), (1, .int (Int32.ofInt (p))), (2, .int (Int32.ofInt (0))), (3, .int (Int32.ofInt (p))), (4, .long (g37_4)), (6, .int (Int32.ofInt (y37_6)))], [], M43) _
              refine w_fin (r := .inl none) (M' := M43) rfl ?_
              exact ⟨(w_up (w_up (w_up I 776 (y37_6)) 775 (4)) 773 ((I 773) + 1)), (w_upF (w_upF (w_upF A 13 g1345) 14 g1446) 15 g1547), B, C, rfl, hR44a, (show c_fr c_ts c_ta I A (w_up (w_up (w_up I 776 (y37_6)) 775 (4)) 773 ((I 773) + 1)) (w_upF (w_upF (w_upF A 13 g1345) 14 g1446) 15 g1547) by exact (c_fr_upF (c_fr_upF (c_fr_upF (c_fr_up (c_fr_up (c_fr_up c_fr_refl rfl) rfl) rfl) rfl) rfl) rfl)), (show 36 ≤ (I 200) ∧ (I 200) ≤ 419 ∧ 0 ≤ (I 202) ∧ (I 202) ≤ 24 by (repeat' apply And.intro) <;> first | assumption | omega), (show ∀ i, (A 5) i ≤ 24 by exact hLN), (show (I 773) + 1 = (I 773) + 1 ∧ (I 65) = (I 65) by (repeat' apply And.intro) <;> first | assumption | omega)⟩
            · rw [e35, e36]
              show w_W _ _ _ (145, [(7, .long (g37_4)), (0, .ref 12), (1, .int (Int32.ofInt (p))), (2, .int (Int32.ofInt (0))), (3, .int (Int32.ofInt (p))), (4, .long (g37_4)), (6, .int (Int32.ofInt (y37_6)))], [.int (Int32.ofInt (0))], M19) _
              refine w_adv (n := 4) (F' := (162, [(7, .long (g37_4)), (0, .ref 12), (1, .int (Int32.ofInt (p))), (2, .int (Int32.ofInt (0))), (3, .int (Int32.ofInt (p))), (4, .long (g37_4)), (6, .int (Int32.ofInt (y37_6)))], [.int (lg_cmp (g37_4) ((-2147483648)))], M19)) rfl ?_
              refine w_int (fun x49 r50 e51 => ?_)
              obtain ⟨r50a, r50b⟩ := r50
              refine w_br1 (a := x49) rfl rfl ⟨by omega, by omega⟩ (fun h52 => ?_) (fun h52 => ?_)
              · have h52 : x49 < 0 := h52
                show w_W _ _ _ (174, [(7, .long (g37_4)), (0, .ref 12), (1, .int (Int32.ofInt (p))), (2, .int (Int32.ofInt (0))), (3, .int (Int32.ofInt (p))), (4, .long (g37_4)), (6, .int (Int32.ofInt (y37_6)))], [], M19) _
                refine w_adv (n := 2) (F' := (176, [(7, .long (g37_4)), (0, .ref 12), (1, .int (Int32.ofInt (p))), (2, .int (Int32.ofInt (0))), (3, .int (Int32.ofInt (p))), (4, .long (g37_4)), (6, .int (Int32.ofInt (y37_6)))], [.int (Int32.ofInt (3)), .ref 12], M19)) rfl ?_
                refine w_pf hR20 rfl rfl rfl rfl (show w_in (3) from ⟨by omega, by omega⟩) (fun h => absurd h (by decide)) (fun M53 hR54 => ?_)
                replace hR54 : w_Rep w_TC fr X u l (w_up (w_up I 776 (y37_6)) 775 (3)) A B C M53 := hR54
                refine w_adv (n := 5) (F' := (185, [(7, .long (g37_4)), (0, .ref 12), (1, .int (Int32.ofInt (p))), (2, .int (Int32.ofInt (0))), (3, .int (Int32.ofInt (p))), (4, .long (g37_4)), (6, .int (Int32.ofInt (y37_6)))], [.int ((g37_4).toInt32), .int (Int32.ofInt (p)), .int (Int32.ofInt (4)), .ref 12], M53)) rfl ?_
                refine w_int (fun x55 r56 e57 => ?_)
                obtain ⟨r56a, r56b⟩ := r56
                refine w_call (cm := 52) (as := [(0, .ref 12), (1, .int (Int32.ofInt (4))), (2, .int (Int32.ofInt (p))), (3, .int (Int32.ofInt (x55)))]) (rest := []) (o := some (7, 12)) rfl (w_fitR hR54 rfl) (c_Tokens_add (4) (p) (x55) hR54 (show 1 ≤ d by omega) ⟨by omega, by omega⟩ ⟨by omega, by omega⟩ ⟨by omega, by omega⟩ (show 0 ≤ (I 773) ∧ (I 773) ≤ 1501 by first | assumption | omega)) (fun r58 M59 q60 => ?_)
                rcases q60 with ⟨g1361, g1462, g1563, e64, hR60a⟩
                rw [e64]
                replace hR60a : w_Rep w_TC fr X u l (w_up (w_up (w_up I 776 (y37_6)) 775 (3)) 773 ((I 773) + 1)) (w_upF (w_upF (w_upF A 13 g1361) 14 g1462) 15 g1563) B C M59 := hR60a
                show w_W _ _ _ (188, [(7, .long (g37_4)), (0, .ref 12), (1, .int (Int32.ofInt (p))), (2, .int (Int32.ofInt (0))), (3, .int (Int32.ofInt (p))), (4, .long (g37_4)), (6, .int (Int32.ofInt (y37_6)))], [], M59) _
                refine w_fin (r := .inl none) (M' := M59) rfl ?_
                exact ⟨(w_up (w_up (w_up I 776 (y37_6)) 775 (3)) 773 ((I 773) + 1)), (w_upF (w_upF (w_upF A 13 g1361) 14 g1462) 15 g1563), B, C, rfl, hR60a, (show c_fr c_ts c_ta I A (w_up (w_up (w_up I 776 (y37_6)) 775 (3)) 773 ((I 773) + 1)) (w_upF (w_upF (w_upF A 13 g1361) 14 g1462) 15 g1563) by exact (c_fr_upF (c_fr_upF (c_fr_upF (c_fr_up (c_fr_up (c_fr_up c_fr_refl rfl) rfl) rfl) rfl) rfl) rfl)), (show 36 ≤ (I 200) ∧ (I 200) ≤ 419 ∧ 0 ≤ (I 202) ∧ (I 202) ≤ 24 by (repeat' apply And.intro) <;> first | assumption | omega), (show ∀ i, (A 5) i ≤ 24 by exact hLN), (show (I 773) + 1 = (I 773) + 1 ∧ (I 65) = (I 65) by (repeat' apply And.intro) <;> first | assumption | omega)⟩
              · have h52 : ¬ (x49 < 0) := h52
                show w_W _ _ _ (165, [(7, .long (g37_4)), (0, .ref 12), (1, .int (Int32.ofInt (p))), (2, .int (Int32.ofInt (0))), (3, .int (Int32.ofInt (p))), (4, .long (g37_4)), (6, .int (Int32.ofInt (y37_6)))], [], M19) _
                refine w_adv (n := 3) (F' := (171, [(7, .long (g37_4)), (0, .ref 12), (1, .int (Int32.ofInt (p))), (2, .int (Int32.ofInt (0))), (3, .int (Int32.ofInt (p))), (4, .long (g37_4)), (6, .int (Int32.ofInt (y37_6)))], [.int (lg_cmp (g37_4) (2147483647))], M19)) rfl ?_
                refine w_int (fun x65 r66 e67 => ?_)
                obtain ⟨r66a, r66b⟩ := r66
                refine w_br1 (a := x65) rfl rfl ⟨by omega, by omega⟩ (fun h68 => ?_) (fun h68 => ?_)
                · have h68 : x65 ≤ 0 := h68
                  show w_W _ _ _ (179, [(7, .long (g37_4)), (0, .ref 12), (1, .int (Int32.ofInt (p))), (2, .int (Int32.ofInt (0))), (3, .int (Int32.ofInt (p))), (4, .long (g37_4)), (6, .int (Int32.ofInt (y37_6)))], [], M19) _
                  refine w_adv (n := 5) (F' := (185, [(7, .long (g37_4)), (0, .ref 12), (1, .int (Int32.ofInt (p))), (2, .int (Int32.ofInt (0))), (3, .int (Int32.ofInt (p))), (4, .long (g37_4)), (6, .int (Int32.ofInt (y37_6)))], [.int ((g37_4).toInt32), .int (Int32.ofInt (p)), .int (Int32.ofInt (4)), .ref 12], M19)) rfl ?_
                  refine w_int (fun x69 r70 e71 => ?_)
                  obtain ⟨r70a, r70b⟩ := r70
                  refine w_call (cm := 52) (as := [(0, .ref 12), (1, .int (Int32.ofInt (4))), (2, .int (Int32.ofInt (p))), (3, .int (Int32.ofInt (x69)))]) (rest := []) (o := some (7, 12)) rfl (w_fitR hR20 rfl) (c_Tokens_add (4) (p) (x69) hR20 (show 1 ≤ d by omega) ⟨by omega, by omega⟩ ⟨by omega, by omega⟩ ⟨by omega, by omega⟩ (show 0 ≤ (I 773) ∧ (I 773) ≤ 1501 by first | assumption | omega)) (fun r72 M73 q74 => ?_)
                  rcases q74 with ⟨g1375, g1476, g1577, e78, hR74a⟩
                  rw [e78]
                  replace hR74a : w_Rep w_TC fr X u l (w_up (w_up I 776 (y37_6)) 773 ((I 773) + 1)) (w_upF (w_upF (w_upF A 13 g1375) 14 g1476) 15 g1577) B C M73 := hR74a
                  show w_W _ _ _ (188, [(7, .long (g37_4)), (0, .ref 12), (1, .int (Int32.ofInt (p))), (2, .int (Int32.ofInt (0))), (3, .int (Int32.ofInt (p))), (4, .long (g37_4)), (6, .int (Int32.ofInt (y37_6)))], [], M73) _
                  refine w_fin (r := .inl none) (M' := M73) rfl ?_
                  exact ⟨(w_up (w_up I 776 (y37_6)) 773 ((I 773) + 1)), (w_upF (w_upF (w_upF A 13 g1375) 14 g1476) 15 g1577), B, C, rfl, hR74a, (show c_fr c_ts c_ta I A (w_up (w_up I 776 (y37_6)) 773 ((I 773) + 1)) (w_upF (w_upF (w_upF A 13 g1375) 14 g1476) 15 g1577) by exact (c_fr_upF (c_fr_upF (c_fr_upF (c_fr_up (c_fr_up c_fr_refl rfl) rfl) rfl) rfl) rfl)), (show 36 ≤ (I 200) ∧ (I 200) ≤ 419 ∧ 0 ≤ (I 202) ∧ (I 202) ≤ 24 by (repeat' apply And.intro) <;> first | assumption | omega), (show ∀ i, (A 5) i ≤ 24 by exact hLN), (show (I 773) + 1 = (I 773) + 1 ∧ (I 65) = (I 65) by (repeat' apply And.intro) <;> first | assumption | omega)⟩
                · have h68 : ¬ (x65 ≤ 0) := h68
                  show w_W _ _ _ (174, [(7, .long (g37_4)), (0, .ref 12), (1, .int (Int32.ofInt (p))), (2, .int (Int32.ofInt (0))), (3, .int (Int32.ofInt (p))), (4, .long (g37_4)), (6, .int (Int32.ofInt (y37_6)))], [], M19) _
                  refine w_adv (n := 2) (F' := (176, [(7, .long (g37_4)), (0, .ref 12), (1, .int (Int32.ofInt (p))), (2, .int (Int32.ofInt (0))), (3, .int (Int32.ofInt (p))), (4, .long (g37_4)), (6, .int (Int32.ofInt (y37_6)))], [.int (Int32.ofInt (3)), .ref 12], M19)) rfl ?_
                  refine w_pf hR20 rfl rfl rfl rfl (show w_in (3) from ⟨by omega, by omega⟩) (fun h => absurd h (by decide)) (fun M79 hR80 => ?_)
                  replace hR80 : w_Rep w_TC fr X u l (w_up (w_up I 776 (y37_6)) 775 (3)) A B C M79 := hR80
                  refine w_adv (n := 5) (F' := (185, [(7, .long (g37_4)), (0, .ref 12), (1, .int (Int32.ofInt (p))), (2, .int (Int32.ofInt (0))), (3, .int (Int32.ofInt (p))), (4, .long (g37_4)), (6, .int (Int32.ofInt (y37_6)))], [.int ((g37_4).toInt32), .int (Int32.ofInt (p)), .int (Int32.ofInt (4)), .ref 12], M79)) rfl ?_
                  refine w_int (fun x81 r82 e83 => ?_)
                  obtain ⟨r82a, r82b⟩ := r82
                  refine w_call (cm := 52) (as := [(0, .ref 12), (1, .int (Int32.ofInt (4))), (2, .int (Int32.ofInt (p))), (3, .int (Int32.ofInt (x81)))]) (rest := []) (o := some (7, 12)) rfl (w_fitR hR80 rfl) (c_Tokens_add (4) (p) (x81) hR80 (show 1 ≤ d by omega) ⟨by omega, by omega⟩ ⟨by omega, by omega⟩ ⟨by omega, by omega⟩ (show 0 ≤ (I 773) ∧ (I 773) ≤ 1501 by first | assumption | omega)) (fun r84 M85 q86 => ?_)
                  rcases q86 with ⟨g1387, g1488, g1589, e90, hR86a⟩
                  rw [e90]
                  replace hR86a : w_Rep w_TC fr X u l (w_up (w_up (w_up I 776 (y37_6)) 775 (3)) 773 ((I 773) + 1)) (w_upF (w_upF (w_upF A 13 g1387) 14 g1488) 15 g1589) B C M85 := hR86a
                  show w_W _ _ _ (188, [(7, .long (g37_4)), (0, .ref 12), (1, .int (Int32.ofInt (p))), (2, .int (Int32.ofInt (0))), (3, .int (Int32.ofInt (p))), (4, .long (g37_4)), (6, .int (Int32.ofInt (y37_6)))], [], M85) _
                  refine w_fin (r := .inl none) (M' := M85) rfl ?_
                  exact ⟨(w_up (w_up (w_up I 776 (y37_6)) 775 (3)) 773 ((I 773) + 1)), (w_upF (w_upF (w_upF A 13 g1387) 14 g1488) 15 g1589), B, C, rfl, hR86a, (show c_fr c_ts c_ta I A (w_up (w_up (w_up I 776 (y37_6)) 775 (3)) 773 ((I 773) + 1)) (w_upF (w_upF (w_upF A 13 g1387) 14 g1488) 15 g1589) by exact (c_fr_upF (c_fr_upF (c_fr_upF (c_fr_up (c_fr_up (c_fr_up c_fr_refl rfl) rfl) rfl) rfl) rfl) rfl)), (show 36 ≤ (I 200) ∧ (I 200) ≤ 419 ∧ 0 ≤ (I 202) ∧ (I 202) ≤ 24 by (repeat' apply And.intro) <;> first | assumption | omega), (show ∀ i, (A 5) i ≤ 24 by exact hLN), (show (I 773) + 1 = (I 773) + 1 ∧ (I 65) = (I 65) by (repeat' apply And.intro) <;> first | assumption | omega)⟩
          · have h21 : ¬ (¬ y37_6 = p) := h21
            show w_W _ _ _ (125, [(7, .long (g37_4)), (0, .ref 12), (1, .int (Int32.ofInt (p))), (2, .int (Int32.ofInt (0))), (3, .int (Int32.ofInt (p))), (4, .long (g37_4)), (6, .int (Int32.ofInt (y37_6)))], [], M19) _
            refine w_adv (n := 2) (F' := (127, [(7, .long (g37_4)), (0, .ref 12), (1, .int (Int32.ofInt (p))), (2, .int (Int32.ofInt (0))), (3, .int (Int32.ofInt (p))), (4, .long (g37_4)), (6, .int (Int32.ofInt (y37_6)))], [.int (Int32.ofInt (1)), .ref 12], M19)) rfl ?_
            refine w_pf hR20 rfl rfl rfl rfl (show w_in (1) from ⟨by omega, by omega⟩) (fun h => absurd h (by decide)) (fun M91 hR92 => ?_)
            replace hR92 : w_Rep w_TC fr X u l (w_up (w_up I 776 (y37_6)) 775 (1)) A B C M91 := hR92
            refine w_adv (n := 6) (F' := (185, [(7, .long (g37_4)), (0, .ref 12), (1, .int (Int32.ofInt (p))), (2, .int (Int32.ofInt (0))), (3, .int (Int32.ofInt (p))), (4, .long (g37_4)), (6, .int (Int32.ofInt (y37_6)))], [.int ((g37_4).toInt32), .int (Int32.ofInt (p)), .int (Int32.ofInt (4)), .ref 12], M91)) rfl ?_
            refine w_int (fun x93 r94 e95 => ?_)
            obtain ⟨r94a, r94b⟩ := r94
            refine w_call (cm := 52) (as := [(0, .ref 12), (1, .int (Int32.ofInt (4))), (2, .int (Int32.ofInt (p))), (3, .int (Int32.ofInt (x93)))]) (rest := []) (o := some (7, 12)) rfl (w_fitR hR92 rfl) (c_Tokens_add (4) (p) (x93) hR92 (show 1 ≤ d by omega) ⟨by omega, by omega⟩ ⟨by omega, by omega⟩ ⟨by omega, by omega⟩ (show 0 ≤ (I 773) ∧ (I 773) ≤ 1501 by first | assumption | omega)) (fun r96 M97 q98 => ?_)
            rcases q98 with ⟨g1399, g14100, g15101, e102, hR98a⟩
            rw [e102]
            replace hR98a : w_Rep w_TC fr X u l (w_up (w_up (w_up I 776 (y37_6)) 775 (1)) 773 ((I 773) + 1)) (w_upF (w_upF (w_upF A 13 g1399) 14 g14100) 15 g15101) B C M97 := hR98a
            show w_W _ _ _ (188, [(7, .long (g37_4)), (0, .ref 12), (1, .int (Int32.ofInt (p))), (2, .int (Int32.ofInt (0))), (3, .int (Int32.ofInt (p))), (4, .long (g37_4)), (6, .int (Int32.ofInt (y37_6)))], [], M97) _
            refine w_fin (r := .inl none) (M' := M97) rfl ?_
            exact ⟨(w_up (w_up (w_up I 776 (y37_6)) 775 (1)) 773 ((I 773) + 1)), (w_upF (w_upF (w_upF A 13 g1399) 14 g14100) 15 g15101), B, C, rfl, hR98a, (show c_fr c_ts c_ta I A (w_up (w_up (w_up I 776 (y37_6)) 775 (1)) 773 ((I 773) + 1)) (w_upF (w_upF (w_upF A 13 g1399) 14 g14100) 15 g15101) by exact (c_fr_upF (c_fr_upF (c_fr_upF (c_fr_up (c_fr_up (c_fr_up c_fr_refl rfl) rfl) rfl) rfl) rfl) rfl)), (show 36 ≤ (I 200) ∧ (I 200) ≤ 419 ∧ 0 ≤ (I 202) ∧ (I 202) ≤ 24 by (repeat' apply And.intro) <;> first | assumption | omega), (show ∀ i, (A 5) i ≤ 24 by exact hLN), (show (I 773) + 1 = (I 773) + 1 ∧ (I 65) = (I 65) by (repeat' apply And.intro) <;> first | assumption | omega)⟩
        · have h18 : ¬ (y37_6 ≥ (I 65)) := h18
          show w_W _ _ _ (49, [(0, .ref 12), (1, .int (Int32.ofInt (p))), (2, .int (Int32.ofInt (0))), (3, .int (Int32.ofInt (p))), (4, .long (g37_4)), (6, .int (Int32.ofInt (y37_6)))], [], M) _
          refine w_adv (n := 1) (F' := (50, [(0, .ref 12), (1, .int (Int32.ofInt (p))), (2, .int (Int32.ofInt (0))), (3, .int (Int32.ofInt (p))), (4, .long (g37_4)), (6, .int (Int32.ofInt (y37_6)))], [.ref 12], M)) rfl ?_
          refine w_gf (v := .ref 1) hR rfl rfl rfl rfl ?_
          refine w_adv (n := 1) (F' := (55, [(0, .ref 12), (1, .int (Int32.ofInt (p))), (2, .int (Int32.ofInt (0))), (3, .int (Int32.ofInt (p))), (4, .long (g37_4)), (6, .int (Int32.ofInt (y37_6)))], [.int (Int32.ofInt (y37_6)), .ref 1], M)) rfl ?_
          refine w_call (cm := 46) (as := [(0, .ref 1), (1, .int (Int32.ofInt (y37_6)))]) (rest := []) (o := some (6, 1)) rfl (w_fitR hR rfl) (c_byteAt (y37_6) hR (show 1 ≤ d by omega) ⟨by omega, by omega⟩) (fun r103 M104 q105 => ?_)
          rcases q105 with ⟨v106, e107, ⟨r108, r109⟩, e110⟩
          rw [e107, e110]
          show w_W _ _ _ (58, [(0, .ref 12), (1, .int (Int32.ofInt (p))), (2, .int (Int32.ofInt (0))), (3, .int (Int32.ofInt (p))), (4, .long (g37_4)), (6, .int (Int32.ofInt (y37_6)))], [.int (Int32.ofInt (v106))], M) _
          refine w_call (cm := 51) (as := [(0, .int (Int32.ofInt (v106)))]) (rest := []) (o := none) rfl (trivial) (c_isDigit (v106) hR ⟨by omega, by omega⟩) (fun r111 M112 q113 => ?_)
          rcases q113 with ⟨e114, e115⟩ | ⟨e116, e117⟩
          · rw [e114, e115]
            show w_W _ _ _ (61, [(0, .ref 12), (1, .int (Int32.ofInt (p))), (2, .int (Int32.ofInt (0))), (3, .int (Int32.ofInt (p))), (4, .long (g37_4)), (6, .int (Int32.ofInt (y37_6)))], [.int (Int32.ofInt (1))], M) _
            refine w_adv (n := 6) (F' := (74, [(0, .ref 12), (1, .int (Int32.ofInt (p))), (2, .int (Int32.ofInt (0))), (3, .int (Int32.ofInt (p))), (4, .long (g37_4)), (6, .int (Int32.ofInt (y37_6)))], [.ref 12, .long ((g37_4) * (10)), .long (1099511627776)], M)) rfl ?_
            refine w_gf (v := .ref 1) hR rfl rfl rfl rfl ?_
            refine w_adv (n := 1) (F' := (79, [(0, .ref 12), (1, .int (Int32.ofInt (p))), (2, .int (Int32.ofInt (0))), (3, .int (Int32.ofInt (p))), (4, .long (g37_4)), (6, .int (Int32.ofInt (y37_6)))], [.int (Int32.ofInt (y37_6)), .ref 1, .long ((g37_4) * (10)), .long (1099511627776)], M)) rfl ?_
            refine w_call (cm := 46) (as := [(0, .ref 1), (1, .int (Int32.ofInt (y37_6)))]) (rest := [.long ((g37_4) * (10)), .long (1099511627776)]) (o := some (6, 1)) rfl (w_fitR hR rfl) (c_byteAt (y37_6) hR (show 1 ≤ d by omega) ⟨by omega, by omega⟩) (fun r118 M119 q120 => ?_)
            rcases q120 with ⟨v121, e122, ⟨r123, r124⟩, e125⟩
            rw [e122, e125]
            show w_W _ _ _ (82, [(0, .ref 12), (1, .int (Int32.ofInt (p))), (2, .int (Int32.ofInt (0))), (3, .int (Int32.ofInt (p))), (4, .long (g37_4)), (6, .int (Int32.ofInt (y37_6)))], [.int (Int32.ofInt (v121)), .long ((g37_4) * (10)), .long (1099511627776)], M) _
            refine w_adv (n := 4) (F' := (88, [(0, .ref 12), (1, .int (Int32.ofInt (p))), (2, .int (Int32.ofInt (0))), (3, .int (Int32.ofInt (p))), (4, .long (g37_4)), (6, .int (Int32.ofInt (y37_6)))], [.long ((((g37_4) * (10)) + ((Int32.ofInt (v121)).toInt64)) - (48)), .long (1099511627776)], M)) rfl ?_
            refine w_min rfl rfl rfl ?_
            refine w_adv (n := 1) (F' := (93, [(4, .long (if ((((g37_4) * (10)) + ((Int32.ofInt (v121)).toInt64)) - (48)) < (1099511627776) then ((((g37_4) * (10)) + ((Int32.ofInt (v121)).toInt64)) - (48)) else (1099511627776))), (0, .ref 12), (1, .int (Int32.ofInt (p))), (2, .int (Int32.ofInt (0))), (3, .int (Int32.ofInt (p))), (6, .int (Int32.ofInt (y37_6)))], [], M)) rfl ?_
            refine w_inc (nL := 9) (a := y37_6) rfl rfl rfl (by decide) ?_
            refine w_adv (n := 1) (F' := (37, [(6, .int (Int32.ofInt (y37_6 + 1))), (4, .long (if ((((g37_4) * (10)) + ((Int32.ofInt (v121)).toInt64)) - (48)) < (1099511627776) then ((((g37_4) * (10)) + ((Int32.ofInt (v121)).toInt64)) - (48)) else (1099511627776))), (0, .ref 12), (1, .int (Int32.ofInt (p))), (2, .int (Int32.ofInt (0))), (3, .int (Int32.ofInt (p)))], [], M)) rfl ?_
            refine w_ls (ls := [(0, .ref 12), (1, .int (Int32.ofInt (p))), (2, .int (Int32.ofInt (0))), (3, .int (Int32.ofInt (p))), (4, .long (if ((((g37_4) * (10)) + ((Int32.ofInt (v121)).toInt64)) - (48)) < (1099511627776) then ((((g37_4) * (10)) + ((Int32.ofInt (v121)).toInt64)) - (48)) else (1099511627776))), (6, .int (Int32.ofInt (y37_6 + 1)))]) (show List.Nodup [0, 1, 2, 3, 4, 6] by decide) (show List.Nodup [6, 4, 0, 1, 2, 3] by decide) (List.forall_mem_cons.mpr ⟨(List.Mem.tail _ (List.Mem.tail _ (List.Mem.head _))), (List.forall_mem_cons.mpr ⟨(List.Mem.tail _ (List.Mem.tail _ (List.Mem.tail _ (List.Mem.head _)))), (List.forall_mem_cons.mpr ⟨(List.Mem.tail _ (List.Mem.tail _ (List.Mem.tail _ (List.Mem.tail _ (List.Mem.head _))))), (List.forall_mem_cons.mpr ⟨(List.Mem.tail _ (List.Mem.tail _ (List.Mem.tail _ (List.Mem.tail _ (List.Mem.tail _ (List.Mem.head _)))))), (List.forall_mem_cons.mpr ⟨(List.Mem.tail _ (List.Mem.head _)), (List.forall_mem_cons.mpr ⟨(List.Mem.head _), (fun _ h => by cases h)⟩)⟩)⟩)⟩)⟩)⟩) ?_
            exact ih37  (y37_6 + 1) (if ((((g37_4) * (10)) + ((Int32.ofInt (v121)).toInt64)) - (48)) < (1099511627776) then ((((g37_4) * (10)) + ((Int32.ofInt (v121)).toInt64)) - (48)) else (1099511627776)) ⟨by omega, by omega⟩  (show (if (y37_6 + 1) < (I 65) then (I 65) - (y37_6 + 1) else 0) < (fu37 : Int) by omega)
          · rw [e116, e117]
            show w_W _ _ _ (61, [(0, .ref 12), (1, .int (Int32.ofInt (p))), (2, .int (Int32.ofInt (0))), (3, .int (Int32.ofInt (p))), (4, .long (g37_4)), (6, .int (Int32.ofInt (y37_6)))], [.int (Int32.ofInt (0))], M) _
            refine w_adv (n := 3) (F' := (102, [(0, .ref 12), (1, .int (Int32.ofInt (p))), (2, .int (Int32.ofInt (0))), (3, .int (Int32.ofInt (p))), (4, .long (g37_4)), (6, .int (Int32.ofInt (y37_6)))], [.int (Int32.ofInt (y37_6)), .ref 12], M)) rfl ?_
            refine w_pf hR rfl rfl rfl rfl (show w_in (y37_6) from ⟨by omega, by omega⟩) (fun h => absurd h (by decide)) (fun M126 hR127 => ?_)
            replace hR127 : w_Rep w_TC fr X u l (w_up I 776 (y37_6)) A B C M126 := hR127
            refine w_adv (n := 6) (F' := (122, [(7, .long (g37_4)), (0, .ref 12), (1, .int (Int32.ofInt (p))), (2, .int (Int32.ofInt (0))), (3, .int (Int32.ofInt (p))), (4, .long (g37_4)), (6, .int (Int32.ofInt (y37_6)))], [.int (Int32.ofInt (p)), .int (Int32.ofInt (y37_6))], M126)) rfl ?_
            refine w_br2 (a := y37_6) (b := p) rfl rfl ⟨by omega, by omega⟩ ⟨by omega, by omega⟩ (fun h128 => ?_) (fun h128 => ?_)
            · have h128 : ¬ y37_6 = p := h128
              show w_W _ _ _ (133, [(7, .long (g37_4)), (0, .ref 12), (1, .int (Int32.ofInt (p))), (2, .int (Int32.ofInt (0))), (3, .int (Int32.ofInt (p))), (4, .long (g37_4)), (6, .int (Int32.ofInt (y37_6)))], [], M126) _
              refine w_adv (n := 1) (F' := (134, [(7, .long (g37_4)), (0, .ref 12), (1, .int (Int32.ofInt (p))), (2, .int (Int32.ofInt (0))), (3, .int (Int32.ofInt (p))), (4, .long (g37_4)), (6, .int (Int32.ofInt (y37_6)))], [.ref 12], M126)) rfl ?_
              refine w_gf (v := .ref 1) hR127 rfl rfl rfl rfl ?_
              refine w_adv (n := 1) (F' := (139, [(7, .long (g37_4)), (0, .ref 12), (1, .int (Int32.ofInt (p))), (2, .int (Int32.ofInt (0))), (3, .int (Int32.ofInt (p))), (4, .long (g37_4)), (6, .int (Int32.ofInt (y37_6)))], [.int (Int32.ofInt (y37_6)), .ref 1], M126)) rfl ?_
              refine w_call (cm := 46) (as := [(0, .ref 1), (1, .int (Int32.ofInt (y37_6)))]) (rest := []) (o := some (6, 1)) rfl (w_fitR hR127 rfl) (c_byteAt (y37_6) hR127 (show 1 ≤ d by omega) ⟨by omega, by omega⟩) (fun r129 M130 q131 => ?_)
              rcases q131 with ⟨v132, e133, ⟨r134, r135⟩, e136⟩
              rw [e133, e136]
              show w_W _ _ _ (142, [(7, .long (g37_4)), (0, .ref 12), (1, .int (Int32.ofInt (p))), (2, .int (Int32.ofInt (0))), (3, .int (Int32.ofInt (p))), (4, .long (g37_4)), (6, .int (Int32.ofInt (y37_6)))], [.int (Int32.ofInt (v132))], M126) _
              refine w_call (cm := 50) (as := [(0, .int (Int32.ofInt (v132)))]) (rest := []) (o := none) rfl (trivial) (c_isNamePart (v132) hR127 (show 1 ≤ d by omega) ⟨by omega, by omega⟩) (fun r137 M138 q139 => ?_)
              rcases q139 with ⟨e140, e141⟩ | ⟨e142, e143⟩
              · rw [e140, e141]
                show w_W _ _ _ (145, [(7, .long (g37_4)), (0, .ref 12), (1, .int (Int32.ofInt (p))), (2, .int (Int32.ofInt (0))), (3, .int (Int32.ofInt (p))), (4, .long (g37_4)), (6, .int (Int32.ofInt (y37_6)))], [.int (Int32.ofInt (1))], M126) _
                refine w_adv (n := 3) (F' := (150, [(7, .long (g37_4)), (0, .ref 12), (1, .int (Int32.ofInt (p))), (2, .int (Int32.ofInt (0))), (3, .int (Int32.ofInt (p))), (4, .long (g37_4)), (6, .int (Int32.ofInt (y37_6)))], [.int (Int32.ofInt (4)), .ref 12], M126)) rfl ?_
                refine w_pf hR127 rfl rfl rfl rfl (show w_in (4) from ⟨by omega, by omega⟩) (fun h => absurd h (by decide)) (fun M144 hR145 => ?_)
                replace hR145 : w_Rep w_TC fr X u l (w_up (w_up I 776 (y37_6)) 775 (4)) A B C M144 := hR145
                refine w_adv (n := 6) (F' := (185, [(7, .long (g37_4)), (0, .ref 12), (1, .int (Int32.ofInt (p))), (2, .int (Int32.ofInt (0))), (3, .int (Int32.ofInt (p))), (4, .long (g37_4)), (6, .int (Int32.ofInt (y37_6)))], [.int ((g37_4).toInt32), .int (Int32.ofInt (p)), .int (Int32.ofInt (4)), .ref 12], M144)) rfl ?_
                refine w_int (fun x146 r147 e148 => ?_)
                obtain ⟨r147a, r147b⟩ := r147
                refine w_call (cm := 52) (as := [(0, .ref 12), (1, .int (Int32.ofInt (4))), (2, .int (Int32.ofInt (p))), (3, .int (Int32.ofInt (x146)))]) (rest := []) (o := some (7, 12)) rfl (w_fitR hR145 rfl) (c_Tokens_add (4) (p) (x146) hR145 (show 1 ≤ d by omega) ⟨by omega, by omega⟩ ⟨by omega, by omega⟩ ⟨by omega, by omega⟩ (show 0 ≤ (I 773) ∧ (I 773) ≤ 1501 by first | assumption | omega)) (fun r149 M150 q151 => ?_)
                rcases q151 with ⟨g13152, g14153, g15154, e155, hR151a⟩
                rw [e155]
                replace hR151a : w_Rep w_TC fr X u l (w_up (w_up (w_up I 776 (y37_6)) 775 (4)) 773 ((I 773) + 1)) (w_upF (w_upF (w_upF A 13 g13152) 14 g14153) 15 g15154) B C M150 := hR151a
                show w_W _ _ _ (188, [(7, .long (g37_4)), (0, .ref 12), (1, .int (Int32.ofInt (p))), (2, .int (Int32.ofInt (0))), (3, .int (Int32.ofInt (p))), (4, .long (g37_4)), (6, .int (Int32.ofInt (y37_6)))], [], M150) _
                refine w_fin (r := .inl none) (M' := M150) rfl ?_
                exact ⟨(w_up (w_up (w_up I 776 (y37_6)) 775 (4)) 773 ((I 773) + 1)), (w_upF (w_upF (w_upF A 13 g13152) 14 g14153) 15 g15154), B, C, rfl, hR151a, (show c_fr c_ts c_ta I A (w_up (w_up (w_up I 776 (y37_6)) 775 (4)) 773 ((I 773) + 1)) (w_upF (w_upF (w_upF A 13 g13152) 14 g14153) 15 g15154) by exact (c_fr_upF (c_fr_upF (c_fr_upF (c_fr_up (c_fr_up (c_fr_up c_fr_refl rfl) rfl) rfl) rfl) rfl) rfl)), (show 36 ≤ (I 200) ∧ (I 200) ≤ 419 ∧ 0 ≤ (I 202) ∧ (I 202) ≤ 24 by (repeat' apply And.intro) <;> first | assumption | omega), (show ∀ i, (A 5) i ≤ 24 by exact hLN), (show (I 773) + 1 = (I 773) + 1 ∧ (I 65) = (I 65) by (repeat' apply And.intro) <;> first | assumption | omega)⟩
              · rw [e142, e143]
                show w_W _ _ _ (145, [(7, .long (g37_4)), (0, .ref 12), (1, .int (Int32.ofInt (p))), (2, .int (Int32.ofInt (0))), (3, .int (Int32.ofInt (p))), (4, .long (g37_4)), (6, .int (Int32.ofInt (y37_6)))], [.int (Int32.ofInt (0))], M126) _
                refine w_adv (n := 4) (F' := (162, [(7, .long (g37_4)), (0, .ref 12), (1, .int (Int32.ofInt (p))), (2, .int (Int32.ofInt (0))), (3, .int (Int32.ofInt (p))), (4, .long (g37_4)), (6, .int (Int32.ofInt (y37_6)))], [.int (lg_cmp (g37_4) ((-2147483648)))], M126)) rfl ?_
                refine w_int (fun x156 r157 e158 => ?_)
                obtain ⟨r157a, r157b⟩ := r157
                refine w_br1 (a := x156) rfl rfl ⟨by omega, by omega⟩ (fun h159 => ?_) (fun h159 => ?_)
                · have h159 : x156 < 0 := h159
                  show w_W _ _ _ (174, [(7, .long (g37_4)), (0, .ref 12), (1, .int (Int32.ofInt (p))), (2, .int (Int32.ofInt (0))), (3, .int (Int32.ofInt (p))), (4, .long (g37_4)), (6, .int (Int32.ofInt (y37_6)))], [], M126) _
                  refine w_adv (n := 2) (F' := (176, [(7, .long (g37_4)), (0, .ref 12), (1, .int (Int32.ofInt (p))), (2, .int (Int32.ofInt (0))), (3, .int (Int32.ofInt (p))), (4, .long (g37_4)), (6, .int (Int32.ofInt (y37_6)))], [.int (Int32.ofInt (3)), .ref 12], M126)) rfl ?_
                  refine w_pf hR127 rfl rfl rfl rfl (show w_in (3) from ⟨by omega, by omega⟩) (fun h => absurd h (by decide)) (fun M160 hR161 => ?_)
                  replace hR161 : w_Rep w_TC fr X u l (w_up (w_up I 776 (y37_6)) 775 (3)) A B C M160 := hR161
                  refine w_adv (n := 5) (F' := (185, [(7, .long (g37_4)), (0, .ref 12), (1, .int (Int32.ofInt (p))), (2, .int (Int32.ofInt (0))), (3, .int (Int32.ofInt (p))), (4, .long (g37_4)), (6, .int (Int32.ofInt (y37_6)))], [.int ((g37_4).toInt32), .int (Int32.ofInt (p)), .int (Int32.ofInt (4)), .ref 12], M160)) rfl ?_
                  refine w_int (fun x162 r163 e164 => ?_)
                  obtain ⟨r163a, r163b⟩ := r163
                  refine w_call (cm := 52) (as := [(0, .ref 12), (1, .int (Int32.ofInt (4))), (2, .int (Int32.ofInt (p))), (3, .int (Int32.ofInt (x162)))]) (rest := []) (o := some (7, 12)) rfl (w_fitR hR161 rfl) (c_Tokens_add (4) (p) (x162) hR161 (show 1 ≤ d by omega) ⟨by omega, by omega⟩ ⟨by omega, by omega⟩ ⟨by omega, by omega⟩ (show 0 ≤ (I 773) ∧ (I 773) ≤ 1501 by first | assumption | omega)) (fun r165 M166 q167 => ?_)
                  rcases q167 with ⟨g13168, g14169, g15170, e171, hR167a⟩
                  rw [e171]
                  replace hR167a : w_Rep w_TC fr X u l (w_up (w_up (w_up I 776 (y37_6)) 775 (3)) 773 ((I 773) + 1)) (w_upF (w_upF (w_upF A 13 g13168) 14 g14169) 15 g15170) B C M166 := hR167a
                  show w_W _ _ _ (188, [(7, .long (g37_4)), (0, .ref 12), (1, .int (Int32.ofInt (p))), (2, .int (Int32.ofInt (0))), (3, .int (Int32.ofInt (p))), (4, .long (g37_4)), (6, .int (Int32.ofInt (y37_6)))], [], M166) _
                  refine w_fin (r := .inl none) (M' := M166) rfl ?_
                  exact ⟨(w_up (w_up (w_up I 776 (y37_6)) 775 (3)) 773 ((I 773) + 1)), (w_upF (w_upF (w_upF A 13 g13168) 14 g14169) 15 g15170), B, C, rfl, hR167a, (show c_fr c_ts c_ta I A (w_up (w_up (w_up I 776 (y37_6)) 775 (3)) 773 ((I 773) + 1)) (w_upF (w_upF (w_upF A 13 g13168) 14 g14169) 15 g15170) by exact (c_fr_upF (c_fr_upF (c_fr_upF (c_fr_up (c_fr_up (c_fr_up c_fr_refl rfl) rfl) rfl) rfl) rfl) rfl)), (show 36 ≤ (I 200) ∧ (I 200) ≤ 419 ∧ 0 ≤ (I 202) ∧ (I 202) ≤ 24 by (repeat' apply And.intro) <;> first | assumption | omega), (show ∀ i, (A 5) i ≤ 24 by exact hLN), (show (I 773) + 1 = (I 773) + 1 ∧ (I 65) = (I 65) by (repeat' apply And.intro) <;> first | assumption | omega)⟩
                · have h159 : ¬ (x156 < 0) := h159
                  show w_W _ _ _ (165, [(7, .long (g37_4)), (0, .ref 12), (1, .int (Int32.ofInt (p))), (2, .int (Int32.ofInt (0))), (3, .int (Int32.ofInt (p))), (4, .long (g37_4)), (6, .int (Int32.ofInt (y37_6)))], [], M126) _
                  refine w_adv (n := 3) (F' := (171, [(7, .long (g37_4)), (0, .ref 12), (1, .int (Int32.ofInt (p))), (2, .int (Int32.ofInt (0))), (3, .int (Int32.ofInt (p))), (4, .long (g37_4)), (6, .int (Int32.ofInt (y37_6)))], [.int (lg_cmp (g37_4) (2147483647))], M126)) rfl ?_
                  refine w_int (fun x172 r173 e174 => ?_)
                  obtain ⟨r173a, r173b⟩ := r173
                  refine w_br1 (a := x172) rfl rfl ⟨by omega, by omega⟩ (fun h175 => ?_) (fun h175 => ?_)
                  · have h175 : x172 ≤ 0 := h175
                    show w_W _ _ _ (179, [(7, .long (g37_4)), (0, .ref 12), (1, .int (Int32.ofInt (p))), (2, .int (Int32.ofInt (0))), (3, .int (Int32.ofInt (p))), (4, .long (g37_4)), (6, .int (Int32.ofInt (y37_6)))], [], M126) _
                    refine w_adv (n := 5) (F' := (185, [(7, .long (g37_4)), (0, .ref 12), (1, .int (Int32.ofInt (p))), (2, .int (Int32.ofInt (0))), (3, .int (Int32.ofInt (p))), (4, .long (g37_4)), (6, .int (Int32.ofInt (y37_6)))], [.int ((g37_4).toInt32), .int (Int32.ofInt (p)), .int (Int32.ofInt (4)), .ref 12], M126)) rfl ?_
                    refine w_int (fun x176 r177 e178 => ?_)
                    obtain ⟨r177a, r177b⟩ := r177
                    refine w_call (cm := 52) (as := [(0, .ref 12), (1, .int (Int32.ofInt (4))), (2, .int (Int32.ofInt (p))), (3, .int (Int32.ofInt (x176)))]) (rest := []) (o := some (7, 12)) rfl (w_fitR hR127 rfl) (c_Tokens_add (4) (p) (x176) hR127 (show 1 ≤ d by omega) ⟨by omega, by omega⟩ ⟨by omega, by omega⟩ ⟨by omega, by omega⟩ (show 0 ≤ (I 773) ∧ (I 773) ≤ 1501 by first | assumption | omega)) (fun r179 M180 q181 => ?_)
                    rcases q181 with ⟨g13182, g14183, g15184, e185, hR181a⟩
                    rw [e185]
                    replace hR181a : w_Rep w_TC fr X u l (w_up (w_up I 776 (y37_6)) 773 ((I 773) + 1)) (w_upF (w_upF (w_upF A 13 g13182) 14 g14183) 15 g15184) B C M180 := hR181a
                    show w_W _ _ _ (188, [(7, .long (g37_4)), (0, .ref 12), (1, .int (Int32.ofInt (p))), (2, .int (Int32.ofInt (0))), (3, .int (Int32.ofInt (p))), (4, .long (g37_4)), (6, .int (Int32.ofInt (y37_6)))], [], M180) _
                    refine w_fin (r := .inl none) (M' := M180) rfl ?_
                    exact ⟨(w_up (w_up I 776 (y37_6)) 773 ((I 773) + 1)), (w_upF (w_upF (w_upF A 13 g13182) 14 g14183) 15 g15184), B, C, rfl, hR181a, (show c_fr c_ts c_ta I A (w_up (w_up I 776 (y37_6)) 773 ((I 773) + 1)) (w_upF (w_upF (w_upF A 13 g13182) 14 g14183) 15 g15184) by exact (c_fr_upF (c_fr_upF (c_fr_upF (c_fr_up (c_fr_up c_fr_refl rfl) rfl) rfl) rfl) rfl)), (show 36 ≤ (I 200) ∧ (I 200) ≤ 419 ∧ 0 ≤ (I 202) ∧ (I 202) ≤ 24 by (repeat' apply And.intro) <;> first | assumption | omega), (show ∀ i, (A 5) i ≤ 24 by exact hLN), (show (I 773) + 1 = (I 773) + 1 ∧ (I 65) = (I 65) by (repeat' apply And.intro) <;> first | assumption | omega)⟩
                  · have h175 : ¬ (x172 ≤ 0) := h175
                    show w_W _ _ _ (174, [(7, .long (g37_4)), (0, .ref 12), (1, .int (Int32.ofInt (p))), (2, .int (Int32.ofInt (0))), (3, .int (Int32.ofInt (p))), (4, .long (g37_4)), (6, .int (Int32.ofInt (y37_6)))], [], M126) _
                    refine w_adv (n := 2) (F' := (176, [(7, .long (g37_4)), (0, .ref 12), (1, .int (Int32.ofInt (p))), (2, .int (Int32.ofInt (0))), (3, .int (Int32.ofInt (p))), (4, .long (g37_4)), (6, .int (Int32.ofInt (y37_6)))], [.int (Int32.ofInt (3)), .ref 12], M126)) rfl ?_
                    refine w_pf hR127 rfl rfl rfl rfl (show w_in (3) from ⟨by omega, by omega⟩) (fun h => absurd h (by decide)) (fun M186 hR187 => ?_)
                    replace hR187 : w_Rep w_TC fr X u l (w_up (w_up I 776 (y37_6)) 775 (3)) A B C M186 := hR187
                    refine w_adv (n := 5) (F' := (185, [(7, .long (g37_4)), (0, .ref 12), (1, .int (Int32.ofInt (p))), (2, .int (Int32.ofInt (0))), (3, .int (Int32.ofInt (p))), (4, .long (g37_4)), (6, .int (Int32.ofInt (y37_6)))], [.int ((g37_4).toInt32), .int (Int32.ofInt (p)), .int (Int32.ofInt (4)), .ref 12], M186)) rfl ?_
                    refine w_int (fun x188 r189 e190 => ?_)
                    obtain ⟨r189a, r189b⟩ := r189
                    refine w_call (cm := 52) (as := [(0, .ref 12), (1, .int (Int32.ofInt (4))), (2, .int (Int32.ofInt (p))), (3, .int (Int32.ofInt (x188)))]) (rest := []) (o := some (7, 12)) rfl (w_fitR hR187 rfl) (c_Tokens_add (4) (p) (x188) hR187 (show 1 ≤ d by omega) ⟨by omega, by omega⟩ ⟨by omega, by omega⟩ ⟨by omega, by omega⟩ (show 0 ≤ (I 773) ∧ (I 773) ≤ 1501 by first | assumption | omega)) (fun r191 M192 q193 => ?_)
                    rcases q193 with ⟨g13194, g14195, g15196, e197, hR193a⟩
                    rw [e197]
                    replace hR193a : w_Rep w_TC fr X u l (w_up (w_up (w_up I 776 (y37_6)) 775 (3)) 773 ((I 773) + 1)) (w_upF (w_upF (w_upF A 13 g13194) 14 g14195) 15 g15196) B C M192 := hR193a
                    show w_W _ _ _ (188, [(7, .long (g37_4)), (0, .ref 12), (1, .int (Int32.ofInt (p))), (2, .int (Int32.ofInt (0))), (3, .int (Int32.ofInt (p))), (4, .long (g37_4)), (6, .int (Int32.ofInt (y37_6)))], [], M192) _
                    refine w_fin (r := .inl none) (M' := M192) rfl ?_
                    exact ⟨(w_up (w_up (w_up I 776 (y37_6)) 775 (3)) 773 ((I 773) + 1)), (w_upF (w_upF (w_upF A 13 g13194) 14 g14195) 15 g15196), B, C, rfl, hR193a, (show c_fr c_ts c_ta I A (w_up (w_up (w_up I 776 (y37_6)) 775 (3)) 773 ((I 773) + 1)) (w_upF (w_upF (w_upF A 13 g13194) 14 g14195) 15 g15196) by exact (c_fr_upF (c_fr_upF (c_fr_upF (c_fr_up (c_fr_up (c_fr_up c_fr_refl rfl) rfl) rfl) rfl) rfl) rfl)), (show 36 ≤ (I 200) ∧ (I 200) ≤ 419 ∧ 0 ≤ (I 202) ∧ (I 202) ≤ 24 by (repeat' apply And.intro) <;> first | assumption | omega), (show ∀ i, (A 5) i ≤ 24 by exact hLN), (show (I 773) + 1 = (I 773) + 1 ∧ (I 65) = (I 65) by (repeat' apply And.intro) <;> first | assumption | omega)⟩
            · have h128 : ¬ (¬ y37_6 = p) := h128
              show w_W _ _ _ (125, [(7, .long (g37_4)), (0, .ref 12), (1, .int (Int32.ofInt (p))), (2, .int (Int32.ofInt (0))), (3, .int (Int32.ofInt (p))), (4, .long (g37_4)), (6, .int (Int32.ofInt (y37_6)))], [], M126) _
              refine w_adv (n := 2) (F' := (127, [(7, .long (g37_4)), (0, .ref 12), (1, .int (Int32.ofInt (p))), (2, .int (Int32.ofInt (0))), (3, .int (Int32.ofInt (p))), (4, .long (g37_4)), (6, .int (Int32.ofInt (y37_6)))], [.int (Int32.ofInt (1)), .ref 12], M126)) rfl ?_
              refine w_pf hR127 rfl rfl rfl rfl (show w_in (1) from ⟨by omega, by omega⟩) (fun h => absurd h (by decide)) (fun M198 hR199 => ?_)
              replace hR199 : w_Rep w_TC fr X u l (w_up (w_up I 776 (y37_6)) 775 (1)) A B C M198 := hR199
              refine w_adv (n := 6) (F' := (185, [(7, .long (g37_4)), (0, .ref 12), (1, .int (Int32.ofInt (p))), (2, .int (Int32.ofInt (0))), (3, .int (Int32.ofInt (p))), (4, .long (g37_4)), (6, .int (Int32.ofInt (y37_6)))], [.int ((g37_4).toInt32), .int (Int32.ofInt (p)), .int (Int32.ofInt (4)), .ref 12], M198)) rfl ?_
              refine w_int (fun x200 r201 e202 => ?_)
              obtain ⟨r201a, r201b⟩ := r201
              refine w_call (cm := 52) (as := [(0, .ref 12), (1, .int (Int32.ofInt (4))), (2, .int (Int32.ofInt (p))), (3, .int (Int32.ofInt (x200)))]) (rest := []) (o := some (7, 12)) rfl (w_fitR hR199 rfl) (c_Tokens_add (4) (p) (x200) hR199 (show 1 ≤ d by omega) ⟨by omega, by omega⟩ ⟨by omega, by omega⟩ ⟨by omega, by omega⟩ (show 0 ≤ (I 773) ∧ (I 773) ≤ 1501 by first | assumption | omega)) (fun r203 M204 q205 => ?_)
              rcases q205 with ⟨g13206, g14207, g15208, e209, hR205a⟩
              rw [e209]
              replace hR205a : w_Rep w_TC fr X u l (w_up (w_up (w_up I 776 (y37_6)) 775 (1)) 773 ((I 773) + 1)) (w_upF (w_upF (w_upF A 13 g13206) 14 g14207) 15 g15208) B C M204 := hR205a
              show w_W _ _ _ (188, [(7, .long (g37_4)), (0, .ref 12), (1, .int (Int32.ofInt (p))), (2, .int (Int32.ofInt (0))), (3, .int (Int32.ofInt (p))), (4, .long (g37_4)), (6, .int (Int32.ofInt (y37_6)))], [], M204) _
              refine w_fin (r := .inl none) (M' := M204) rfl ?_
              exact ⟨(w_up (w_up (w_up I 776 (y37_6)) 775 (1)) 773 ((I 773) + 1)), (w_upF (w_upF (w_upF A 13 g13206) 14 g14207) 15 g15208), B, C, rfl, hR205a, (show c_fr c_ts c_ta I A (w_up (w_up (w_up I 776 (y37_6)) 775 (1)) 773 ((I 773) + 1)) (w_upF (w_upF (w_upF A 13 g13206) 14 g14207) 15 g15208) by exact (c_fr_upF (c_fr_upF (c_fr_upF (c_fr_up (c_fr_up (c_fr_up c_fr_refl rfl) rfl) rfl) rfl) rfl) rfl)), (show 36 ≤ (I 200) ∧ (I 200) ≤ 419 ∧ 0 ≤ (I 202) ∧ (I 202) ≤ 24 by (repeat' apply And.intro) <;> first | assumption | omega), (show ∀ i, (A 5) i ≤ 24 by exact hLN), (show (I 773) + 1 = (I 773) + 1 ∧ (I 65) = (I 65) by (repeat' apply And.intro) <;> first | assumption | omega)⟩
    refine w_ls (ls := [(0, .ref 12), (1, .int (Int32.ofInt (p))), (2, .int (Int32.ofInt (0))), (3, .int (Int32.ofInt (p))), (4, .long (0)), (6, .int (Int32.ofInt (p)))]) (show List.Nodup [0, 1, 2, 3, 4, 6] by decide) (show List.Nodup [6, 4, 3, 2, 0, 1] by decide) (List.forall_mem_cons.mpr ⟨(List.Mem.tail _ (List.Mem.tail _ (List.Mem.tail _ (List.Mem.tail _ (List.Mem.head _))))), (List.forall_mem_cons.mpr ⟨(List.Mem.tail _ (List.Mem.tail _ (List.Mem.tail _ (List.Mem.tail _ (List.Mem.tail _ (List.Mem.head _)))))), (List.forall_mem_cons.mpr ⟨(List.Mem.tail _ (List.Mem.tail _ (List.Mem.tail _ (List.Mem.head _)))), (List.forall_mem_cons.mpr ⟨(List.Mem.tail _ (List.Mem.tail _ (List.Mem.head _))), (List.forall_mem_cons.mpr ⟨(List.Mem.tail _ (List.Mem.head _)), (List.forall_mem_cons.mpr ⟨(List.Mem.head _), (fun _ h => by cases h)⟩)⟩)⟩)⟩)⟩)⟩) ?_
    exact lp37 (((if p < (I 65) then (I 65) - p else 0) : Int).toNat + 1)  (p) (0) ⟨by omega, by omega⟩  (show (if p < (I 65) then (I 65) - p else 0) < ((((if p < (I 65) then (I 65) - p else 0) : Int).toNat + 1 : Nat) : Int) by omega)
  · have h9 : ¬ (¬ v4 = 126) := h9
    show w_W _ _ _ (13, [(0, .ref 12), (1, .int (Int32.ofInt (p)))], [], M) _
    refine w_adv (n := 7) (F' := (25, [(2, .int (Int32.ofInt (1))), (0, .ref 12), (1, .int (Int32.ofInt (p)))], [.int (Int32.ofInt (1)), .int (Int32.ofInt (p))], M)) rfl ?_
    refine w_add rfl ?_
    refine w_int (fun x210 r211 e212 => ?_)
    obtain ⟨r211a, r211b⟩ := r211
    clear e212
    refine w_adv (n := 6) (F' := (37, [(6, .int (Int32.ofInt (x210))), (4, .long (0)), (3, .int (Int32.ofInt (x210))), (2, .int (Int32.ofInt (1))), (0, .ref 12), (1, .int (Int32.ofInt (p)))], [], M)) rfl ?_
    have lp37 : ∀ fu37 : Nat, ∀ (y37_6 : Int) (g37_4 : Int64), w_in y37_6 → (if y37_6 < (I 65) then (I 65) - y37_6 else 0) < (fu37 : Int) → w_W (z_P L xs) (d + 1) 55 (37, [(0, .ref 12), (1, .int (Int32.ofInt (p))), (2, .int (Int32.ofInt (1))), (3, .int (Int32.ofInt (x210))), (4, .long (g37_4)), (6, .int (Int32.ofInt (y37_6)))], [], M) (c_integer_Q fr X u l I A B C M p) := by
      intro fu37
      induction fu37 with
      | zero =>
        intro y37_6 g37_4 ⟨ra_y37_6, rb_y37_6⟩ hn37
        exfalso
        omega
      | succ fu37 ih37 =>
        intro y37_6 g37_4 ⟨ra_y37_6, rb_y37_6⟩ hn37
        refine w_adv (n := 2) (F' := (40, [(0, .ref 12), (1, .int (Int32.ofInt (p))), (2, .int (Int32.ofInt (1))), (3, .int (Int32.ofInt (x210))), (4, .long (g37_4)), (6, .int (Int32.ofInt (y37_6)))], [.ref 12, .int (Int32.ofInt (y37_6))], M)) rfl ?_
        refine w_gf (v := .ref 1) hR rfl rfl rfl rfl ?_
        refine w_call (cm := 45) (as := [(0, .ref 1)]) (rest := [.int (Int32.ofInt (y37_6))]) (o := some (6, 1)) rfl (w_fitR hR rfl) (c_len hR) (fun r213 M214 q215 => ?_)
        rcases q215 with ⟨e216, e217, f218⟩
        rw [e216, e217]
        replace f218 : -2147483648 ≤ (I 65) ∧ (I 65) ≤ 2147483647 := f218
        obtain ⟨n219, n220⟩ := id f218
        clear f218
        show w_W _ _ _ (46, [(0, .ref 12), (1, .int (Int32.ofInt (p))), (2, .int (Int32.ofInt (1))), (3, .int (Int32.ofInt (x210))), (4, .long (g37_4)), (6, .int (Int32.ofInt (y37_6)))], [.int (Int32.ofInt ((I 65))), .int (Int32.ofInt (y37_6))], M) _
        refine w_br2 (a := y37_6) (b := (I 65)) rfl rfl ⟨by omega, by omega⟩ ⟨by omega, by omega⟩ (fun h221 => ?_) (fun h221 => ?_)
        · have h221 : y37_6 ≥ (I 65) := h221
          show w_W _ _ _ (99, [(0, .ref 12), (1, .int (Int32.ofInt (p))), (2, .int (Int32.ofInt (1))), (3, .int (Int32.ofInt (x210))), (4, .long (g37_4)), (6, .int (Int32.ofInt (y37_6)))], [], M) _
          refine w_adv (n := 2) (F' := (102, [(0, .ref 12), (1, .int (Int32.ofInt (p))), (2, .int (Int32.ofInt (1))), (3, .int (Int32.ofInt (x210))), (4, .long (g37_4)), (6, .int (Int32.ofInt (y37_6)))], [.int (Int32.ofInt (y37_6)), .ref 12], M)) rfl ?_
          refine w_pf hR rfl rfl rfl rfl (show w_in (y37_6) from ⟨by omega, by omega⟩) (fun h => absurd h (by decide)) (fun M222 hR223 => ?_)
          replace hR223 : w_Rep w_TC fr X u l (w_up I 776 (y37_6)) A B C M222 := hR223
          refine w_adv (n := 8) (F' := (122, [(7, .long (-(g37_4))), (0, .ref 12), (1, .int (Int32.ofInt (p))), (2, .int (Int32.ofInt (1))), (3, .int (Int32.ofInt (x210))), (4, .long (g37_4)), (6, .int (Int32.ofInt (y37_6)))], [.int (Int32.ofInt (x210)), .int (Int32.ofInt (y37_6))], M222)) rfl ?_
          refine w_br2 (a := y37_6) (b := x210) rfl rfl ⟨by omega, by omega⟩ ⟨by omega, by omega⟩ (fun h224 => ?_) (fun h224 => ?_)
          · have h224 : ¬ y37_6 = x210 := h224
            show w_W _ _ _ (133, [(7, .long (-(g37_4))), (0, .ref 12), (1, .int (Int32.ofInt (p))), (2, .int (Int32.ofInt (1))), (3, .int (Int32.ofInt (x210))), (4, .long (g37_4)), (6, .int (Int32.ofInt (y37_6)))], [], M222) _
            refine w_adv (n := 1) (F' := (134, [(7, .long (-(g37_4))), (0, .ref 12), (1, .int (Int32.ofInt (p))), (2, .int (Int32.ofInt (1))), (3, .int (Int32.ofInt (x210))), (4, .long (g37_4)), (6, .int (Int32.ofInt (y37_6)))], [.ref 12], M222)) rfl ?_
            refine w_gf (v := .ref 1) hR223 rfl rfl rfl rfl ?_
            refine w_adv (n := 1) (F' := (139, [(7, .long (-(g37_4))), (0, .ref 12), (1, .int (Int32.ofInt (p))), (2, .int (Int32.ofInt (1))), (3, .int (Int32.ofInt (x210))), (4, .long (g37_4)), (6, .int (Int32.ofInt (y37_6)))], [.int (Int32.ofInt (y37_6)), .ref 1], M222)) rfl ?_
            refine w_call (cm := 46) (as := [(0, .ref 1), (1, .int (Int32.ofInt (y37_6)))]) (rest := []) (o := some (6, 1)) rfl (w_fitR hR223 rfl) (c_byteAt (y37_6) hR223 (show 1 ≤ d by omega) ⟨by omega, by omega⟩) (fun r225 M226 q227 => ?_)
            rcases q227 with ⟨v228, e229, ⟨r230, r231⟩, e232⟩
            rw [e229, e232]
            show w_W _ _ _ (142, [(7, .long (-(g37_4))), (0, .ref 12), (1, .int (Int32.ofInt (p))), (2, .int (Int32.ofInt (1))), (3, .int (Int32.ofInt (x210))), (4, .long (g37_4)), (6, .int (Int32.ofInt (y37_6)))], [.int (Int32.ofInt (v228))], M222) _
            refine w_call (cm := 50) (as := [(0, .int (Int32.ofInt (v228)))]) (rest := []) (o := none) rfl (trivial) (c_isNamePart (v228) hR223 (show 1 ≤ d by omega) ⟨by omega, by omega⟩) (fun r233 M234 q235 => ?_)
            rcases q235 with ⟨e236, e237⟩ | ⟨e238, e239⟩
            · rw [e236, e237]
              show w_W _ _ _ (145, [(7, .long (-(g37_4))), (0, .ref 12), (1, .int (Int32.ofInt (p))), (2, .int (Int32.ofInt (1))), (3, .int (Int32.ofInt (x210))), (4, .long (g37_4)), (6, .int (Int32.ofInt (y37_6)))], [.int (Int32.ofInt (1))], M222) _
              refine w_adv (n := 3) (F' := (150, [(7, .long (-(g37_4))), (0, .ref 12), (1, .int (Int32.ofInt (p))), (2, .int (Int32.ofInt (1))), (3, .int (Int32.ofInt (x210))), (4, .long (g37_4)), (6, .int (Int32.ofInt (y37_6)))], [.int (Int32.ofInt (4)), .ref 12], M222)) rfl ?_
              refine w_pf hR223 rfl rfl rfl rfl (show w_in (4) from ⟨by omega, by omega⟩) (fun h => absurd h (by decide)) (fun M240 hR241 => ?_)
              replace hR241 : w_Rep w_TC fr X u l (w_up (w_up I 776 (y37_6)) 775 (4)) A B C M240 := hR241
              refine w_adv (n := 6) (F' := (185, [(7, .long (-(g37_4))), (0, .ref 12), (1, .int (Int32.ofInt (p))), (2, .int (Int32.ofInt (1))), (3, .int (Int32.ofInt (x210))), (4, .long (g37_4)), (6, .int (Int32.ofInt (y37_6)))], [.int ((-(g37_4)).toInt32), .int (Int32.ofInt (p)), .int (Int32.ofInt (4)), .ref 12], M240)) rfl ?_
              refine w_int (fun x242 r243 e244 => ?_)
              obtain ⟨r243a, r243b⟩ := r243
              refine w_call (cm := 52) (as := [(0, .ref 12), (1, .int (Int32.ofInt (4))), (2, .int (Int32.ofInt (p))), (3, .int (Int32.ofInt (x242)))]) (rest := []) (o := some (7, 12)) rfl (w_fitR hR241 rfl) (c_Tokens_add (4) (p) (x242) hR241 (show 1 ≤ d by omega) ⟨by omega, by omega⟩ ⟨by omega, by omega⟩ ⟨by omega, by omega⟩ (show 0 ≤ (I 773) ∧ (I 773) ≤ 1501 by first | assumption | omega)) (fun r245 M246 q247 => ?_)
              rcases q247 with ⟨g13248, g14249, g15250, e251, hR247a⟩
              rw [e251]
              replace hR247a : w_Rep w_TC fr X u l (w_up (w_up (w_up I 776 (y37_6)) 775 (4)) 773 ((I 773) + 1)) (w_upF (w_upF (w_upF A 13 g13248) 14 g14249) 15 g15250) B C M246 := hR247a
              show w_W _ _ _ (188, [(7, .long (-(g37_4))), (0, .ref 12), (1, .int (Int32.ofInt (p))), (2, .int (Int32.ofInt (1))), (3, .int (Int32.ofInt (x210))), (4, .long (g37_4)), (6, .int (Int32.ofInt (y37_6)))], [], M246) _
              refine w_fin (r := .inl none) (M' := M246) rfl ?_
              exact ⟨(w_up (w_up (w_up I 776 (y37_6)) 775 (4)) 773 ((I 773) + 1)), (w_upF (w_upF (w_upF A 13 g13248) 14 g14249) 15 g15250), B, C, rfl, hR247a, (show c_fr c_ts c_ta I A (w_up (w_up (w_up I 776 (y37_6)) 775 (4)) 773 ((I 773) + 1)) (w_upF (w_upF (w_upF A 13 g13248) 14 g14249) 15 g15250) by exact (c_fr_upF (c_fr_upF (c_fr_upF (c_fr_up (c_fr_up (c_fr_up c_fr_refl rfl) rfl) rfl) rfl) rfl) rfl)), (show 36 ≤ (I 200) ∧ (I 200) ≤ 419 ∧ 0 ≤ (I 202) ∧ (I 202) ≤ 24 by (repeat' apply And.intro) <;> first | assumption | omega), (show ∀ i, (A 5) i ≤ 24 by exact hLN), (show (I 773) + 1 = (I 773) + 1 ∧ (I 65) = (I 65) by (repeat' apply And.intro) <;> first | assumption | omega)⟩
            · rw [e238, e239]
              show w_W _ _ _ (145, [(7, .long (-(g37_4))), (0, .ref 12), (1, .int (Int32.ofInt (p))), (2, .int (Int32.ofInt (1))), (3, .int (Int32.ofInt (x210))), (4, .long (g37_4)), (6, .int (Int32.ofInt (y37_6)))], [.int (Int32.ofInt (0))], M222) _
              refine w_adv (n := 4) (F' := (162, [(7, .long (-(g37_4))), (0, .ref 12), (1, .int (Int32.ofInt (p))), (2, .int (Int32.ofInt (1))), (3, .int (Int32.ofInt (x210))), (4, .long (g37_4)), (6, .int (Int32.ofInt (y37_6)))], [.int (lg_cmp (-(g37_4)) ((-2147483648)))], M222)) rfl ?_
              refine w_int (fun x252 r253 e254 => ?_)
              obtain ⟨r253a, r253b⟩ := r253
              refine w_br1 (a := x252) rfl rfl ⟨by omega, by omega⟩ (fun h255 => ?_) (fun h255 => ?_)
              · have h255 : x252 < 0 := h255
                show w_W _ _ _ (174, [(7, .long (-(g37_4))), (0, .ref 12), (1, .int (Int32.ofInt (p))), (2, .int (Int32.ofInt (1))), (3, .int (Int32.ofInt (x210))), (4, .long (g37_4)), (6, .int (Int32.ofInt (y37_6)))], [], M222) _
                refine w_adv (n := 2) (F' := (176, [(7, .long (-(g37_4))), (0, .ref 12), (1, .int (Int32.ofInt (p))), (2, .int (Int32.ofInt (1))), (3, .int (Int32.ofInt (x210))), (4, .long (g37_4)), (6, .int (Int32.ofInt (y37_6)))], [.int (Int32.ofInt (3)), .ref 12], M222)) rfl ?_
                refine w_pf hR223 rfl rfl rfl rfl (show w_in (3) from ⟨by omega, by omega⟩) (fun h => absurd h (by decide)) (fun M256 hR257 => ?_)
                replace hR257 : w_Rep w_TC fr X u l (w_up (w_up I 776 (y37_6)) 775 (3)) A B C M256 := hR257
                refine w_adv (n := 5) (F' := (185, [(7, .long (-(g37_4))), (0, .ref 12), (1, .int (Int32.ofInt (p))), (2, .int (Int32.ofInt (1))), (3, .int (Int32.ofInt (x210))), (4, .long (g37_4)), (6, .int (Int32.ofInt (y37_6)))], [.int ((-(g37_4)).toInt32), .int (Int32.ofInt (p)), .int (Int32.ofInt (4)), .ref 12], M256)) rfl ?_
                refine w_int (fun x258 r259 e260 => ?_)
                obtain ⟨r259a, r259b⟩ := r259
                refine w_call (cm := 52) (as := [(0, .ref 12), (1, .int (Int32.ofInt (4))), (2, .int (Int32.ofInt (p))), (3, .int (Int32.ofInt (x258)))]) (rest := []) (o := some (7, 12)) rfl (w_fitR hR257 rfl) (c_Tokens_add (4) (p) (x258) hR257 (show 1 ≤ d by omega) ⟨by omega, by omega⟩ ⟨by omega, by omega⟩ ⟨by omega, by omega⟩ (show 0 ≤ (I 773) ∧ (I 773) ≤ 1501 by first | assumption | omega)) (fun r261 M262 q263 => ?_)
                rcases q263 with ⟨g13264, g14265, g15266, e267, hR263a⟩
                rw [e267]
                replace hR263a : w_Rep w_TC fr X u l (w_up (w_up (w_up I 776 (y37_6)) 775 (3)) 773 ((I 773) + 1)) (w_upF (w_upF (w_upF A 13 g13264) 14 g14265) 15 g15266) B C M262 := hR263a
                show w_W _ _ _ (188, [(7, .long (-(g37_4))), (0, .ref 12), (1, .int (Int32.ofInt (p))), (2, .int (Int32.ofInt (1))), (3, .int (Int32.ofInt (x210))), (4, .long (g37_4)), (6, .int (Int32.ofInt (y37_6)))], [], M262) _
                refine w_fin (r := .inl none) (M' := M262) rfl ?_
                exact ⟨(w_up (w_up (w_up I 776 (y37_6)) 775 (3)) 773 ((I 773) + 1)), (w_upF (w_upF (w_upF A 13 g13264) 14 g14265) 15 g15266), B, C, rfl, hR263a, (show c_fr c_ts c_ta I A (w_up (w_up (w_up I 776 (y37_6)) 775 (3)) 773 ((I 773) + 1)) (w_upF (w_upF (w_upF A 13 g13264) 14 g14265) 15 g15266) by exact (c_fr_upF (c_fr_upF (c_fr_upF (c_fr_up (c_fr_up (c_fr_up c_fr_refl rfl) rfl) rfl) rfl) rfl) rfl)), (show 36 ≤ (I 200) ∧ (I 200) ≤ 419 ∧ 0 ≤ (I 202) ∧ (I 202) ≤ 24 by (repeat' apply And.intro) <;> first | assumption | omega), (show ∀ i, (A 5) i ≤ 24 by exact hLN), (show (I 773) + 1 = (I 773) + 1 ∧ (I 65) = (I 65) by (repeat' apply And.intro) <;> first | assumption | omega)⟩
              · have h255 : ¬ (x252 < 0) := h255
                show w_W _ _ _ (165, [(7, .long (-(g37_4))), (0, .ref 12), (1, .int (Int32.ofInt (p))), (2, .int (Int32.ofInt (1))), (3, .int (Int32.ofInt (x210))), (4, .long (g37_4)), (6, .int (Int32.ofInt (y37_6)))], [], M222) _
                refine w_adv (n := 3) (F' := (171, [(7, .long (-(g37_4))), (0, .ref 12), (1, .int (Int32.ofInt (p))), (2, .int (Int32.ofInt (1))), (3, .int (Int32.ofInt (x210))), (4, .long (g37_4)), (6, .int (Int32.ofInt (y37_6)))], [.int (lg_cmp (-(g37_4)) (2147483647))], M222)) rfl ?_
                refine w_int (fun x268 r269 e270 => ?_)
                obtain ⟨r269a, r269b⟩ := r269
                refine w_br1 (a := x268) rfl rfl ⟨by omega, by omega⟩ (fun h271 => ?_) (fun h271 => ?_)
                · have h271 : x268 ≤ 0 := h271
                  show w_W _ _ _ (179, [(7, .long (-(g37_4))), (0, .ref 12), (1, .int (Int32.ofInt (p))), (2, .int (Int32.ofInt (1))), (3, .int (Int32.ofInt (x210))), (4, .long (g37_4)), (6, .int (Int32.ofInt (y37_6)))], [], M222) _
                  refine w_adv (n := 5) (F' := (185, [(7, .long (-(g37_4))), (0, .ref 12), (1, .int (Int32.ofInt (p))), (2, .int (Int32.ofInt (1))), (3, .int (Int32.ofInt (x210))), (4, .long (g37_4)), (6, .int (Int32.ofInt (y37_6)))], [.int ((-(g37_4)).toInt32), .int (Int32.ofInt (p)), .int (Int32.ofInt (4)), .ref 12], M222)) rfl ?_
                  refine w_int (fun x272 r273 e274 => ?_)
                  obtain ⟨r273a, r273b⟩ := r273
                  refine w_call (cm := 52) (as := [(0, .ref 12), (1, .int (Int32.ofInt (4))), (2, .int (Int32.ofInt (p))), (3, .int (Int32.ofInt (x272)))]) (rest := []) (o := some (7, 12)) rfl (w_fitR hR223 rfl) (c_Tokens_add (4) (p) (x272) hR223 (show 1 ≤ d by omega) ⟨by omega, by omega⟩ ⟨by omega, by omega⟩ ⟨by omega, by omega⟩ (show 0 ≤ (I 773) ∧ (I 773) ≤ 1501 by first | assumption | omega)) (fun r275 M276 q277 => ?_)
                  rcases q277 with ⟨g13278, g14279, g15280, e281, hR277a⟩
                  rw [e281]
                  replace hR277a : w_Rep w_TC fr X u l (w_up (w_up I 776 (y37_6)) 773 ((I 773) + 1)) (w_upF (w_upF (w_upF A 13 g13278) 14 g14279) 15 g15280) B C M276 := hR277a
                  show w_W _ _ _ (188, [(7, .long (-(g37_4))), (0, .ref 12), (1, .int (Int32.ofInt (p))), (2, .int (Int32.ofInt (1))), (3, .int (Int32.ofInt (x210))), (4, .long (g37_4)), (6, .int (Int32.ofInt (y37_6)))], [], M276) _
                  refine w_fin (r := .inl none) (M' := M276) rfl ?_
                  exact ⟨(w_up (w_up I 776 (y37_6)) 773 ((I 773) + 1)), (w_upF (w_upF (w_upF A 13 g13278) 14 g14279) 15 g15280), B, C, rfl, hR277a, (show c_fr c_ts c_ta I A (w_up (w_up I 776 (y37_6)) 773 ((I 773) + 1)) (w_upF (w_upF (w_upF A 13 g13278) 14 g14279) 15 g15280) by exact (c_fr_upF (c_fr_upF (c_fr_upF (c_fr_up (c_fr_up c_fr_refl rfl) rfl) rfl) rfl) rfl)), (show 36 ≤ (I 200) ∧ (I 200) ≤ 419 ∧ 0 ≤ (I 202) ∧ (I 202) ≤ 24 by (repeat' apply And.intro) <;> first | assumption | omega), (show ∀ i, (A 5) i ≤ 24 by exact hLN), (show (I 773) + 1 = (I 773) + 1 ∧ (I 65) = (I 65) by (repeat' apply And.intro) <;> first | assumption | omega)⟩
                · have h271 : ¬ (x268 ≤ 0) := h271
                  show w_W _ _ _ (174, [(7, .long (-(g37_4))), (0, .ref 12), (1, .int (Int32.ofInt (p))), (2, .int (Int32.ofInt (1))), (3, .int (Int32.ofInt (x210))), (4, .long (g37_4)), (6, .int (Int32.ofInt (y37_6)))], [], M222) _
                  refine w_adv (n := 2) (F' := (176, [(7, .long (-(g37_4))), (0, .ref 12), (1, .int (Int32.ofInt (p))), (2, .int (Int32.ofInt (1))), (3, .int (Int32.ofInt (x210))), (4, .long (g37_4)), (6, .int (Int32.ofInt (y37_6)))], [.int (Int32.ofInt (3)), .ref 12], M222)) rfl ?_
                  refine w_pf hR223 rfl rfl rfl rfl (show w_in (3) from ⟨by omega, by omega⟩) (fun h => absurd h (by decide)) (fun M282 hR283 => ?_)
                  replace hR283 : w_Rep w_TC fr X u l (w_up (w_up I 776 (y37_6)) 775 (3)) A B C M282 := hR283
                  refine w_adv (n := 5) (F' := (185, [(7, .long (-(g37_4))), (0, .ref 12), (1, .int (Int32.ofInt (p))), (2, .int (Int32.ofInt (1))), (3, .int (Int32.ofInt (x210))), (4, .long (g37_4)), (6, .int (Int32.ofInt (y37_6)))], [.int ((-(g37_4)).toInt32), .int (Int32.ofInt (p)), .int (Int32.ofInt (4)), .ref 12], M282)) rfl ?_
                  refine w_int (fun x284 r285 e286 => ?_)
                  obtain ⟨r285a, r285b⟩ := r285
                  refine w_call (cm := 52) (as := [(0, .ref 12), (1, .int (Int32.ofInt (4))), (2, .int (Int32.ofInt (p))), (3, .int (Int32.ofInt (x284)))]) (rest := []) (o := some (7, 12)) rfl (w_fitR hR283 rfl) (c_Tokens_add (4) (p) (x284) hR283 (show 1 ≤ d by omega) ⟨by omega, by omega⟩ ⟨by omega, by omega⟩ ⟨by omega, by omega⟩ (show 0 ≤ (I 773) ∧ (I 773) ≤ 1501 by first | assumption | omega)) (fun r287 M288 q289 => ?_)
                  rcases q289 with ⟨g13290, g14291, g15292, e293, hR289a⟩
                  rw [e293]
                  replace hR289a : w_Rep w_TC fr X u l (w_up (w_up (w_up I 776 (y37_6)) 775 (3)) 773 ((I 773) + 1)) (w_upF (w_upF (w_upF A 13 g13290) 14 g14291) 15 g15292) B C M288 := hR289a
                  show w_W _ _ _ (188, [(7, .long (-(g37_4))), (0, .ref 12), (1, .int (Int32.ofInt (p))), (2, .int (Int32.ofInt (1))), (3, .int (Int32.ofInt (x210))), (4, .long (g37_4)), (6, .int (Int32.ofInt (y37_6)))], [], M288) _
                  refine w_fin (r := .inl none) (M' := M288) rfl ?_
                  exact ⟨(w_up (w_up (w_up I 776 (y37_6)) 775 (3)) 773 ((I 773) + 1)), (w_upF (w_upF (w_upF A 13 g13290) 14 g14291) 15 g15292), B, C, rfl, hR289a, (show c_fr c_ts c_ta I A (w_up (w_up (w_up I 776 (y37_6)) 775 (3)) 773 ((I 773) + 1)) (w_upF (w_upF (w_upF A 13 g13290) 14 g14291) 15 g15292) by exact (c_fr_upF (c_fr_upF (c_fr_upF (c_fr_up (c_fr_up (c_fr_up c_fr_refl rfl) rfl) rfl) rfl) rfl) rfl)), (show 36 ≤ (I 200) ∧ (I 200) ≤ 419 ∧ 0 ≤ (I 202) ∧ (I 202) ≤ 24 by (repeat' apply And.intro) <;> first | assumption | omega), (show ∀ i, (A 5) i ≤ 24 by exact hLN), (show (I 773) + 1 = (I 773) + 1 ∧ (I 65) = (I 65) by (repeat' apply And.intro) <;> first | assumption | omega)⟩
          · have h224 : ¬ (¬ y37_6 = x210) := h224
            show w_W _ _ _ (125, [(7, .long (-(g37_4))), (0, .ref 12), (1, .int (Int32.ofInt (p))), (2, .int (Int32.ofInt (1))), (3, .int (Int32.ofInt (x210))), (4, .long (g37_4)), (6, .int (Int32.ofInt (y37_6)))], [], M222) _
            refine w_adv (n := 2) (F' := (127, [(7, .long (-(g37_4))), (0, .ref 12), (1, .int (Int32.ofInt (p))), (2, .int (Int32.ofInt (1))), (3, .int (Int32.ofInt (x210))), (4, .long (g37_4)), (6, .int (Int32.ofInt (y37_6)))], [.int (Int32.ofInt (1)), .ref 12], M222)) rfl ?_
            refine w_pf hR223 rfl rfl rfl rfl (show w_in (1) from ⟨by omega, by omega⟩) (fun h => absurd h (by decide)) (fun M294 hR295 => ?_)
            replace hR295 : w_Rep w_TC fr X u l (w_up (w_up I 776 (y37_6)) 775 (1)) A B C M294 := hR295
            refine w_adv (n := 6) (F' := (185, [(7, .long (-(g37_4))), (0, .ref 12), (1, .int (Int32.ofInt (p))), (2, .int (Int32.ofInt (1))), (3, .int (Int32.ofInt (x210))), (4, .long (g37_4)), (6, .int (Int32.ofInt (y37_6)))], [.int ((-(g37_4)).toInt32), .int (Int32.ofInt (p)), .int (Int32.ofInt (4)), .ref 12], M294)) rfl ?_
            refine w_int (fun x296 r297 e298 => ?_)
            obtain ⟨r297a, r297b⟩ := r297
            refine w_call (cm := 52) (as := [(0, .ref 12), (1, .int (Int32.ofInt (4))), (2, .int (Int32.ofInt (p))), (3, .int (Int32.ofInt (x296)))]) (rest := []) (o := some (7, 12)) rfl (w_fitR hR295 rfl) (c_Tokens_add (4) (p) (x296) hR295 (show 1 ≤ d by omega) ⟨by omega, by omega⟩ ⟨by omega, by omega⟩ ⟨by omega, by omega⟩ (show 0 ≤ (I 773) ∧ (I 773) ≤ 1501 by first | assumption | omega)) (fun r299 M300 q301 => ?_)
            rcases q301 with ⟨g13302, g14303, g15304, e305, hR301a⟩
            rw [e305]
            replace hR301a : w_Rep w_TC fr X u l (w_up (w_up (w_up I 776 (y37_6)) 775 (1)) 773 ((I 773) + 1)) (w_upF (w_upF (w_upF A 13 g13302) 14 g14303) 15 g15304) B C M300 := hR301a
            show w_W _ _ _ (188, [(7, .long (-(g37_4))), (0, .ref 12), (1, .int (Int32.ofInt (p))), (2, .int (Int32.ofInt (1))), (3, .int (Int32.ofInt (x210))), (4, .long (g37_4)), (6, .int (Int32.ofInt (y37_6)))], [], M300) _
            refine w_fin (r := .inl none) (M' := M300) rfl ?_
            exact ⟨(w_up (w_up (w_up I 776 (y37_6)) 775 (1)) 773 ((I 773) + 1)), (w_upF (w_upF (w_upF A 13 g13302) 14 g14303) 15 g15304), B, C, rfl, hR301a, (show c_fr c_ts c_ta I A (w_up (w_up (w_up I 776 (y37_6)) 775 (1)) 773 ((I 773) + 1)) (w_upF (w_upF (w_upF A 13 g13302) 14 g14303) 15 g15304) by exact (c_fr_upF (c_fr_upF (c_fr_upF (c_fr_up (c_fr_up (c_fr_up c_fr_refl rfl) rfl) rfl) rfl) rfl) rfl)), (show 36 ≤ (I 200) ∧ (I 200) ≤ 419 ∧ 0 ≤ (I 202) ∧ (I 202) ≤ 24 by (repeat' apply And.intro) <;> first | assumption | omega), (show ∀ i, (A 5) i ≤ 24 by exact hLN), (show (I 773) + 1 = (I 773) + 1 ∧ (I 65) = (I 65) by (repeat' apply And.intro) <;> first | assumption | omega)⟩
        · have h221 : ¬ (y37_6 ≥ (I 65)) := h221
          show w_W _ _ _ (49, [(0, .ref 12), (1, .int (Int32.ofInt (p))), (2, .int (Int32.ofInt (1))), (3, .int (Int32.ofInt (x210))), (4, .long (g37_4)), (6, .int (Int32.ofInt (y37_6)))], [], M) _
          refine w_adv (n := 1) (F' := (50, [(0, .ref 12), (1, .int (Int32.ofInt (p))), (2, .int (Int32.ofInt (1))), (3, .int (Int32.ofInt (x210))), (4, .long (g37_4)), (6, .int (Int32.ofInt (y37_6)))], [.ref 12], M)) rfl ?_
          refine w_gf (v := .ref 1) hR rfl rfl rfl rfl ?_
          refine w_adv (n := 1) (F' := (55, [(0, .ref 12), (1, .int (Int32.ofInt (p))), (2, .int (Int32.ofInt (1))), (3, .int (Int32.ofInt (x210))), (4, .long (g37_4)), (6, .int (Int32.ofInt (y37_6)))], [.int (Int32.ofInt (y37_6)), .ref 1], M)) rfl ?_
          refine w_call (cm := 46) (as := [(0, .ref 1), (1, .int (Int32.ofInt (y37_6)))]) (rest := []) (o := some (6, 1)) rfl (w_fitR hR rfl) (c_byteAt (y37_6) hR (show 1 ≤ d by omega) ⟨by omega, by omega⟩) (fun r306 M307 q308 => ?_)
          rcases q308 with ⟨v309, e310, ⟨r311, r312⟩, e313⟩
          rw [e310, e313]
          show w_W _ _ _ (58, [(0, .ref 12), (1, .int (Int32.ofInt (p))), (2, .int (Int32.ofInt (1))), (3, .int (Int32.ofInt (x210))), (4, .long (g37_4)), (6, .int (Int32.ofInt (y37_6)))], [.int (Int32.ofInt (v309))], M) _
          refine w_call (cm := 51) (as := [(0, .int (Int32.ofInt (v309)))]) (rest := []) (o := none) rfl (trivial) (c_isDigit (v309) hR ⟨by omega, by omega⟩) (fun r314 M315 q316 => ?_)
          rcases q316 with ⟨e317, e318⟩ | ⟨e319, e320⟩
          · rw [e317, e318]
            show w_W _ _ _ (61, [(0, .ref 12), (1, .int (Int32.ofInt (p))), (2, .int (Int32.ofInt (1))), (3, .int (Int32.ofInt (x210))), (4, .long (g37_4)), (6, .int (Int32.ofInt (y37_6)))], [.int (Int32.ofInt (1))], M) _
            refine w_adv (n := 6) (F' := (74, [(0, .ref 12), (1, .int (Int32.ofInt (p))), (2, .int (Int32.ofInt (1))), (3, .int (Int32.ofInt (x210))), (4, .long (g37_4)), (6, .int (Int32.ofInt (y37_6)))], [.ref 12, .long ((g37_4) * (10)), .long (1099511627776)], M)) rfl ?_
            refine w_gf (v := .ref 1) hR rfl rfl rfl rfl ?_
            refine w_adv (n := 1) (F' := (79, [(0, .ref 12), (1, .int (Int32.ofInt (p))), (2, .int (Int32.ofInt (1))), (3, .int (Int32.ofInt (x210))), (4, .long (g37_4)), (6, .int (Int32.ofInt (y37_6)))], [.int (Int32.ofInt (y37_6)), .ref 1, .long ((g37_4) * (10)), .long (1099511627776)], M)) rfl ?_
            refine w_call (cm := 46) (as := [(0, .ref 1), (1, .int (Int32.ofInt (y37_6)))]) (rest := [.long ((g37_4) * (10)), .long (1099511627776)]) (o := some (6, 1)) rfl (w_fitR hR rfl) (c_byteAt (y37_6) hR (show 1 ≤ d by omega) ⟨by omega, by omega⟩) (fun r321 M322 q323 => ?_)
            rcases q323 with ⟨v324, e325, ⟨r326, r327⟩, e328⟩
            rw [e325, e328]
            show w_W _ _ _ (82, [(0, .ref 12), (1, .int (Int32.ofInt (p))), (2, .int (Int32.ofInt (1))), (3, .int (Int32.ofInt (x210))), (4, .long (g37_4)), (6, .int (Int32.ofInt (y37_6)))], [.int (Int32.ofInt (v324)), .long ((g37_4) * (10)), .long (1099511627776)], M) _
            refine w_adv (n := 4) (F' := (88, [(0, .ref 12), (1, .int (Int32.ofInt (p))), (2, .int (Int32.ofInt (1))), (3, .int (Int32.ofInt (x210))), (4, .long (g37_4)), (6, .int (Int32.ofInt (y37_6)))], [.long ((((g37_4) * (10)) + ((Int32.ofInt (v324)).toInt64)) - (48)), .long (1099511627776)], M)) rfl ?_
            refine w_min rfl rfl rfl ?_
            refine w_adv (n := 1) (F' := (93, [(4, .long (if ((((g37_4) * (10)) + ((Int32.ofInt (v324)).toInt64)) - (48)) < (1099511627776) then ((((g37_4) * (10)) + ((Int32.ofInt (v324)).toInt64)) - (48)) else (1099511627776))), (0, .ref 12), (1, .int (Int32.ofInt (p))), (2, .int (Int32.ofInt (1))), (3, .int (Int32.ofInt (x210))), (6, .int (Int32.ofInt (y37_6)))], [], M)) rfl ?_
            refine w_inc (nL := 9) (a := y37_6) rfl rfl rfl (by decide) ?_
            refine w_adv (n := 1) (F' := (37, [(6, .int (Int32.ofInt (y37_6 + 1))), (4, .long (if ((((g37_4) * (10)) + ((Int32.ofInt (v324)).toInt64)) - (48)) < (1099511627776) then ((((g37_4) * (10)) + ((Int32.ofInt (v324)).toInt64)) - (48)) else (1099511627776))), (0, .ref 12), (1, .int (Int32.ofInt (p))), (2, .int (Int32.ofInt (1))), (3, .int (Int32.ofInt (x210)))], [], M)) rfl ?_
            refine w_ls (ls := [(0, .ref 12), (1, .int (Int32.ofInt (p))), (2, .int (Int32.ofInt (1))), (3, .int (Int32.ofInt (x210))), (4, .long (if ((((g37_4) * (10)) + ((Int32.ofInt (v324)).toInt64)) - (48)) < (1099511627776) then ((((g37_4) * (10)) + ((Int32.ofInt (v324)).toInt64)) - (48)) else (1099511627776))), (6, .int (Int32.ofInt (y37_6 + 1)))]) (show List.Nodup [0, 1, 2, 3, 4, 6] by decide) (show List.Nodup [6, 4, 0, 1, 2, 3] by decide) (List.forall_mem_cons.mpr ⟨(List.Mem.tail _ (List.Mem.tail _ (List.Mem.head _))), (List.forall_mem_cons.mpr ⟨(List.Mem.tail _ (List.Mem.tail _ (List.Mem.tail _ (List.Mem.head _)))), (List.forall_mem_cons.mpr ⟨(List.Mem.tail _ (List.Mem.tail _ (List.Mem.tail _ (List.Mem.tail _ (List.Mem.head _))))), (List.forall_mem_cons.mpr ⟨(List.Mem.tail _ (List.Mem.tail _ (List.Mem.tail _ (List.Mem.tail _ (List.Mem.tail _ (List.Mem.head _)))))), (List.forall_mem_cons.mpr ⟨(List.Mem.tail _ (List.Mem.head _)), (List.forall_mem_cons.mpr ⟨(List.Mem.head _), (fun _ h => by cases h)⟩)⟩)⟩)⟩)⟩)⟩) ?_
            exact ih37  (y37_6 + 1) (if ((((g37_4) * (10)) + ((Int32.ofInt (v324)).toInt64)) - (48)) < (1099511627776) then ((((g37_4) * (10)) + ((Int32.ofInt (v324)).toInt64)) - (48)) else (1099511627776)) ⟨by omega, by omega⟩  (show (if (y37_6 + 1) < (I 65) then (I 65) - (y37_6 + 1) else 0) < (fu37 : Int) by omega)
          · rw [e319, e320]
            show w_W _ _ _ (61, [(0, .ref 12), (1, .int (Int32.ofInt (p))), (2, .int (Int32.ofInt (1))), (3, .int (Int32.ofInt (x210))), (4, .long (g37_4)), (6, .int (Int32.ofInt (y37_6)))], [.int (Int32.ofInt (0))], M) _
            refine w_adv (n := 3) (F' := (102, [(0, .ref 12), (1, .int (Int32.ofInt (p))), (2, .int (Int32.ofInt (1))), (3, .int (Int32.ofInt (x210))), (4, .long (g37_4)), (6, .int (Int32.ofInt (y37_6)))], [.int (Int32.ofInt (y37_6)), .ref 12], M)) rfl ?_
            refine w_pf hR rfl rfl rfl rfl (show w_in (y37_6) from ⟨by omega, by omega⟩) (fun h => absurd h (by decide)) (fun M329 hR330 => ?_)
            replace hR330 : w_Rep w_TC fr X u l (w_up I 776 (y37_6)) A B C M329 := hR330
            refine w_adv (n := 8) (F' := (122, [(7, .long (-(g37_4))), (0, .ref 12), (1, .int (Int32.ofInt (p))), (2, .int (Int32.ofInt (1))), (3, .int (Int32.ofInt (x210))), (4, .long (g37_4)), (6, .int (Int32.ofInt (y37_6)))], [.int (Int32.ofInt (x210)), .int (Int32.ofInt (y37_6))], M329)) rfl ?_
            refine w_br2 (a := y37_6) (b := x210) rfl rfl ⟨by omega, by omega⟩ ⟨by omega, by omega⟩ (fun h331 => ?_) (fun h331 => ?_)
            · have h331 : ¬ y37_6 = x210 := h331
              show w_W _ _ _ (133, [(7, .long (-(g37_4))), (0, .ref 12), (1, .int (Int32.ofInt (p))), (2, .int (Int32.ofInt (1))), (3, .int (Int32.ofInt (x210))), (4, .long (g37_4)), (6, .int (Int32.ofInt (y37_6)))], [], M329) _
              refine w_adv (n := 1) (F' := (134, [(7, .long (-(g37_4))), (0, .ref 12), (1, .int (Int32.ofInt (p))), (2, .int (Int32.ofInt (1))), (3, .int (Int32.ofInt (x210))), (4, .long (g37_4)), (6, .int (Int32.ofInt (y37_6)))], [.ref 12], M329)) rfl ?_
              refine w_gf (v := .ref 1) hR330 rfl rfl rfl rfl ?_
              refine w_adv (n := 1) (F' := (139, [(7, .long (-(g37_4))), (0, .ref 12), (1, .int (Int32.ofInt (p))), (2, .int (Int32.ofInt (1))), (3, .int (Int32.ofInt (x210))), (4, .long (g37_4)), (6, .int (Int32.ofInt (y37_6)))], [.int (Int32.ofInt (y37_6)), .ref 1], M329)) rfl ?_
              refine w_call (cm := 46) (as := [(0, .ref 1), (1, .int (Int32.ofInt (y37_6)))]) (rest := []) (o := some (6, 1)) rfl (w_fitR hR330 rfl) (c_byteAt (y37_6) hR330 (show 1 ≤ d by omega) ⟨by omega, by omega⟩) (fun r332 M333 q334 => ?_)
              rcases q334 with ⟨v335, e336, ⟨r337, r338⟩, e339⟩
              rw [e336, e339]
              show w_W _ _ _ (142, [(7, .long (-(g37_4))), (0, .ref 12), (1, .int (Int32.ofInt (p))), (2, .int (Int32.ofInt (1))), (3, .int (Int32.ofInt (x210))), (4, .long (g37_4)), (6, .int (Int32.ofInt (y37_6)))], [.int (Int32.ofInt (v335))], M329) _
              refine w_call (cm := 50) (as := [(0, .int (Int32.ofInt (v335)))]) (rest := []) (o := none) rfl (trivial) (c_isNamePart (v335) hR330 (show 1 ≤ d by omega) ⟨by omega, by omega⟩) (fun r340 M341 q342 => ?_)
              rcases q342 with ⟨e343, e344⟩ | ⟨e345, e346⟩
              · rw [e343, e344]
                show w_W _ _ _ (145, [(7, .long (-(g37_4))), (0, .ref 12), (1, .int (Int32.ofInt (p))), (2, .int (Int32.ofInt (1))), (3, .int (Int32.ofInt (x210))), (4, .long (g37_4)), (6, .int (Int32.ofInt (y37_6)))], [.int (Int32.ofInt (1))], M329) _
                refine w_adv (n := 3) (F' := (150, [(7, .long (-(g37_4))), (0, .ref 12), (1, .int (Int32.ofInt (p))), (2, .int (Int32.ofInt (1))), (3, .int (Int32.ofInt (x210))), (4, .long (g37_4)), (6, .int (Int32.ofInt (y37_6)))], [.int (Int32.ofInt (4)), .ref 12], M329)) rfl ?_
                refine w_pf hR330 rfl rfl rfl rfl (show w_in (4) from ⟨by omega, by omega⟩) (fun h => absurd h (by decide)) (fun M347 hR348 => ?_)
                replace hR348 : w_Rep w_TC fr X u l (w_up (w_up I 776 (y37_6)) 775 (4)) A B C M347 := hR348
                refine w_adv (n := 6) (F' := (185, [(7, .long (-(g37_4))), (0, .ref 12), (1, .int (Int32.ofInt (p))), (2, .int (Int32.ofInt (1))), (3, .int (Int32.ofInt (x210))), (4, .long (g37_4)), (6, .int (Int32.ofInt (y37_6)))], [.int ((-(g37_4)).toInt32), .int (Int32.ofInt (p)), .int (Int32.ofInt (4)), .ref 12], M347)) rfl ?_
                refine w_int (fun x349 r350 e351 => ?_)
                obtain ⟨r350a, r350b⟩ := r350
                refine w_call (cm := 52) (as := [(0, .ref 12), (1, .int (Int32.ofInt (4))), (2, .int (Int32.ofInt (p))), (3, .int (Int32.ofInt (x349)))]) (rest := []) (o := some (7, 12)) rfl (w_fitR hR348 rfl) (c_Tokens_add (4) (p) (x349) hR348 (show 1 ≤ d by omega) ⟨by omega, by omega⟩ ⟨by omega, by omega⟩ ⟨by omega, by omega⟩ (show 0 ≤ (I 773) ∧ (I 773) ≤ 1501 by first | assumption | omega)) (fun r352 M353 q354 => ?_)
                rcases q354 with ⟨g13355, g14356, g15357, e358, hR354a⟩
                rw [e358]
                replace hR354a : w_Rep w_TC fr X u l (w_up (w_up (w_up I 776 (y37_6)) 775 (4)) 773 ((I 773) + 1)) (w_upF (w_upF (w_upF A 13 g13355) 14 g14356) 15 g15357) B C M353 := hR354a
                show w_W _ _ _ (188, [(7, .long (-(g37_4))), (0, .ref 12), (1, .int (Int32.ofInt (p))), (2, .int (Int32.ofInt (1))), (3, .int (Int32.ofInt (x210))), (4, .long (g37_4)), (6, .int (Int32.ofInt (y37_6)))], [], M353) _
                refine w_fin (r := .inl none) (M' := M353) rfl ?_
                exact ⟨(w_up (w_up (w_up I 776 (y37_6)) 775 (4)) 773 ((I 773) + 1)), (w_upF (w_upF (w_upF A 13 g13355) 14 g14356) 15 g15357), B, C, rfl, hR354a, (show c_fr c_ts c_ta I A (w_up (w_up (w_up I 776 (y37_6)) 775 (4)) 773 ((I 773) + 1)) (w_upF (w_upF (w_upF A 13 g13355) 14 g14356) 15 g15357) by exact (c_fr_upF (c_fr_upF (c_fr_upF (c_fr_up (c_fr_up (c_fr_up c_fr_refl rfl) rfl) rfl) rfl) rfl) rfl)), (show 36 ≤ (I 200) ∧ (I 200) ≤ 419 ∧ 0 ≤ (I 202) ∧ (I 202) ≤ 24 by (repeat' apply And.intro) <;> first | assumption | omega), (show ∀ i, (A 5) i ≤ 24 by exact hLN), (show (I 773) + 1 = (I 773) + 1 ∧ (I 65) = (I 65) by (repeat' apply And.intro) <;> first | assumption | omega)⟩
              · rw [e345, e346]
                show w_W _ _ _ (145, [(7, .long (-(g37_4))), (0, .ref 12), (1, .int (Int32.ofInt (p))), (2, .int (Int32.ofInt (1))), (3, .int (Int32.ofInt (x210))), (4, .long (g37_4)), (6, .int (Int32.ofInt (y37_6)))], [.int (Int32.ofInt (0))], M329) _
                refine w_adv (n := 4) (F' := (162, [(7, .long (-(g37_4))), (0, .ref 12), (1, .int (Int32.ofInt (p))), (2, .int (Int32.ofInt (1))), (3, .int (Int32.ofInt (x210))), (4, .long (g37_4)), (6, .int (Int32.ofInt (y37_6)))], [.int (lg_cmp (-(g37_4)) ((-2147483648)))], M329)) rfl ?_
                refine w_int (fun x359 r360 e361 => ?_)
                obtain ⟨r360a, r360b⟩ := r360
                refine w_br1 (a := x359) rfl rfl ⟨by omega, by omega⟩ (fun h362 => ?_) (fun h362 => ?_)
                · have h362 : x359 < 0 := h362
                  show w_W _ _ _ (174, [(7, .long (-(g37_4))), (0, .ref 12), (1, .int (Int32.ofInt (p))), (2, .int (Int32.ofInt (1))), (3, .int (Int32.ofInt (x210))), (4, .long (g37_4)), (6, .int (Int32.ofInt (y37_6)))], [], M329) _
                  refine w_adv (n := 2) (F' := (176, [(7, .long (-(g37_4))), (0, .ref 12), (1, .int (Int32.ofInt (p))), (2, .int (Int32.ofInt (1))), (3, .int (Int32.ofInt (x210))), (4, .long (g37_4)), (6, .int (Int32.ofInt (y37_6)))], [.int (Int32.ofInt (3)), .ref 12], M329)) rfl ?_
                  refine w_pf hR330 rfl rfl rfl rfl (show w_in (3) from ⟨by omega, by omega⟩) (fun h => absurd h (by decide)) (fun M363 hR364 => ?_)
                  replace hR364 : w_Rep w_TC fr X u l (w_up (w_up I 776 (y37_6)) 775 (3)) A B C M363 := hR364
                  refine w_adv (n := 5) (F' := (185, [(7, .long (-(g37_4))), (0, .ref 12), (1, .int (Int32.ofInt (p))), (2, .int (Int32.ofInt (1))), (3, .int (Int32.ofInt (x210))), (4, .long (g37_4)), (6, .int (Int32.ofInt (y37_6)))], [.int ((-(g37_4)).toInt32), .int (Int32.ofInt (p)), .int (Int32.ofInt (4)), .ref 12], M363)) rfl ?_
                  refine w_int (fun x365 r366 e367 => ?_)
                  obtain ⟨r366a, r366b⟩ := r366
                  refine w_call (cm := 52) (as := [(0, .ref 12), (1, .int (Int32.ofInt (4))), (2, .int (Int32.ofInt (p))), (3, .int (Int32.ofInt (x365)))]) (rest := []) (o := some (7, 12)) rfl (w_fitR hR364 rfl) (c_Tokens_add (4) (p) (x365) hR364 (show 1 ≤ d by omega) ⟨by omega, by omega⟩ ⟨by omega, by omega⟩ ⟨by omega, by omega⟩ (show 0 ≤ (I 773) ∧ (I 773) ≤ 1501 by first | assumption | omega)) (fun r368 M369 q370 => ?_)
                  rcases q370 with ⟨g13371, g14372, g15373, e374, hR370a⟩
                  rw [e374]
                  replace hR370a : w_Rep w_TC fr X u l (w_up (w_up (w_up I 776 (y37_6)) 775 (3)) 773 ((I 773) + 1)) (w_upF (w_upF (w_upF A 13 g13371) 14 g14372) 15 g15373) B C M369 := hR370a
                  show w_W _ _ _ (188, [(7, .long (-(g37_4))), (0, .ref 12), (1, .int (Int32.ofInt (p))), (2, .int (Int32.ofInt (1))), (3, .int (Int32.ofInt (x210))), (4, .long (g37_4)), (6, .int (Int32.ofInt (y37_6)))], [], M369) _
                  refine w_fin (r := .inl none) (M' := M369) rfl ?_
                  exact ⟨(w_up (w_up (w_up I 776 (y37_6)) 775 (3)) 773 ((I 773) + 1)), (w_upF (w_upF (w_upF A 13 g13371) 14 g14372) 15 g15373), B, C, rfl, hR370a, (show c_fr c_ts c_ta I A (w_up (w_up (w_up I 776 (y37_6)) 775 (3)) 773 ((I 773) + 1)) (w_upF (w_upF (w_upF A 13 g13371) 14 g14372) 15 g15373) by exact (c_fr_upF (c_fr_upF (c_fr_upF (c_fr_up (c_fr_up (c_fr_up c_fr_refl rfl) rfl) rfl) rfl) rfl) rfl)), (show 36 ≤ (I 200) ∧ (I 200) ≤ 419 ∧ 0 ≤ (I 202) ∧ (I 202) ≤ 24 by (repeat' apply And.intro) <;> first | assumption | omega), (show ∀ i, (A 5) i ≤ 24 by exact hLN), (show (I 773) + 1 = (I 773) + 1 ∧ (I 65) = (I 65) by (repeat' apply And.intro) <;> first | assumption | omega)⟩
                · have h362 : ¬ (x359 < 0) := h362
                  show w_W _ _ _ (165, [(7, .long (-(g37_4))), (0, .ref 12), (1, .int (Int32.ofInt (p))), (2, .int (Int32.ofInt (1))), (3, .int (Int32.ofInt (x210))), (4, .long (g37_4)), (6, .int (Int32.ofInt (y37_6)))], [], M329) _
                  refine w_adv (n := 3) (F' := (171, [(7, .long (-(g37_4))), (0, .ref 12), (1, .int (Int32.ofInt (p))), (2, .int (Int32.ofInt (1))), (3, .int (Int32.ofInt (x210))), (4, .long (g37_4)), (6, .int (Int32.ofInt (y37_6)))], [.int (lg_cmp (-(g37_4)) (2147483647))], M329)) rfl ?_
                  refine w_int (fun x375 r376 e377 => ?_)
                  obtain ⟨r376a, r376b⟩ := r376
                  refine w_br1 (a := x375) rfl rfl ⟨by omega, by omega⟩ (fun h378 => ?_) (fun h378 => ?_)
                  · have h378 : x375 ≤ 0 := h378
                    show w_W _ _ _ (179, [(7, .long (-(g37_4))), (0, .ref 12), (1, .int (Int32.ofInt (p))), (2, .int (Int32.ofInt (1))), (3, .int (Int32.ofInt (x210))), (4, .long (g37_4)), (6, .int (Int32.ofInt (y37_6)))], [], M329) _
                    refine w_adv (n := 5) (F' := (185, [(7, .long (-(g37_4))), (0, .ref 12), (1, .int (Int32.ofInt (p))), (2, .int (Int32.ofInt (1))), (3, .int (Int32.ofInt (x210))), (4, .long (g37_4)), (6, .int (Int32.ofInt (y37_6)))], [.int ((-(g37_4)).toInt32), .int (Int32.ofInt (p)), .int (Int32.ofInt (4)), .ref 12], M329)) rfl ?_
                    refine w_int (fun x379 r380 e381 => ?_)
                    obtain ⟨r380a, r380b⟩ := r380
                    refine w_call (cm := 52) (as := [(0, .ref 12), (1, .int (Int32.ofInt (4))), (2, .int (Int32.ofInt (p))), (3, .int (Int32.ofInt (x379)))]) (rest := []) (o := some (7, 12)) rfl (w_fitR hR330 rfl) (c_Tokens_add (4) (p) (x379) hR330 (show 1 ≤ d by omega) ⟨by omega, by omega⟩ ⟨by omega, by omega⟩ ⟨by omega, by omega⟩ (show 0 ≤ (I 773) ∧ (I 773) ≤ 1501 by first | assumption | omega)) (fun r382 M383 q384 => ?_)
                    rcases q384 with ⟨g13385, g14386, g15387, e388, hR384a⟩
                    rw [e388]
                    replace hR384a : w_Rep w_TC fr X u l (w_up (w_up I 776 (y37_6)) 773 ((I 773) + 1)) (w_upF (w_upF (w_upF A 13 g13385) 14 g14386) 15 g15387) B C M383 := hR384a
                    show w_W _ _ _ (188, [(7, .long (-(g37_4))), (0, .ref 12), (1, .int (Int32.ofInt (p))), (2, .int (Int32.ofInt (1))), (3, .int (Int32.ofInt (x210))), (4, .long (g37_4)), (6, .int (Int32.ofInt (y37_6)))], [], M383) _
                    refine w_fin (r := .inl none) (M' := M383) rfl ?_
                    exact ⟨(w_up (w_up I 776 (y37_6)) 773 ((I 773) + 1)), (w_upF (w_upF (w_upF A 13 g13385) 14 g14386) 15 g15387), B, C, rfl, hR384a, (show c_fr c_ts c_ta I A (w_up (w_up I 776 (y37_6)) 773 ((I 773) + 1)) (w_upF (w_upF (w_upF A 13 g13385) 14 g14386) 15 g15387) by exact (c_fr_upF (c_fr_upF (c_fr_upF (c_fr_up (c_fr_up c_fr_refl rfl) rfl) rfl) rfl) rfl)), (show 36 ≤ (I 200) ∧ (I 200) ≤ 419 ∧ 0 ≤ (I 202) ∧ (I 202) ≤ 24 by (repeat' apply And.intro) <;> first | assumption | omega), (show ∀ i, (A 5) i ≤ 24 by exact hLN), (show (I 773) + 1 = (I 773) + 1 ∧ (I 65) = (I 65) by (repeat' apply And.intro) <;> first | assumption | omega)⟩
                  · have h378 : ¬ (x375 ≤ 0) := h378
                    show w_W _ _ _ (174, [(7, .long (-(g37_4))), (0, .ref 12), (1, .int (Int32.ofInt (p))), (2, .int (Int32.ofInt (1))), (3, .int (Int32.ofInt (x210))), (4, .long (g37_4)), (6, .int (Int32.ofInt (y37_6)))], [], M329) _
                    refine w_adv (n := 2) (F' := (176, [(7, .long (-(g37_4))), (0, .ref 12), (1, .int (Int32.ofInt (p))), (2, .int (Int32.ofInt (1))), (3, .int (Int32.ofInt (x210))), (4, .long (g37_4)), (6, .int (Int32.ofInt (y37_6)))], [.int (Int32.ofInt (3)), .ref 12], M329)) rfl ?_
                    refine w_pf hR330 rfl rfl rfl rfl (show w_in (3) from ⟨by omega, by omega⟩) (fun h => absurd h (by decide)) (fun M389 hR390 => ?_)
                    replace hR390 : w_Rep w_TC fr X u l (w_up (w_up I 776 (y37_6)) 775 (3)) A B C M389 := hR390
                    refine w_adv (n := 5) (F' := (185, [(7, .long (-(g37_4))), (0, .ref 12), (1, .int (Int32.ofInt (p))), (2, .int (Int32.ofInt (1))), (3, .int (Int32.ofInt (x210))), (4, .long (g37_4)), (6, .int (Int32.ofInt (y37_6)))], [.int ((-(g37_4)).toInt32), .int (Int32.ofInt (p)), .int (Int32.ofInt (4)), .ref 12], M389)) rfl ?_
                    refine w_int (fun x391 r392 e393 => ?_)
                    obtain ⟨r392a, r392b⟩ := r392
                    refine w_call (cm := 52) (as := [(0, .ref 12), (1, .int (Int32.ofInt (4))), (2, .int (Int32.ofInt (p))), (3, .int (Int32.ofInt (x391)))]) (rest := []) (o := some (7, 12)) rfl (w_fitR hR390 rfl) (c_Tokens_add (4) (p) (x391) hR390 (show 1 ≤ d by omega) ⟨by omega, by omega⟩ ⟨by omega, by omega⟩ ⟨by omega, by omega⟩ (show 0 ≤ (I 773) ∧ (I 773) ≤ 1501 by first | assumption | omega)) (fun r394 M395 q396 => ?_)
                    rcases q396 with ⟨g13397, g14398, g15399, e400, hR396a⟩
                    rw [e400]
                    replace hR396a : w_Rep w_TC fr X u l (w_up (w_up (w_up I 776 (y37_6)) 775 (3)) 773 ((I 773) + 1)) (w_upF (w_upF (w_upF A 13 g13397) 14 g14398) 15 g15399) B C M395 := hR396a
                    show w_W _ _ _ (188, [(7, .long (-(g37_4))), (0, .ref 12), (1, .int (Int32.ofInt (p))), (2, .int (Int32.ofInt (1))), (3, .int (Int32.ofInt (x210))), (4, .long (g37_4)), (6, .int (Int32.ofInt (y37_6)))], [], M395) _
                    refine w_fin (r := .inl none) (M' := M395) rfl ?_
                    exact ⟨(w_up (w_up (w_up I 776 (y37_6)) 775 (3)) 773 ((I 773) + 1)), (w_upF (w_upF (w_upF A 13 g13397) 14 g14398) 15 g15399), B, C, rfl, hR396a, (show c_fr c_ts c_ta I A (w_up (w_up (w_up I 776 (y37_6)) 775 (3)) 773 ((I 773) + 1)) (w_upF (w_upF (w_upF A 13 g13397) 14 g14398) 15 g15399) by exact (c_fr_upF (c_fr_upF (c_fr_upF (c_fr_up (c_fr_up (c_fr_up c_fr_refl rfl) rfl) rfl) rfl) rfl) rfl)), (show 36 ≤ (I 200) ∧ (I 200) ≤ 419 ∧ 0 ≤ (I 202) ∧ (I 202) ≤ 24 by (repeat' apply And.intro) <;> first | assumption | omega), (show ∀ i, (A 5) i ≤ 24 by exact hLN), (show (I 773) + 1 = (I 773) + 1 ∧ (I 65) = (I 65) by (repeat' apply And.intro) <;> first | assumption | omega)⟩
            · have h331 : ¬ (¬ y37_6 = x210) := h331
              show w_W _ _ _ (125, [(7, .long (-(g37_4))), (0, .ref 12), (1, .int (Int32.ofInt (p))), (2, .int (Int32.ofInt (1))), (3, .int (Int32.ofInt (x210))), (4, .long (g37_4)), (6, .int (Int32.ofInt (y37_6)))], [], M329) _
              refine w_adv (n := 2) (F' := (127, [(7, .long (-(g37_4))), (0, .ref 12), (1, .int (Int32.ofInt (p))), (2, .int (Int32.ofInt (1))), (3, .int (Int32.ofInt (x210))), (4, .long (g37_4)), (6, .int (Int32.ofInt (y37_6)))], [.int (Int32.ofInt (1)), .ref 12], M329)) rfl ?_
              refine w_pf hR330 rfl rfl rfl rfl (show w_in (1) from ⟨by omega, by omega⟩) (fun h => absurd h (by decide)) (fun M401 hR402 => ?_)
              replace hR402 : w_Rep w_TC fr X u l (w_up (w_up I 776 (y37_6)) 775 (1)) A B C M401 := hR402
              refine w_adv (n := 6) (F' := (185, [(7, .long (-(g37_4))), (0, .ref 12), (1, .int (Int32.ofInt (p))), (2, .int (Int32.ofInt (1))), (3, .int (Int32.ofInt (x210))), (4, .long (g37_4)), (6, .int (Int32.ofInt (y37_6)))], [.int ((-(g37_4)).toInt32), .int (Int32.ofInt (p)), .int (Int32.ofInt (4)), .ref 12], M401)) rfl ?_
              refine w_int (fun x403 r404 e405 => ?_)
              obtain ⟨r404a, r404b⟩ := r404
              refine w_call (cm := 52) (as := [(0, .ref 12), (1, .int (Int32.ofInt (4))), (2, .int (Int32.ofInt (p))), (3, .int (Int32.ofInt (x403)))]) (rest := []) (o := some (7, 12)) rfl (w_fitR hR402 rfl) (c_Tokens_add (4) (p) (x403) hR402 (show 1 ≤ d by omega) ⟨by omega, by omega⟩ ⟨by omega, by omega⟩ ⟨by omega, by omega⟩ (show 0 ≤ (I 773) ∧ (I 773) ≤ 1501 by first | assumption | omega)) (fun r406 M407 q408 => ?_)
              rcases q408 with ⟨g13409, g14410, g15411, e412, hR408a⟩
              rw [e412]
              replace hR408a : w_Rep w_TC fr X u l (w_up (w_up (w_up I 776 (y37_6)) 775 (1)) 773 ((I 773) + 1)) (w_upF (w_upF (w_upF A 13 g13409) 14 g14410) 15 g15411) B C M407 := hR408a
              show w_W _ _ _ (188, [(7, .long (-(g37_4))), (0, .ref 12), (1, .int (Int32.ofInt (p))), (2, .int (Int32.ofInt (1))), (3, .int (Int32.ofInt (x210))), (4, .long (g37_4)), (6, .int (Int32.ofInt (y37_6)))], [], M407) _
              refine w_fin (r := .inl none) (M' := M407) rfl ?_
              exact ⟨(w_up (w_up (w_up I 776 (y37_6)) 775 (1)) 773 ((I 773) + 1)), (w_upF (w_upF (w_upF A 13 g13409) 14 g14410) 15 g15411), B, C, rfl, hR408a, (show c_fr c_ts c_ta I A (w_up (w_up (w_up I 776 (y37_6)) 775 (1)) 773 ((I 773) + 1)) (w_upF (w_upF (w_upF A 13 g13409) 14 g14410) 15 g15411) by exact (c_fr_upF (c_fr_upF (c_fr_upF (c_fr_up (c_fr_up (c_fr_up c_fr_refl rfl) rfl) rfl) rfl) rfl) rfl)), (show 36 ≤ (I 200) ∧ (I 200) ≤ 419 ∧ 0 ≤ (I 202) ∧ (I 202) ≤ 24 by (repeat' apply And.intro) <;> first | assumption | omega), (show ∀ i, (A 5) i ≤ 24 by exact hLN), (show (I 773) + 1 = (I 773) + 1 ∧ (I 65) = (I 65) by (repeat' apply And.intro) <;> first | assumption | omega)⟩
    refine w_ls (ls := [(0, .ref 12), (1, .int (Int32.ofInt (p))), (2, .int (Int32.ofInt (1))), (3, .int (Int32.ofInt (x210))), (4, .long (0)), (6, .int (Int32.ofInt (x210)))]) (show List.Nodup [0, 1, 2, 3, 4, 6] by decide) (show List.Nodup [6, 4, 3, 2, 0, 1] by decide) (List.forall_mem_cons.mpr ⟨(List.Mem.tail _ (List.Mem.tail _ (List.Mem.tail _ (List.Mem.tail _ (List.Mem.head _))))), (List.forall_mem_cons.mpr ⟨(List.Mem.tail _ (List.Mem.tail _ (List.Mem.tail _ (List.Mem.tail _ (List.Mem.tail _ (List.Mem.head _)))))), (List.forall_mem_cons.mpr ⟨(List.Mem.tail _ (List.Mem.tail _ (List.Mem.tail _ (List.Mem.head _)))), (List.forall_mem_cons.mpr ⟨(List.Mem.tail _ (List.Mem.tail _ (List.Mem.head _))), (List.forall_mem_cons.mpr ⟨(List.Mem.tail _ (List.Mem.head _)), (List.forall_mem_cons.mpr ⟨(List.Mem.head _), (fun _ h => by cases h)⟩)⟩)⟩)⟩)⟩)⟩) ?_
    exact lp37 (((if x210 < (I 65) then (I 65) - x210 else 0) : Int).toNat + 1)  (x210) (0) ⟨by omega, by omega⟩  (show (if x210 < (I 65) then (I 65) - x210 else 0) < ((((if x210 < (I 65) then (I 65) - x210 else 0) : Int).toNat + 1 : Nat) : Int) by omega)
