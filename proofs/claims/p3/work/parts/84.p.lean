/-! PARSER of the class: exp. -/
/-! c_exp -/
set_option maxHeartbeats 100000000 in
set_option maxRecDepth 100000 in
theorem c_exp {L : Nat} {xs : Nat → Int32} {d : Nat} {fr : Nat → Bool} {X : Nat → Option (q_C (Nat → Int32))} {u l : Nat} {I : Nat → Int} {A : Nat → Int → Int} {B C : Nat → Nat} {M : w_M} (hA : c_ALL L xs d) (hR : w_Rep w_TC fr X u l I A B C M) (hd : 10 * (24 - (I 2439)) + 13 ≤ (d : Int)) (hl : l ≤ 7000000) (hNU : (0 ≤ (I 2436) ∧ (I 2436) ≤ (I 773) ∧ (I 773) ≤ 1501 ∧ ((I 2437) = 0 ∨ (I 2436) < (I 773))) ∧ (0 ≤ (I 2439) ∧ (I 2439) ≤ 24 ∧ 0 ≤ (I 2117)) ∧ 0 ≤ (I 1670) ∧ (I 1670) ≤ 2 * (I 2436) + 1) : w_W (z_P L xs) d 89 (0, [(0, .ref 38)], [], M) (c_exp_Q fr X u l I A B C M) := by
  obtain ⟨d, rfl⟩ : ∃ d0, d = d0 + 1 := ⟨d - 1, by omega⟩
  refine w_adv (n := 1) (F' := (1, [(0, .ref 38)], [.ref 38], M)) rfl ?_
  refine w_call (cm := 90) (as := [(0, .ref 38)]) (rest := []) (o := some (4, 38)) rfl (w_fitR hR rfl) (c_compared (c_ALL_dn hA) hR (show 10 * (24 - (I 2439)) + 12 ≤ (d : Int) by omega) (show l ≤ 7000000 by first | assumption | omega) (show (0 ≤ (I 2436) ∧ (I 2436) ≤ (I 773) ∧ (I 773) ≤ 1501 ∧ ((I 2437) = 0 ∨ (I 2436) < (I 773))) ∧ (0 ≤ (I 2439) ∧ (I 2439) ≤ 24 ∧ 0 ≤ (I 2117)) ∧ 0 ≤ (I 1670) ∧ (I 1670) ≤ 2 * (I 2436) + 1 by (repeat' apply And.intro) <;> first | assumption | omega)) (fun r1 M2 q3 => ?_)
  rcases q3 with ⟨v4, I3a, A3a, B3a, C3a, e5, ⟨r6, r7⟩, hR3a, f8, f9, f10, f11, f12⟩ | ⟨t13, I3b, A3b, B3b, C3b, e14, hR3b, f15, f16, f17⟩
  · rw [e5]
    replace hR3a : w_Rep w_TC fr X u l I3a A3a B3a C3a M2 := hR3a
    replace f8 : c_fi c_ps I I3a := f8
    replace f9 : c_fa c_pa A A3a := f9
    replace f10 : (0 ≤ (I3a 2436) ∧ (I3a 2436) ≤ (I3a 773) ∧ ((I3a 2437) = 0 ∨ (I3a 2436) < (I3a 773))) ∧ ((I3a 773) = (I 773) ∧ (I3a 2439) = (I 2439) ∧ 0 ≤ (I3a 2117)) ∧ (I 2436) + 1 ≤ (I3a 2436) ∧ (I3a 1670) + 1 ≤ (I 1670) + 2 * ((I3a 2436) - (I 2436)) ∧ (I 1670) ≤ (I3a 1670) := f10
    obtain ⟨⟨n18, n19, n20⟩, ⟨n21, n22, n23⟩, n24, n25, n26⟩ := id f10
    clear f10
    replace f11 : c_agl A A3a (I 1670) := f11
    replace f12 : c_On A3a (c_r (I 2439) 1) v4 (I 1670) (I3a 1670) := f12
    have g27 : c_agl A A3a (I 1670) := c_agl_trans c_agl_refl f11 (show (I 1670) ≤ (I 1670) by omega)
    have k28 : c_Wn A3a (c_r (I 2439) 2) v4 (I 1670) (I3a 1670) := c_Wn_up (c_On_W f12) (show c_r (I 2439) 1 + 1 ≤ c_r (I 2439) 2 by unfold c_r; omega)
    obtain ⟨b29, b30⟩ := c_W_in k28.1
    show w_W _ _ _ (4, [(0, .ref 38)], [.int (Int32.ofInt (v4))], M2) _
    refine w_adv (n := 2) (F' := (6, [(1, .int (Int32.ofInt (v4))), (0, .ref 38)], [.ref 38], M2)) rfl ?_
    refine w_gf (v := .int (Int32.ofInt ((I3a 2437)))) hR3a rfl rfl rfl rfl ?_
    obtain ⟨r31, r32⟩ : -2147483648 ≤ (I3a 2437) ∧ (I3a 2437) ≤ 2147483647 := hR3a.ri 2437
    refine w_adv (n := 1) (F' := (11, [(1, .int (Int32.ofInt (v4))), (0, .ref 38)], [.int (Int32.ofInt (18)), .int (Int32.ofInt ((I3a 2437)))], M2)) rfl ?_
    refine w_br2 (a := (I3a 2437)) (b := 18) rfl rfl ⟨by omega, by omega⟩ ⟨by omega, by omega⟩ (fun h33 => ?_) (fun h33 => ?_)
    · have h33 : (I3a 2437) = 18 := h33
      show w_W _ _ _ (16, [(1, .int (Int32.ofInt (v4))), (0, .ref 38)], [], M2) _
      refine w_adv (n := 1) (F' := (17, [(1, .int (Int32.ofInt (v4))), (0, .ref 38)], [.ref 38], M2)) rfl ?_
      refine w_gf (v := .ref 26) hR3a rfl rfl rfl rfl ?_
      refine w_adv (n := 4) (F' := (25, [(1, .int (Int32.ofInt (v4))), (0, .ref 38)], [.int (Int32.ofInt ((-1))), .int (Int32.ofInt ((-1))), .int (Int32.ofInt (v4)), .int (Int32.ofInt (7)), .ref 26], M2)) rfl ?_
      refine w_call (cm := 94) (as := [(0, .ref 26), (1, .int (Int32.ofInt (7))), (2, .int (Int32.ofInt (v4))), (3, .int (Int32.ofInt ((-1)))), (4, .int (Int32.ofInt ((-1))))]) (rest := []) (o := some (8, 26)) rfl (w_fitR hR3a rfl) (c_mkn (7) (v4) ((-1)) ((-1)) hR3a (show 2 ≤ d by omega) ⟨by omega, by omega⟩ ⟨by omega, by omega⟩ ⟨by omega, by omega⟩ ⟨by omega, by omega⟩ (show 0 ≤ (I3a 1670) ∧ (I3a 1670) < 3016 by first | assumption | omega)) (fun r34 M35 q36 => ?_)
      rcases q36 with ⟨A37, e38, hR36a, f39, f40⟩
      rw [e38]
      replace hR36a : w_Rep w_TC fr X u l (w_up I3a 1670 ((I3a 1670) + 1)) A37 B3a C3a M35 := hR36a
      replace f39 : c_fa c_pa A3a A37 := f39
      replace f40 : c_mk A3a A37 (I3a 1670) 7 v4 (-1) (-1) := f40
      have k41 : c_Pxn A37 (c_r (I 2439) 2) (I3a 1670) (I3a 1670) (I 1670) := c_Pxn_mk f40 (c_Wn_win k28 (show (I 1670) ≤ (I 1670) by omega) (show (I3a 1670) ≤ (I3a 1670) by omega)) (show 0 ≤ (I 1670) by omega)
      have g42 : c_agl A A37 (I 1670) := c_agl_trans g27 f40.1 (show (I 1670) ≤ (I3a 1670) by omega)
      show w_W _ _ _ (28, [(1, .int (Int32.ofInt (v4))), (0, .ref 38)], [.int (Int32.ofInt ((I3a 1670)))], M35) _
      refine w_adv (n := 5) (F' := (34, [(4, .int (Int32.ofInt (0))), (3, .int (Int32.ofInt ((I3a 1670)))), (2, .int (Int32.ofInt ((I3a 1670)))), (1, .int (Int32.ofInt (v4))), (0, .ref 38)], [], M35)) rfl ?_
      have lp34 : ∀ fu34 : Nat, ∀ (y34_3 : Int) (y34_4 : Int) (I_34 : Nat → Int) (A_34 : Nat → Int → Int) (B_34 C_34 : Nat → Nat) (M_34 : w_M) (hR_34 : w_Rep w_TC fr X u l I_34 A_34 B_34 C_34 M_34), w_in y34_3 → w_in y34_4 → c_fi c_ps I I_34 → c_fa c_pa A A_34 → (0 ≤ (I_34 2436) ∧ (I_34 2436) ≤ (I_34 773) ∧ ((I_34 2437) = 0 ∨ (I_34 2436) < (I_34 773))) ∧ ((I_34 773) = (I 773) ∧ (I_34 2439) = (I 2439) ∧ 0 ≤ (I_34 2117)) ∧ (I 2436) + 1 ≤ (I_34 2436) ∧ (I_34 1670) + 0 ≤ (I 1670) + 2 * ((I_34 2436) - (I 2436)) ∧ (I 1670) ≤ (I_34 1670) → c_agl A A_34 (I 1670) → c_Exq A_34 (c_r (I 2439) 2) (I_34 2437) (I3a 1670) y34_3 (I 1670) (I_34 1670) → 0 ≤ y34_4 ∧ 2 * y34_4 + 1 ≤ (I_34 2436) - (I 2436) ∧ ((I_34 2437) = 18 ∨ (I_34 1670) + 1 ≤ (I 1670) + 2 * ((I_34 2436) - (I 2436))) → 1500 - y34_4 < (fu34 : Int) → w_W (z_P L xs) (d + 1) 89 (34, [(0, .ref 38), (1, .int (Int32.ofInt (v4))), (2, .int (Int32.ofInt ((I3a 1670)))), (3, .int (Int32.ofInt (y34_3))), (4, .int (Int32.ofInt (y34_4)))], [], M_34) (c_exp_Q fr X u l I A B C M) := by
        intro fu34
        induction fu34 with
        | zero =>
          intro y34_3 y34_4 I_34 A_34 B_34 C_34 M_34 hR_34 ⟨ra_y34_3, rb_y34_3⟩ ⟨ra_y34_4, rb_y34_4⟩ hi34_0 hi34_1 hi34_2 hi34_3 hi34_4 hi34_5 hn34
          exfalso
          omega
        | succ fu34 ih34 =>
          intro y34_3 y34_4 I_34 A_34 B_34 C_34 M_34 hR_34 ⟨ra_y34_3, rb_y34_3⟩ ⟨ra_y34_4, rb_y34_4⟩ hi34_0 hi34_1 hi34_2 hi34_3 hi34_4 hi34_5 hn34
          refine w_adv (n := 2) (F' := (39, [(0, .ref 38), (1, .int (Int32.ofInt (v4))), (2, .int (Int32.ofInt ((I3a 1670)))), (3, .int (Int32.ofInt (y34_3))), (4, .int (Int32.ofInt (y34_4)))], [.int (Int32.ofInt (1500)), .int (Int32.ofInt (y34_4))], M_34)) rfl ?_
          refine w_br2 (a := y34_4) (b := 1500) rfl rfl ⟨by omega, by omega⟩ ⟨by omega, by omega⟩ (fun h43 => ?_) (fun h43 => ?_)
          · have h43 : y34_4 ≥ 1500 := h43
            exfalso; omega
          · have h43 : ¬ (y34_4 ≥ 1500) := h43
            show w_W _ _ _ (42, [(0, .ref 38), (1, .int (Int32.ofInt (v4))), (2, .int (Int32.ofInt ((I3a 1670)))), (3, .int (Int32.ofInt (y34_3))), (4, .int (Int32.ofInt (y34_4)))], [], M_34) _
            refine w_adv (n := 1) (F' := (43, [(0, .ref 38), (1, .int (Int32.ofInt (v4))), (2, .int (Int32.ofInt ((I3a 1670)))), (3, .int (Int32.ofInt (y34_3))), (4, .int (Int32.ofInt (y34_4)))], [.ref 38], M_34)) rfl ?_
            refine w_gf (v := .int (Int32.ofInt ((I_34 2437)))) hR_34 rfl rfl rfl rfl ?_
            obtain ⟨r44, r45⟩ : -2147483648 ≤ (I_34 2437) ∧ (I_34 2437) ≤ 2147483647 := hR_34.ri 2437
            refine w_adv (n := 1) (F' := (48, [(0, .ref 38), (1, .int (Int32.ofInt (v4))), (2, .int (Int32.ofInt ((I3a 1670)))), (3, .int (Int32.ofInt (y34_3))), (4, .int (Int32.ofInt (y34_4)))], [.int (Int32.ofInt (18)), .int (Int32.ofInt ((I_34 2437)))], M_34)) rfl ?_
            refine w_br2 (a := (I_34 2437)) (b := 18) rfl rfl ⟨by omega, by omega⟩ ⟨by omega, by omega⟩ (fun h46 => ?_) (fun h46 => ?_)
            · have h46 : ¬ (I_34 2437) = 18 := h46
              show w_W _ _ _ (104, [(0, .ref 38), (1, .int (Int32.ofInt (v4))), (2, .int (Int32.ofInt ((I3a 1670)))), (3, .int (Int32.ofInt (y34_3))), (4, .int (Int32.ofInt (y34_4)))], [], M_34) _
              have k104 : c_Wn A_34 (c_r (I 2439) 3) (I3a 1670) (I 1670) (I_34 1670) := c_Wn_up (c_Exq_no hi34_4 (by omega)) (show (c_r (I 2439) 2) + 1 ≤ (c_r (I 2439) 3) by unfold c_r; omega)
              refine w_adv (n := 1) (F' := (105, [(0, .ref 38), (1, .int (Int32.ofInt (v4))), (2, .int (Int32.ofInt ((I3a 1670)))), (3, .int (Int32.ofInt (y34_3))), (4, .int (Int32.ofInt (y34_4)))], [.int (Int32.ofInt ((I3a 1670)))], M_34)) rfl ?_
              refine w_fin (r := .inl (some ((I3a 1670)))) (M' := M_34) rfl ?_
              exact Or.inl ⟨(I3a 1670), I_34, A_34, B_34, C_34, rfl, ⟨by omega, by omega⟩, hR_34, (show c_fi c_ps I I_34 by exact hi34_0), (show c_fa c_pa A A_34 by exact hi34_1), (show (0 ≤ (I_34 2436) ∧ (I_34 2436) ≤ (I_34 773) ∧ ((I_34 2437) = 0 ∨ (I_34 2436) < (I_34 773))) ∧ ((I_34 773) = (I 773) ∧ (I_34 2439) = (I 2439) ∧ 0 ≤ (I_34 2117)) ∧ (I 2436) + 1 ≤ (I_34 2436) ∧ (I_34 1670) + 1 ≤ (I 1670) + 2 * ((I_34 2436) - (I 2436)) ∧ (I 1670) ≤ (I_34 1670) by (repeat' apply And.intro) <;> first | assumption | omega), (show c_agl A A_34 (I 1670) by exact hi34_3), (show c_Wn A_34 (c_r (I 2439) 3) (I3a 1670) (I 1670) (I_34 1670) by exact c_Wn_win (c_Wn_up k104 (show c_r (I 2439) 3 ≤ c_r (I 2439) 3 by unfold c_r; omega)) (show (I 1670) ≤ (I 1670) by omega) (show (I_34 1670) ≤ (I_34 1670) by omega))⟩
            · have h46 : ¬ (¬ (I_34 2437) = 18) := h46
              show w_W _ _ _ (51, [(0, .ref 38), (1, .int (Int32.ofInt (v4))), (2, .int (Int32.ofInt ((I3a 1670)))), (3, .int (Int32.ofInt (y34_3))), (4, .int (Int32.ofInt (y34_4)))], [], M_34) _
              have k51 : c_Pxn A_34 (c_r (I 2439) 2) (I3a 1670) y34_3 (I 1670) := (c_Exq_18 hi34_4 (by omega)).1
              have k51b := (c_Exq_18 hi34_4 (by omega)).2
              obtain ⟨k51c, k51d⟩ := c_Pxn_l k51
              refine w_adv (n := 1) (F' := (52, [(0, .ref 38), (1, .int (Int32.ofInt (v4))), (2, .int (Int32.ofInt ((I3a 1670)))), (3, .int (Int32.ofInt (y34_3))), (4, .int (Int32.ofInt (y34_4)))], [.ref 38], M_34)) rfl ?_
              refine w_call (cm := 80) (as := [(0, .ref 38)]) (rest := []) (o := some (4, 38)) rfl (w_fitR hR_34 rfl) (c_advance hR_34 (show 3 ≤ d by omega) (show l ≤ 7000000 by first | assumption | omega) (show -1 ≤ (I_34 2436) ∧ (I_34 2436) < (I_34 773) ∧ (I_34 773) ≤ 1501 by first | assumption | omega)) (fun r47 M48 q49 => ?_)
              rcases q49 with ⟨zt50, zk51, zv52, e53, hR49a, f54⟩ | ⟨t55, I49b, A49b, B49b, C49b, e56, hR49b, f57, f58, f59⟩
              · rw [e53]
                replace hR49a : w_Rep w_TC fr X u l (w_up (w_up (w_up (w_up I_34 2436 ((I_34 2436) + 1)) 2441 (zt50)) 2437 (zk51)) 2438 (zv52)) A_34 B_34 C_34 M48 := hR49a
                replace f54 : ((I_34 2436) + 1 < (I_34 773) ∨ zk51 = 0) := f54
                show w_W _ _ _ (55, [(0, .ref 38), (1, .int (Int32.ofInt (v4))), (2, .int (Int32.ofInt ((I3a 1670)))), (3, .int (Int32.ofInt (y34_3))), (4, .int (Int32.ofInt (y34_4)))], [], M48) _
                refine w_adv (n := 1) (F' := (56, [(0, .ref 38), (1, .int (Int32.ofInt (v4))), (2, .int (Int32.ofInt ((I3a 1670)))), (3, .int (Int32.ofInt (y34_3))), (4, .int (Int32.ofInt (y34_4)))], [.ref 38], M48)) rfl ?_
                refine w_call (cm := 90) (as := [(0, .ref 38)]) (rest := []) (o := some (4, 38)) rfl (w_fitR hR49a rfl) (c_compared (c_ALL_dn hA) hR49a (show 10 * (24 - (I_34 2439)) + 12 ≤ (d : Int) by omega) (show l ≤ 7000000 by first | assumption | omega) (show (0 ≤ (I_34 2436) + 1 ∧ (I_34 2436) + 1 ≤ (I_34 773) ∧ (I_34 773) ≤ 1501 ∧ (zk51 = 0 ∨ (I_34 2436) + 1 < (I_34 773))) ∧ (0 ≤ (I_34 2439) ∧ (I_34 2439) ≤ 24 ∧ 0 ≤ (I_34 2117)) ∧ 0 ≤ (I_34 1670) ∧ (I_34 1670) ≤ 2 * ((I_34 2436) + 1) + 1 by (repeat' apply And.intro) <;> first | assumption | omega)) (fun r60 M61 q62 => ?_)
                rcases q62 with ⟨v63, I62a, A62a, B62a, C62a, e64, ⟨r65, r66⟩, hR62a, f67, f68, f69, f70, f71⟩ | ⟨t72, I62b, A62b, B62b, C62b, e73, hR62b, f74, f75, f76⟩
                · rw [e64]
                  replace hR62a : w_Rep w_TC fr X u l I62a A62a B62a C62a M61 := hR62a
                  replace f67 : c_fi c_ps (w_up (w_up (w_up (w_up I_34 2436 ((I_34 2436) + 1)) 2441 (zt50)) 2437 (zk51)) 2438 (zv52)) I62a := f67
                  replace f68 : c_fa c_pa A_34 A62a := f68
                  replace f69 : (0 ≤ (I62a 2436) ∧ (I62a 2436) ≤ (I62a 773) ∧ ((I62a 2437) = 0 ∨ (I62a 2436) < (I62a 773))) ∧ ((I62a 773) = (I_34 773) ∧ (I62a 2439) = (I_34 2439) ∧ 0 ≤ (I62a 2117)) ∧ ((I_34 2436) + 1) + 1 ≤ (I62a 2436) ∧ (I62a 1670) + 1 ≤ (I_34 1670) + 2 * ((I62a 2436) - ((I_34 2436) + 1)) ∧ (I_34 1670) ≤ (I62a 1670) := f69
                  obtain ⟨⟨n77, n78, n79⟩, ⟨n80, n81, n82⟩, n83, n84, n85⟩ := id f69
                  clear f69
                  replace f70 : c_agl A_34 A62a (I_34 1670) := f70
                  replace f71 : c_On A62a (c_r (I_34 2439) 1) v63 (I_34 1670) (I62a 1670) := f71
                  have k86 : c_Pxn A62a (c_r (I 2439) 2) (I3a 1670) y34_3 (I 1670) := c_Pxn_agl k51 f70 (show 0 ≤ (I 1670) by omega) (show y34_3 < (I_34 1670) by omega)
                  clear k51
                  have g87 : c_agl A A62a (I 1670) := c_agl_trans hi34_3 f70 (show (I 1670) ≤ (I_34 1670) by omega)
                  have k88 : c_Wn A62a (c_r (I 2439) 2) v63 (I_34 1670) (I62a 1670) := c_Wn_up (c_On_W f71) (show c_r (I_34 2439) 1 + 1 ≤ c_r (I 2439) 2 by unfold c_r; omega)
                  obtain ⟨b89, b90⟩ := c_W_in k88.1
                  show w_W _ _ _ (59, [(0, .ref 38), (1, .int (Int32.ofInt (v4))), (2, .int (Int32.ofInt ((I3a 1670)))), (3, .int (Int32.ofInt (y34_3))), (4, .int (Int32.ofInt (y34_4)))], [.int (Int32.ofInt (v63))], M61) _
                  refine w_adv (n := 2) (F' := (62, [(5, .int (Int32.ofInt (v63))), (0, .ref 38), (1, .int (Int32.ofInt (v4))), (2, .int (Int32.ofInt ((I3a 1670)))), (3, .int (Int32.ofInt (y34_3))), (4, .int (Int32.ofInt (y34_4)))], [.ref 38], M61)) rfl ?_
                  refine w_gf (v := .int (Int32.ofInt ((I62a 2437)))) hR62a rfl rfl rfl rfl ?_
                  obtain ⟨r91, r92⟩ : -2147483648 ≤ (I62a 2437) ∧ (I62a 2437) ≤ 2147483647 := hR62a.ri 2437
                  refine w_adv (n := 1) (F' := (67, [(5, .int (Int32.ofInt (v63))), (0, .ref 38), (1, .int (Int32.ofInt (v4))), (2, .int (Int32.ofInt ((I3a 1670)))), (3, .int (Int32.ofInt (y34_3))), (4, .int (Int32.ofInt (y34_4)))], [.int (Int32.ofInt (18)), .int (Int32.ofInt ((I62a 2437)))], M61)) rfl ?_
                  refine w_br2 (a := (I62a 2437)) (b := 18) rfl rfl ⟨by omega, by omega⟩ ⟨by omega, by omega⟩ (fun h93 => ?_) (fun h93 => ?_)
                  · have h93 : ¬ (I62a 2437) = 18 := h93
                    show w_W _ _ _ (85, [(5, .int (Int32.ofInt (v63))), (0, .ref 38), (1, .int (Int32.ofInt (v4))), (2, .int (Int32.ofInt ((I3a 1670)))), (3, .int (Int32.ofInt (y34_3))), (4, .int (Int32.ofInt (y34_4)))], [], M61) _
                    refine w_adv (n := 1) (F' := (86, [(5, .int (Int32.ofInt (v63))), (0, .ref 38), (1, .int (Int32.ofInt (v4))), (2, .int (Int32.ofInt ((I3a 1670)))), (3, .int (Int32.ofInt (y34_3))), (4, .int (Int32.ofInt (y34_4)))], [.ref 38], M61)) rfl ?_
                    refine w_gf (v := .ref 26) hR62a rfl rfl rfl rfl ?_
                    refine w_adv (n := 2) (F' := (92, [(5, .int (Int32.ofInt (v63))), (0, .ref 38), (1, .int (Int32.ofInt (v4))), (2, .int (Int32.ofInt ((I3a 1670)))), (3, .int (Int32.ofInt (y34_3))), (4, .int (Int32.ofInt (y34_4)))], [.int (Int32.ofInt (v63)), .int (Int32.ofInt (y34_3)), .ref 26], M61)) rfl ?_
                    refine w_call (cm := 115) (as := [(0, .ref 26), (1, .int (Int32.ofInt (y34_3))), (2, .int (Int32.ofInt (v63)))]) (rest := []) (o := some (8, 26)) rfl (w_fitR hR62a rfl) (c_stb (y34_3) (v63) hR62a (show 2 ≤ d by omega) ⟨by omega, by omega⟩ ⟨by omega, by omega⟩) (fun r94 M95 q96 => ?_)
                    rcases q96 with ⟨A97, e98, hR96a, f99, f100⟩
                    rw [e98]
                    replace hR96a : w_Rep w_TC fr X u l I62a A97 B62a C62a M95 := hR96a
                    replace f99 : c_fa c_pa A62a A97 := f99
                    replace f100 : c_bw A62a A97 y34_3 v63 := f100
                    have k101 : c_Wn A97 ((c_r (I 2439) 2) + 1) (I3a 1670) (I 1670) (I62a 1670) := c_Pxn_end k86 f100 (show 0 ≤ y34_3 ∧ y34_3 < 3016 by omega) (by rw [show y34_3 + 1 = (I_34 1670) from by omega]; exact k88)
                    have g102 : c_agl A62a A97 (I 1670) := c_agl_bw f100 (Or.inl (show (I 1670) ≤ y34_3 by omega))
                    have g103 : c_agl A A97 (I 1670) := c_agl_trans g87 g102 (show (I 1670) ≤ (I 1670) by omega)
                    show w_W _ _ _ (95, [(5, .int (Int32.ofInt (v63))), (0, .ref 38), (1, .int (Int32.ofInt (v4))), (2, .int (Int32.ofInt ((I3a 1670)))), (3, .int (Int32.ofInt (y34_3))), (4, .int (Int32.ofInt (y34_4)))], [], M95) _
                    refine w_adv (n := 2) (F' := (98, [(3, .int (Int32.ofInt (v63))), (5, .int (Int32.ofInt (v63))), (0, .ref 38), (1, .int (Int32.ofInt (v4))), (2, .int (Int32.ofInt ((I3a 1670)))), (4, .int (Int32.ofInt (y34_4)))], [], M95)) rfl ?_
                    refine w_inc (nL := 6) (a := y34_4) rfl rfl rfl (by decide) ?_
                    refine w_adv (n := 1) (F' := (34, [(4, .int (Int32.ofInt (y34_4 + 1))), (3, .int (Int32.ofInt (v63))), (5, .int (Int32.ofInt (v63))), (0, .ref 38), (1, .int (Int32.ofInt (v4))), (2, .int (Int32.ofInt ((I3a 1670))))], [], M95)) rfl ?_
                    refine w_ls (ls := [(0, .ref 38), (1, .int (Int32.ofInt (v4))), (2, .int (Int32.ofInt ((I3a 1670)))), (3, .int (Int32.ofInt (v63))), (4, .int (Int32.ofInt (y34_4 + 1)))]) (show List.Nodup [0, 1, 2, 3, 4] by decide) (show List.Nodup [4, 3, 5, 0, 1, 2] by decide) (List.forall_mem_cons.mpr ⟨(List.Mem.tail _ (List.Mem.tail _ (List.Mem.tail _ (List.Mem.head _)))), (List.forall_mem_cons.mpr ⟨(List.Mem.tail _ (List.Mem.tail _ (List.Mem.tail _ (List.Mem.tail _ (List.Mem.head _))))), (List.forall_mem_cons.mpr ⟨(List.Mem.tail _ (List.Mem.tail _ (List.Mem.tail _ (List.Mem.tail _ (List.Mem.tail _ (List.Mem.head _)))))), (List.forall_mem_cons.mpr ⟨(List.Mem.tail _ (List.Mem.head _)), (List.forall_mem_cons.mpr ⟨(List.Mem.head _), (fun _ h => by cases h)⟩)⟩)⟩)⟩)⟩) ?_
                    exact ih34  (v63) (y34_4 + 1) I62a A97 B62a C62a M95 hR96a ⟨by omega, by omega⟩ ⟨by omega, by omega⟩ (show c_fi c_ps I I62a by exact (c_fi_trans (c_fi_up (c_fi_up (c_fi_up (c_fi_up hi34_0 rfl) rfl) rfl) rfl) f67)) (show c_fa c_pa A A97 by exact (c_fa_trans (c_fa_trans hi34_1 f68) f99)) (show (0 ≤ (I62a 2436) ∧ (I62a 2436) ≤ (I62a 773) ∧ ((I62a 2437) = 0 ∨ (I62a 2436) < (I62a 773))) ∧ ((I62a 773) = (I 773) ∧ (I62a 2439) = (I 2439) ∧ 0 ≤ (I62a 2117)) ∧ (I 2436) + 1 ≤ (I62a 2436) ∧ (I62a 1670) + 0 ≤ (I 1670) + 2 * ((I62a 2436) - (I 2436)) ∧ (I 1670) ≤ (I62a 1670) by (repeat' apply And.intro) <;> first | assumption | omega) (show c_agl A A97 (I 1670) by exact g103) (show c_Exq A97 (c_r (I 2439) 2) (I62a 2437) (I3a 1670) v63 (I 1670) (I62a 1670) by exact Or.inr ⟨by omega, k101⟩) (show 0 ≤ (y34_4 + 1) ∧ 2 * (y34_4 + 1) + 1 ≤ (I62a 2436) - (I 2436) ∧ ((I62a 2437) = 18 ∨ (I62a 1670) + 1 ≤ (I 1670) + 2 * ((I62a 2436) - (I 2436))) by omega) (show 1500 - (y34_4 + 1) < (fu34 : Int) by omega)
                  · have h93 : ¬ (¬ (I62a 2437) = 18) := h93
                    show w_W _ _ _ (70, [(5, .int (Int32.ofInt (v63))), (0, .ref 38), (1, .int (Int32.ofInt (v4))), (2, .int (Int32.ofInt ((I3a 1670)))), (3, .int (Int32.ofInt (y34_3))), (4, .int (Int32.ofInt (y34_4)))], [], M61) _
                    refine w_adv (n := 1) (F' := (71, [(5, .int (Int32.ofInt (v63))), (0, .ref 38), (1, .int (Int32.ofInt (v4))), (2, .int (Int32.ofInt ((I3a 1670)))), (3, .int (Int32.ofInt (y34_3))), (4, .int (Int32.ofInt (y34_4)))], [.ref 38], M61)) rfl ?_
                    refine w_gf (v := .ref 26) hR62a rfl rfl rfl rfl ?_
                    refine w_adv (n := 4) (F' := (80, [(5, .int (Int32.ofInt (v63))), (0, .ref 38), (1, .int (Int32.ofInt (v4))), (2, .int (Int32.ofInt ((I3a 1670)))), (3, .int (Int32.ofInt (y34_3))), (4, .int (Int32.ofInt (y34_4)))], [.int (Int32.ofInt ((-1))), .int (Int32.ofInt ((-1))), .int (Int32.ofInt (v63)), .int (Int32.ofInt (7)), .ref 26], M61)) rfl ?_
                    refine w_call (cm := 94) (as := [(0, .ref 26), (1, .int (Int32.ofInt (7))), (2, .int (Int32.ofInt (v63))), (3, .int (Int32.ofInt ((-1)))), (4, .int (Int32.ofInt ((-1))))]) (rest := []) (o := some (8, 26)) rfl (w_fitR hR62a rfl) (c_mkn (7) (v63) ((-1)) ((-1)) hR62a (show 2 ≤ d by omega) ⟨by omega, by omega⟩ ⟨by omega, by omega⟩ ⟨by omega, by omega⟩ ⟨by omega, by omega⟩ (show 0 ≤ (I62a 1670) ∧ (I62a 1670) < 3016 by first | assumption | omega)) (fun r104 M105 q106 => ?_)
                    rcases q106 with ⟨A107, e108, hR106a, f109, f110⟩
                    rw [e108]
                    replace hR106a : w_Rep w_TC fr X u l (w_up I62a 1670 ((I62a 1670) + 1)) A107 B62a C62a M105 := hR106a
                    replace f109 : c_fa c_pa A62a A107 := f109
                    replace f110 : c_mk A62a A107 (I62a 1670) 7 v63 (-1) (-1) := f110
                    have k111 : c_Pxn A107 (c_r (I 2439) 2) (I62a 1670) (I62a 1670) (I_34 1670) := c_Pxn_mk f110 (c_Wn_win k88 (show (I_34 1670) ≤ (I_34 1670) by omega) (show (I62a 1670) ≤ (I62a 1670) by omega)) (show 0 ≤ (I_34 1670) by omega)
                    have k112 : c_Pxn A107 (c_r (I 2439) 2) (I3a 1670) y34_3 (I 1670) := c_Pxn_agl k86 f110.1 (show 0 ≤ (I 1670) by omega) (show y34_3 < (I62a 1670) by omega)
                    clear k86
                    have g113 : c_agl A A107 (I 1670) := c_agl_trans g87 f110.1 (show (I 1670) ≤ (I62a 1670) by omega)
                    show w_W _ _ _ (83, [(5, .int (Int32.ofInt (v63))), (0, .ref 38), (1, .int (Int32.ofInt (v4))), (2, .int (Int32.ofInt ((I3a 1670)))), (3, .int (Int32.ofInt (y34_3))), (4, .int (Int32.ofInt (y34_4)))], [.int (Int32.ofInt ((I62a 1670)))], M105) _
                    refine w_adv (n := 2) (F' := (86, [(5, .int (Int32.ofInt ((I62a 1670)))), (0, .ref 38), (1, .int (Int32.ofInt (v4))), (2, .int (Int32.ofInt ((I3a 1670)))), (3, .int (Int32.ofInt (y34_3))), (4, .int (Int32.ofInt (y34_4)))], [.ref 38], M105)) rfl ?_
                    refine w_gf (v := .ref 26) hR106a rfl rfl rfl rfl ?_
                    refine w_adv (n := 2) (F' := (92, [(5, .int (Int32.ofInt ((I62a 1670)))), (0, .ref 38), (1, .int (Int32.ofInt (v4))), (2, .int (Int32.ofInt ((I3a 1670)))), (3, .int (Int32.ofInt (y34_3))), (4, .int (Int32.ofInt (y34_4)))], [.int (Int32.ofInt ((I62a 1670))), .int (Int32.ofInt (y34_3)), .ref 26], M105)) rfl ?_
                    refine w_call (cm := 115) (as := [(0, .ref 26), (1, .int (Int32.ofInt (y34_3))), (2, .int (Int32.ofInt ((I62a 1670))))]) (rest := []) (o := some (8, 26)) rfl (w_fitR hR106a rfl) (c_stb (y34_3) ((I62a 1670)) hR106a (show 2 ≤ d by omega) ⟨by omega, by omega⟩ ⟨by omega, by omega⟩) (fun r114 M115 q116 => ?_)
                    rcases q116 with ⟨A117, e118, hR116a, f119, f120⟩
                    rw [e118]
                    replace hR116a : w_Rep w_TC fr X u l (w_up I62a 1670 ((I62a 1670) + 1)) A117 B62a C62a M115 := hR116a
                    replace f119 : c_fa c_pa A107 A117 := f119
                    replace f120 : c_bw A107 A117 y34_3 (I62a 1670) := f120
                    have k121 : c_Pxn A117 (c_r (I 2439) 2) (I3a 1670) (I62a 1670) (I 1670) := c_Pxn_app k112 f120 (show 0 ≤ y34_3 ∧ y34_3 < 3016 by omega) (show y34_3 < (I62a 1670) by omega) (by rw [show y34_3 + 1 = (I_34 1670) from by omega]; exact k111)
                    have g122 : c_agl A107 A117 (I 1670) := c_agl_bw f120 (Or.inl (show (I 1670) ≤ y34_3 by omega))
                    have g123 : c_agl A A117 (I 1670) := c_agl_trans g113 g122 (show (I 1670) ≤ (I 1670) by omega)
                    show w_W _ _ _ (95, [(5, .int (Int32.ofInt ((I62a 1670)))), (0, .ref 38), (1, .int (Int32.ofInt (v4))), (2, .int (Int32.ofInt ((I3a 1670)))), (3, .int (Int32.ofInt (y34_3))), (4, .int (Int32.ofInt (y34_4)))], [], M115) _
                    refine w_adv (n := 2) (F' := (98, [(3, .int (Int32.ofInt ((I62a 1670)))), (5, .int (Int32.ofInt ((I62a 1670)))), (0, .ref 38), (1, .int (Int32.ofInt (v4))), (2, .int (Int32.ofInt ((I3a 1670)))), (4, .int (Int32.ofInt (y34_4)))], [], M115)) rfl ?_
                    refine w_inc (nL := 6) (a := y34_4) rfl rfl rfl (by decide) ?_
                    refine w_adv (n := 1) (F' := (34, [(4, .int (Int32.ofInt (y34_4 + 1))), (3, .int (Int32.ofInt ((I62a 1670)))), (5, .int (Int32.ofInt ((I62a 1670)))), (0, .ref 38), (1, .int (Int32.ofInt (v4))), (2, .int (Int32.ofInt ((I3a 1670))))], [], M115)) rfl ?_
                    refine w_ls (ls := [(0, .ref 38), (1, .int (Int32.ofInt (v4))), (2, .int (Int32.ofInt ((I3a 1670)))), (3, .int (Int32.ofInt ((I62a 1670)))), (4, .int (Int32.ofInt (y34_4 + 1)))]) (show List.Nodup [0, 1, 2, 3, 4] by decide) (show List.Nodup [4, 3, 5, 0, 1, 2] by decide) (List.forall_mem_cons.mpr ⟨(List.Mem.tail _ (List.Mem.tail _ (List.Mem.tail _ (List.Mem.head _)))), (List.forall_mem_cons.mpr ⟨(List.Mem.tail _ (List.Mem.tail _ (List.Mem.tail _ (List.Mem.tail _ (List.Mem.head _))))), (List.forall_mem_cons.mpr ⟨(List.Mem.tail _ (List.Mem.tail _ (List.Mem.tail _ (List.Mem.tail _ (List.Mem.tail _ (List.Mem.head _)))))), (List.forall_mem_cons.mpr ⟨(List.Mem.tail _ (List.Mem.head _)), (List.forall_mem_cons.mpr ⟨(List.Mem.head _), (fun _ h => by cases h)⟩)⟩)⟩)⟩)⟩) ?_
                    exact ih34  ((I62a 1670)) (y34_4 + 1) (w_up I62a 1670 ((I62a 1670) + 1)) A117 B62a C62a M115 hR116a ⟨by omega, by omega⟩ ⟨by omega, by omega⟩ (show c_fi c_ps I (w_up I62a 1670 ((I62a 1670) + 1)) by exact (c_fi_up (c_fi_trans (c_fi_up (c_fi_up (c_fi_up (c_fi_up hi34_0 rfl) rfl) rfl) rfl) f67) rfl)) (show c_fa c_pa A A117 by exact (c_fa_trans (c_fa_trans (c_fa_trans hi34_1 f68) f109) f119)) (show (0 ≤ (I62a 2436) ∧ (I62a 2436) ≤ (I62a 773) ∧ ((I62a 2437) = 0 ∨ (I62a 2436) < (I62a 773))) ∧ ((I62a 773) = (I 773) ∧ (I62a 2439) = (I 2439) ∧ 0 ≤ (I62a 2117)) ∧ (I 2436) + 1 ≤ (I62a 2436) ∧ ((I62a 1670) + 1) + 0 ≤ (I 1670) + 2 * ((I62a 2436) - (I 2436)) ∧ (I 1670) ≤ (I62a 1670) + 1 by (repeat' apply And.intro) <;> first | assumption | omega) (show c_agl A A117 (I 1670) by exact g123) (show c_Exq A117 (c_r (I 2439) 2) (I62a 2437) (I3a 1670) (I62a 1670) (I 1670) ((I62a 1670) + 1) by exact Or.inl ⟨by omega, k121, by omega⟩) (show 0 ≤ (y34_4 + 1) ∧ 2 * (y34_4 + 1) + 1 ≤ (I62a 2436) - (I 2436) ∧ ((I62a 2437) = 18 ∨ ((I62a 1670) + 1) + 1 ≤ (I 1670) + 2 * ((I62a 2436) - (I 2436))) by omega) (show 1500 - (y34_4 + 1) < (fu34 : Int) by omega)
                · rw [e73]
                  replace hR62b : w_Rep w_TC fr X (u + 6) (l + 64) I62b A62b B62b C62b M61 := hR62b
                  replace f74 : c_fi c_ps (w_up (w_up (w_up (w_up I_34 2436 ((I_34 2436) + 1)) 2441 (zt50)) 2437 (zk51)) 2438 (zv52)) I62b := f74
                  replace f75 : c_fa c_pa A_34 A62b := f75
                  replace f76 : M61.1[t72]? = some (.inr (11, [])) := f76
                  exact Or.inr (⟨t72, I62b, A62b, B62b, C62b, rfl, hR62b, (show c_fi c_ps I I62b by exact (c_fi_trans (c_fi_up (c_fi_up (c_fi_up (c_fi_up hi34_0 rfl) rfl) rfl) rfl) f74)), (show c_fa c_pa A A62b by exact (c_fa_trans hi34_1 f75)), (show M61.1[t72]? = some (.inr (11, [])) by exact f76)⟩)
              · rw [e56]
                replace hR49b : w_Rep w_TC fr X (u + 6) (l + 64) I49b A49b B49b C49b M48 := hR49b
                replace f57 : c_fi c_ps I_34 I49b := f57
                replace f58 : c_fa c_pa A_34 A49b := f58
                replace f59 : M48.1[t55]? = some (.inr (11, [])) := f59
                exact Or.inr (⟨t55, I49b, A49b, B49b, C49b, rfl, hR49b, (show c_fi c_ps I I49b by exact (c_fi_trans hi34_0 f57)), (show c_fa c_pa A A49b by exact (c_fa_trans hi34_1 f58)), (show M48.1[t55]? = some (.inr (11, [])) by exact f59)⟩)
      refine w_ls (ls := [(0, .ref 38), (1, .int (Int32.ofInt (v4))), (2, .int (Int32.ofInt ((I3a 1670)))), (3, .int (Int32.ofInt ((I3a 1670)))), (4, .int (Int32.ofInt (0)))]) (show List.Nodup [0, 1, 2, 3, 4] by decide) (show List.Nodup [4, 3, 2, 1, 0] by decide) (List.forall_mem_cons.mpr ⟨(List.Mem.tail _ (List.Mem.tail _ (List.Mem.tail _ (List.Mem.tail _ (List.Mem.head _))))), (List.forall_mem_cons.mpr ⟨(List.Mem.tail _ (List.Mem.tail _ (List.Mem.tail _ (List.Mem.head _)))), (List.forall_mem_cons.mpr ⟨(List.Mem.tail _ (List.Mem.tail _ (List.Mem.head _))), (List.forall_mem_cons.mpr ⟨(List.Mem.tail _ (List.Mem.head _)), (List.forall_mem_cons.mpr ⟨(List.Mem.head _), (fun _ h => by cases h)⟩)⟩)⟩)⟩)⟩) ?_
      exact lp34 ((1500 - 0 : Int).toNat + 1)  ((I3a 1670)) (0) (w_up I3a 1670 ((I3a 1670) + 1)) A37 B3a C3a M35 hR36a ⟨by omega, by omega⟩ ⟨by omega, by omega⟩ (show c_fi c_ps I (w_up I3a 1670 ((I3a 1670) + 1)) by exact (c_fi_up f8 rfl)) (show c_fa c_pa A A37 by exact (c_fa_trans f9 f39)) (show (0 ≤ (I3a 2436) ∧ (I3a 2436) ≤ (I3a 773) ∧ ((I3a 2437) = 0 ∨ (I3a 2436) < (I3a 773))) ∧ ((I3a 773) = (I 773) ∧ (I3a 2439) = (I 2439) ∧ 0 ≤ (I3a 2117)) ∧ (I 2436) + 1 ≤ (I3a 2436) ∧ ((I3a 1670) + 1) + 0 ≤ (I 1670) + 2 * ((I3a 2436) - (I 2436)) ∧ (I 1670) ≤ (I3a 1670) + 1 by (repeat' apply And.intro) <;> first | assumption | omega) (show c_agl A A37 (I 1670) by exact g42) (show c_Exq A37 (c_r (I 2439) 2) (I3a 2437) (I3a 1670) (I3a 1670) (I 1670) ((I3a 1670) + 1) by exact Or.inl ⟨by omega, k41, by omega⟩) (show 0 ≤ (0 : Int) ∧ 2 * (0 : Int) + 1 ≤ (I3a 2436) - (I 2436) ∧ ((I3a 2437) = 18 ∨ ((I3a 1670) + 1) + 1 ≤ (I 1670) + 2 * ((I3a 2436) - (I 2436))) by omega) (show 1500 - 0 < (((1500 - 0 : Int).toNat + 1 : Nat) : Int) by omega)
    · have h33 : ¬ ((I3a 2437) = 18) := h33
      show w_W _ _ _ (14, [(1, .int (Int32.ofInt (v4))), (0, .ref 38)], [], M2) _
      refine w_adv (n := 1) (F' := (15, [(1, .int (Int32.ofInt (v4))), (0, .ref 38)], [.int (Int32.ofInt (v4))], M2)) rfl ?_
      refine w_fin (r := .inl (some (v4))) (M' := M2) rfl ?_
      exact Or.inl ⟨v4, I3a, A3a, B3a, C3a, rfl, ⟨by omega, by omega⟩, hR3a, (show c_fi c_ps I I3a by exact f8), (show c_fa c_pa A A3a by exact f9), (show (0 ≤ (I3a 2436) ∧ (I3a 2436) ≤ (I3a 773) ∧ ((I3a 2437) = 0 ∨ (I3a 2436) < (I3a 773))) ∧ ((I3a 773) = (I 773) ∧ (I3a 2439) = (I 2439) ∧ 0 ≤ (I3a 2117)) ∧ (I 2436) + 1 ≤ (I3a 2436) ∧ (I3a 1670) + 1 ≤ (I 1670) + 2 * ((I3a 2436) - (I 2436)) ∧ (I 1670) ≤ (I3a 1670) by (repeat' apply And.intro) <;> first | assumption | omega), (show c_agl A A3a (I 1670) by exact g27), (show c_Wn A3a (c_r (I 2439) 3) v4 (I 1670) (I3a 1670) by exact c_Wn_win (c_Wn_up k28 (show c_r (I 2439) 2 ≤ c_r (I 2439) 3 by unfold c_r; omega)) (show (I 1670) ≤ (I 1670) by omega) (show (I3a 1670) ≤ (I3a 1670) by omega))⟩
  · rw [e14]
    replace hR3b : w_Rep w_TC fr X (u + 6) (l + 64) I3b A3b B3b C3b M2 := hR3b
    replace f15 : c_fi c_ps I I3b := f15
    replace f16 : c_fa c_pa A A3b := f16
    replace f17 : M2.1[t13]? = some (.inr (11, [])) := f17
    exact Or.inr (⟨t13, I3b, A3b, B3b, C3b, rfl, hR3b, (show c_fi c_ps I I3b by exact f15), (show c_fa c_pa A A3b by exact f16), (show M2.1[t13]? = some (.inr (11, [])) by exact f17)⟩)
