/-! PARSER of the class: exp. -/
/-! c_exp -/
set_option maxHeartbeats 100000000 in
set_option maxRecDepth 100000 in
theorem c_exp {L : Nat} {xs : Nat → Int32} {d : Nat} {fr : Nat → Bool} {X : Nat → Option (q_C (Nat → Int32))} {u l : Nat} {I : Nat → Int} {A : Nat → Int → Int} {B C : Nat → Nat} {M : w_M} (hA : c_ALL L xs d) (hR : w_Rep w_TC fr X u l I A B C M) (hd : 10 * (24 - (I 2439)) + 13 ≤ (d : Int)) (hl : l ≤ 100000) (hNU : (0 ≤ (I 2436) ∧ (I 2436) ≤ (I 773) ∧ (I 773) ≤ 1501 ∧ ((I 2437) = 0 ∨ (I 2436) < (I 773))) ∧ (0 ≤ (I 2439) ∧ (I 2439) ≤ 24 ∧ 0 ≤ (I 2117)) ∧ 0 ≤ (I 1670) ∧ (I 1670) ≤ 2 * (I 2436) + 1) : w_W (z_P L xs) d 89 (0, [(0, .ref 38)], [], M) (c_exp_Q fr X u l I A B C M) := by
  obtain ⟨d, rfl⟩ : ∃ d0, d = d0 + 1 := ⟨d - 1, by omega⟩
  refine w_adv (n := 1) (F' := (1, [(0, .ref 38)], [.ref 38], M)) rfl ?_
  refine w_call (cm := 90) (as := [(0, .ref 38)]) (rest := []) (o := some (4, 38)) rfl (w_fitR hR rfl) (c_compared (c_ALL_dn hA) hR (show 10 * (24 - (I 2439)) + 12 ≤ (d : Int) by omega) (show l ≤ 100000 by first | assumption | omega) (show (0 ≤ (I 2436) ∧ (I 2436) ≤ (I 773) ∧ (I 773) ≤ 1501 ∧ ((I 2437) = 0 ∨ (I 2436) < (I 773))) ∧ (0 ≤ (I 2439) ∧ (I 2439) ≤ 24 ∧ 0 ≤ (I 2117)) ∧ 0 ≤ (I 1670) ∧ (I 1670) ≤ 2 * (I 2436) + 1 by (repeat' apply And.intro) <;> first | assumption | omega)) (fun r1 M2 q3 => ?_)
  rcases q3 with ⟨v4, I3a, A3a, B3a, C3a, e5, ⟨r6, r7⟩, hR3a, f8, f9, f10, f11, f12⟩ | ⟨t13, I3b, A3b, B3b, C3b, e14, hR3b, f15, f16, f17⟩
  · rw [e5]
    replace hR3a : w_Rep w_TC fr X u l I3a A3a B3a C3a M2 := hR3a
    replace f8 : c_fi c_ps I I3a := f8
    replace f9 : c_fa c_pa A A3a := f9
    replace f10 : (0 ≤ (I3a 2436) ∧ (I3a 2436) ≤ (I3a 773) ∧ ((I3a 2437) = 0 ∨ (I3a 2436) < (I3a 773))) ∧ ((I3a 773) = (I 773) ∧ (I3a 2439) = (I 2439) ∧ 0 ≤ (I3a 2117)) ∧ (I 2436) + 1 ≤ (I3a 2436) ∧ (I3a 1670) + 1 ≤ (I 1670) + 2 * ((I3a 2436) - (I 2436)) ∧ (I 1670) ≤ (I3a 1670) := f10
    obtain ⟨⟨n18, n19, n20⟩, ⟨n21, n22, n23⟩, n24, n25, n26⟩ := id f10
    clear f10
    replace f11 : c_agl A A3a (I 1670) := f11
    replace f12 : c_On A3a (c_r (I 2439) 1) v4 (I 1670) (I3a 1670) := f12
    have g27 : c_agl A A3a (I 1670) := c_agl_trans c_agl_refl f11 (show (I 1670) ≤ (I 1670) by omega)
    have k28 : c_Wn A3a (c_r (I 2439) 2) v4 (I 1670) (I3a 1670) := c_Wn_up (c_On_W f12) (show c_r (I 2439) 1 + 1 ≤ c_r (I 2439) 2 by unfold c_r; omega)
    obtain ⟨b29, b30⟩ := c_W_in k28.1
    show w_W _ _ _ (4, [(0, .ref 38)], [.int (Int32.ofInt (v4))], M2) _
    refine w_adv (n := 2) (F' := (6, [(1, .int (Int32.ofInt (v4))), (0, .ref 38)], [.ref 38], M2)) rfl ?_
    refine w_gf (v := .int (Int32.ofInt ((I3a 2437)))) hR3a rfl rfl rfl rfl ?_
    obtain ⟨r31, r32⟩ : -2147483648 ≤ (I3a 2437) ∧ (I3a 2437) ≤ 2147483647 := hR3a.ri 2437
    refine w_adv (n := 1) (F' := (11, [(1, .int (Int32.ofInt (v4))), (0, .ref 38)], [.int (Int32.ofInt (18)), .int (Int32.ofInt ((I3a 2437)))], M2)) rfl ?_
    refine w_br2 (a := (I3a 2437)) (b := 18) rfl rfl ⟨by omega, by omega⟩ ⟨by omega, by omega⟩ (fun h33 => ?_) (fun h33 => ?_)
    · have h33 : (I3a 2437) = 18 := h33
      show w_W _ _ _ (16, [(1, .int (Int32.ofInt (v4))), (0, .ref 38)], [], M2) _
      refine w_adv (n := 1) (F' := (17, [(1, .int (Int32.ofInt (v4))), (0, .ref 38)], [.ref 38], M2)) rfl ?_
      refine w_gf (v := .ref 26) hR3a rfl rfl rfl rfl ?_
      refine w_adv (n := 4) (F' := (25, [(1, .int (Int32.ofInt (v4))), (0, .ref 38)], [.int (Int32.ofInt ((-1))), .int (Int32.ofInt ((-1))), .int (Int32.ofInt (v4)), .int (Int32.ofInt (7)), .ref 26], M2)) rfl ?_
      refine w_call (cm := 94) (as := [(0, .ref 26), (1, .int (Int32.ofInt (7))), (2, .int (Int32.ofInt (v4))), (3, .int (Int32.ofInt ((-1)))), (4, .int (Int32.ofInt ((-1))))]) (rest := []) (o := some (8, 26)) rfl (w_fitR hR3a rfl) (c_mkn (7) (v4) ((-1)) ((-1)) hR3a (show 2 ≤ d by omega) ⟨by omega, by omega⟩ ⟨by omega, by omega⟩ ⟨by omega, by omega⟩ ⟨by omega, by omega⟩ (show 0 ≤ (I3a 1670) ∧ (I3a 1670) < 3016 by first | assumption | omega)) (fun r34 M35 q36 => ?_)
      rcases q36 with ⟨A37, e38, hR36a, f39, f40⟩
      rw [e38]
      replace hR36a : w_Rep w_TC fr X u l (w_up I3a 1670 ((I3a 1670) + 1)) A37 B3a C3a M35 := hR36a
      replace f39 : c_fa c_pa A3a A37 := f39
      replace f40 : c_mk A3a A37 (I3a 1670) 7 v4 (-1) (-1) := f40
      have k41 : c_Pxn A37 (c_r (I 2439) 2) (I3a 1670) (I3a 1670) (I 1670) := c_Pxn_mk f40 (c_Wn_win k28 (show (I 1670) ≤ (I 1670) by omega) (show (I3a 1670) ≤ (I3a 1670) by omega)) (show 0 ≤ (I 1670) by omega)
      have k42 : c_Wn A37 (c_r (I 2439) 2) v4 (I 1670) (I3a 1670) := c_Wn_agl k28 f40.1 (show 0 ≤ (I 1670) by omega) (show (I3a 1670) ≤ (I3a 1670) by omega)
      clear k28
      have g43 : c_agl A A37 (I 1670) := c_agl_trans g27 f40.1 (show (I 1670) ≤ (I3a 1670) by omega)
      show w_W _ _ _ (28, [(1, .int (Int32.ofInt (v4))), (0, .ref 38)], [.int (Int32.ofInt ((I3a 1670)))], M35) _
      refine w_adv (n := 5) (F' := (34, [(4, .int (Int32.ofInt (0))), (3, .int (Int32.ofInt ((I3a 1670)))), (2, .int (Int32.ofInt ((I3a 1670)))), (1, .int (Int32.ofInt (v4))), (0, .ref 38)], [], M35)) rfl ?_
      have lp34 : ∀ fu34 : Nat, ∀ (y34_3 : Int) (y34_4 : Int) (I_34 : Nat → Int) (A_34 : Nat → Int → Int) (B_34 C_34 : Nat → Nat) (M_34 : w_M) (hR_34 : w_Rep w_TC fr X u l I_34 A_34 B_34 C_34 M_34), w_in y34_3 → w_in y34_4 → c_fi c_ps I I_34 → c_fa c_pa A A_34 → (0 ≤ (I_34 2436) ∧ (I_34 2436) ≤ (I_34 773) ∧ ((I_34 2437) = 0 ∨ (I_34 2436) < (I_34 773))) ∧ ((I_34 773) = (I 773) ∧ (I_34 2439) = (I 2439) ∧ 0 ≤ (I_34 2117)) ∧ (I 2436) + 1 ≤ (I_34 2436) ∧ (I_34 1670) + 0 ≤ (I 1670) + 2 * ((I_34 2436) - (I 2436)) ∧ (I 1670) ≤ (I_34 1670) → c_agl A A_34 (I 1670) → c_Exq A_34 (c_r (I 2439) 2) (I_34 2437) (I3a 1670) y34_3 (I 1670) (I_34 1670) → 0 ≤ y34_4 ∧ 2 * y34_4 + 1 ≤ (I_34 2436) - (I 2436) ∧ ((I_34 2437) = 18 ∨ (I_34 1670) + 1 ≤ (I 1670) + 2 * ((I_34 2436) - (I 2436))) → 1500 - y34_4 < (fu34 : Int) → w_W (z_P L xs) (d + 1) 89 (34, [(0, .ref 38), (1, .int (Int32.ofInt (v4))), (2, .int (Int32.ofInt ((I3a 1670)))), (3, .int (Int32.ofInt (y34_3))), (4, .int (Int32.ofInt (y34_4)))], [], M_34) (c_exp_Q fr X u l I A B C M) := by
        intro fu34
        induction fu34 with
        | zero =>
          intro y34_3 y34_4 I_34 A_34 B_34 C_34 M_34 hR_34 ⟨ra_y34_3, rb_y34_3⟩ ⟨ra_y34_4, rb_y34_4⟩ hi34_0 hi34_1 hi34_2 hi34_3 hi34_4 hi34_5 hn34
          exfalso
          omega
        | succ fu34 ih34 =>
          intro y34_3 y34_4 I_34 A_34 B_34 C_34 M_34 hR_34 ⟨ra_y34_3, rb_y34_3⟩ ⟨ra_y34_4, rb_y34_4⟩ hi34_0 hi34_1 hi34_2 hi34_3 hi34_4 hi34_5 hn34
          refine w_adv (n := 2) (F' := (39, [(0, .ref 38), (1, .int (Int32.ofInt (v4))), (2, .int (Int32.ofInt ((I3a 1670)))), (3, .int (Int32.ofInt (y34_3))), (4, .int (Int32.ofInt (y34_4)))], [.int (Int32.ofInt (1500)), .int (Int32.ofInt (y34_4))], M_34)) rfl ?_
          refine w_br2 (a := y34_4) (b := 1500) rfl rfl ⟨by omega, by omega⟩ ⟨by omega, by omega⟩ (fun h44 => ?_) (fun h44 => ?_)
          · have h44 : y34_4 ≥ 1500 := h44
            exfalso; omega
          · have h44 : ¬ (y34_4 ≥ 1500) := h44
            show w_W _ _ _ (42, [(0, .ref 38), (1, .int (Int32.ofInt (v4))), (2, .int (Int32.ofInt ((I3a 1670)))), (3, .int (Int32.ofInt (y34_3))), (4, .int (Int32.ofInt (y34_4)))], [], M_34) _
            refine w_adv (n := 1) (F' := (43, [(0, .ref 38), (1, .int (Int32.ofInt (v4))), (2, .int (Int32.ofInt ((I3a 1670)))), (3, .int (Int32.ofInt (y34_3))), (4, .int (Int32.ofInt (y34_4)))], [.ref 38], M_34)) rfl ?_
            refine w_gf (v := .int (Int32.ofInt ((I_34 2437)))) hR_34 rfl rfl rfl rfl ?_
            obtain ⟨r45, r46⟩ : -2147483648 ≤ (I_34 2437) ∧ (I_34 2437) ≤ 2147483647 := hR_34.ri 2437
            refine w_adv (n := 1) (F' := (48, [(0, .ref 38), (1, .int (Int32.ofInt (v4))), (2, .int (Int32.ofInt ((I3a 1670)))), (3, .int (Int32.ofInt (y34_3))), (4, .int (Int32.ofInt (y34_4)))], [.int (Int32.ofInt (18)), .int (Int32.ofInt ((I_34 2437)))], M_34)) rfl ?_
            refine w_br2 (a := (I_34 2437)) (b := 18) rfl rfl ⟨by omega, by omega⟩ ⟨by omega, by omega⟩ (fun h47 => ?_) (fun h47 => ?_)
            · have h47 : ¬ (I_34 2437) = 18 := h47
              show w_W _ _ _ (104, [(0, .ref 38), (1, .int (Int32.ofInt (v4))), (2, .int (Int32.ofInt ((I3a 1670)))), (3, .int (Int32.ofInt (y34_3))), (4, .int (Int32.ofInt (y34_4)))], [], M_34) _
              have k104 : c_Wn A_34 (c_r (I 2439) 3) (I3a 1670) (I 1670) (I_34 1670) := c_Wn_up (c_Exq_no hi34_4 (by omega)) (show (c_r (I 2439) 2) + 1 ≤ (c_r (I 2439) 3) by unfold c_r; omega)
              refine w_adv (n := 1) (F' := (105, [(0, .ref 38), (1, .int (Int32.ofInt (v4))), (2, .int (Int32.ofInt ((I3a 1670)))), (3, .int (Int32.ofInt (y34_3))), (4, .int (Int32.ofInt (y34_4)))], [.int (Int32.ofInt ((I3a 1670)))], M_34)) rfl ?_
              refine w_fin (r := .inl (some ((I3a 1670)))) (M' := M_34) rfl ?_
              exact Or.inl ⟨(I3a 1670), I_34, A_34, B_34, C_34, rfl, ⟨by omega, by omega⟩, hR_34, (show c_fi c_ps I I_34 by exact hi34_0), (show c_fa c_pa A A_34 by exact hi34_1), (show (0 ≤ (I_34 2436) ∧ (I_34 2436) ≤ (I_34 773) ∧ ((I_34 2437) = 0 ∨ (I_34 2436) < (I_34 773))) ∧ ((I_34 773) = (I 773) ∧ (I_34 2439) = (I 2439) ∧ 0 ≤ (I_34 2117)) ∧ (I 2436) + 1 ≤ (I_34 2436) ∧ (I_34 1670) + 1 ≤ (I 1670) + 2 * ((I_34 2436) - (I 2436)) ∧ (I 1670) ≤ (I_34 1670) by (repeat' apply And.intro) <;> first | assumption | omega), (show c_agl A A_34 (I 1670) by exact hi34_3), (show c_Wn A_34 (c_r (I 2439) 3) (I3a 1670) (I 1670) (I_34 1670) by exact c_Wn_win (c_Wn_up k104 (show c_r (I 2439) 3 ≤ c_r (I 2439) 3 by unfold c_r; omega)) (show (I 1670) ≤ (I 1670) by omega) (show (I_34 1670) ≤ (I_34 1670) by omega))⟩
            · have h47 : ¬ (¬ (I_34 2437) = 18) := h47
              show w_W _ _ _ (51, [(0, .ref 38), (1, .int (Int32.ofInt (v4))), (2, .int (Int32.ofInt ((I3a 1670)))), (3, .int (Int32.ofInt (y34_3))), (4, .int (Int32.ofInt (y34_4)))], [], M_34) _
              have k51 : c_Pxn A_34 (c_r (I 2439) 2) (I3a 1670) y34_3 (I 1670) := (c_Exq_18 hi34_4 (by omega)).1
              have k51b := (c_Exq_18 hi34_4 (by omega)).2
              obtain ⟨k51c, k51d⟩ := c_Pxn_l k51
              refine w_adv (n := 1) (F' := (52, [(0, .ref 38), (1, .int (Int32.ofInt (v4))), (2, .int (Int32.ofInt ((I3a 1670)))), (3, .int (Int32.ofInt (y34_3))), (4, .int (Int32.ofInt (y34_4)))], [.ref 38], M_34)) rfl ?_
              refine w_call (cm := 80) (as := [(0, .ref 38)]) (rest := []) (o := some (4, 38)) rfl (w_fitR hR_34 rfl) (c_advance hR_34 (show 3 ≤ d by omega) (show l ≤ 100000 by first | assumption | omega) (show -1 ≤ (I_34 2436) ∧ (I_34 2436) < (I_34 773) ∧ (I_34 773) ≤ 1501 by first | assumption | omega)) (fun r48 M49 q50 => ?_)
              rcases q50 with ⟨zt51, zk52, zv53, e54, hR50a, f55⟩ | ⟨t56, I50b, A50b, B50b, C50b, e57, hR50b, f58, f59, f60⟩
              · rw [e54]
                replace hR50a : w_Rep w_TC fr X u l (w_up (w_up (w_up (w_up I_34 2436 ((I_34 2436) + 1)) 2441 (zt51)) 2437 (zk52)) 2438 (zv53)) A_34 B_34 C_34 M49 := hR50a
                replace f55 : ((I_34 2436) + 1 < (I_34 773) ∨ zk52 = 0) := f55
                show w_W _ _ _ (55, [(0, .ref 38), (1, .int (Int32.ofInt (v4))), (2, .int (Int32.ofInt ((I3a 1670)))), (3, .int (Int32.ofInt (y34_3))), (4, .int (Int32.ofInt (y34_4)))], [], M49) _
                refine w_adv (n := 1) (F' := (56, [(0, .ref 38), (1, .int (Int32.ofInt (v4))), (2, .int (Int32.ofInt ((I3a 1670)))), (3, .int (Int32.ofInt (y34_3))), (4, .int (Int32.ofInt (y34_4)))], [.ref 38], M49)) rfl ?_
                refine w_call (cm := 90) (as := [(0, .ref 38)]) (rest := []) (o := some (4, 38)) rfl (w_fitR hR50a rfl) (c_compared (c_ALL_dn hA) hR50a (show 10 * (24 - (I_34 2439)) + 12 ≤ (d : Int) by omega) (show l ≤ 100000 by first | assumption | omega) (show (0 ≤ (I_34 2436) + 1 ∧ (I_34 2436) + 1 ≤ (I_34 773) ∧ (I_34 773) ≤ 1501 ∧ (zk52 = 0 ∨ (I_34 2436) + 1 < (I_34 773))) ∧ (0 ≤ (I_34 2439) ∧ (I_34 2439) ≤ 24 ∧ 0 ≤ (I_34 2117)) ∧ 0 ≤ (I_34 1670) ∧ (I_34 1670) ≤ 2 * ((I_34 2436) + 1) + 1 by (repeat' apply And.intro) <;> first | assumption | omega)) (fun r61 M62 q63 => ?_)
                rcases q63 with ⟨v64, I63a, A63a, B63a, C63a, e65, ⟨r66, r67⟩, hR63a, f68, f69, f70, f71, f72⟩ | ⟨t73, I63b, A63b, B63b, C63b, e74, hR63b, f75, f76, f77⟩
                · rw [e65]
                  replace hR63a : w_Rep w_TC fr X u l I63a A63a B63a C63a M62 := hR63a
                  replace f68 : c_fi c_ps (w_up (w_up (w_up (w_up I_34 2436 ((I_34 2436) + 1)) 2441 (zt51)) 2437 (zk52)) 2438 (zv53)) I63a := f68
                  replace f69 : c_fa c_pa A_34 A63a := f69
                  replace f70 : (0 ≤ (I63a 2436) ∧ (I63a 2436) ≤ (I63a 773) ∧ ((I63a 2437) = 0 ∨ (I63a 2436) < (I63a 773))) ∧ ((I63a 773) = (I_34 773) ∧ (I63a 2439) = (I_34 2439) ∧ 0 ≤ (I63a 2117)) ∧ ((I_34 2436) + 1) + 1 ≤ (I63a 2436) ∧ (I63a 1670) + 1 ≤ (I_34 1670) + 2 * ((I63a 2436) - ((I_34 2436) + 1)) ∧ (I_34 1670) ≤ (I63a 1670) := f70
                  obtain ⟨⟨n78, n79, n80⟩, ⟨n81, n82, n83⟩, n84, n85, n86⟩ := id f70
                  clear f70
                  replace f71 : c_agl A_34 A63a (I_34 1670) := f71
                  replace f72 : c_On A63a (c_r (I_34 2439) 1) v64 (I_34 1670) (I63a 1670) := f72
                  have k87 : c_Pxn A63a (c_r (I 2439) 2) (I3a 1670) y34_3 (I 1670) := c_Pxn_agl k51 f71 (show 0 ≤ (I 1670) by omega) (show y34_3 < (I_34 1670) by omega)
                  clear k51
                  have g88 : c_agl A A63a (I 1670) := c_agl_trans hi34_3 f71 (show (I 1670) ≤ (I_34 1670) by omega)
                  have k89 : c_Wn A63a (c_r (I 2439) 2) v64 (I_34 1670) (I63a 1670) := c_Wn_up (c_On_W f72) (show c_r (I_34 2439) 1 + 1 ≤ c_r (I 2439) 2 by unfold c_r; omega)
                  obtain ⟨b90, b91⟩ := c_W_in k89.1
                  show w_W _ _ _ (59, [(0, .ref 38), (1, .int (Int32.ofInt (v4))), (2, .int (Int32.ofInt ((I3a 1670)))), (3, .int (Int32.ofInt (y34_3))), (4, .int (Int32.ofInt (y34_4)))], [.int (Int32.ofInt (v64))], M62) _
                  refine w_adv (n := 2) (F' := (62, [(5, .int (Int32.ofInt (v64))), (0, .ref 38), (1, .int (Int32.ofInt (v4))), (2, .int (Int32.ofInt ((I3a 1670)))), (3, .int (Int32.ofInt (y34_3))), (4, .int (Int32.ofInt (y34_4)))], [.ref 38], M62)) rfl ?_
                  refine w_gf (v := .int (Int32.ofInt ((I63a 2437)))) hR63a rfl rfl rfl rfl ?_
                  obtain ⟨r92, r93⟩ : -2147483648 ≤ (I63a 2437) ∧ (I63a 2437) ≤ 2147483647 := hR63a.ri 2437
                  refine w_adv (n := 1) (F' := (67, [(5, .int (Int32.ofInt (v64))), (0, .ref 38), (1, .int (Int32.ofInt (v4))), (2, .int (Int32.ofInt ((I3a 1670)))), (3, .int (Int32.ofInt (y34_3))), (4, .int (Int32.ofInt (y34_4)))], [.int (Int32.ofInt (18)), .int (Int32.ofInt ((I63a 2437)))], M62)) rfl ?_
                  refine w_br2 (a := (I63a 2437)) (b := 18) rfl rfl ⟨by omega, by omega⟩ ⟨by omega, by omega⟩ (fun h94 => ?_) (fun h94 => ?_)
                  · have h94 : ¬ (I63a 2437) = 18 := h94
                    show w_W _ _ _ (85, [(5, .int (Int32.ofInt (v64))), (0, .ref 38), (1, .int (Int32.ofInt (v4))), (2, .int (Int32.ofInt ((I3a 1670)))), (3, .int (Int32.ofInt (y34_3))), (4, .int (Int32.ofInt (y34_4)))], [], M62) _
                    refine w_adv (n := 1) (F' := (86, [(5, .int (Int32.ofInt (v64))), (0, .ref 38), (1, .int (Int32.ofInt (v4))), (2, .int (Int32.ofInt ((I3a 1670)))), (3, .int (Int32.ofInt (y34_3))), (4, .int (Int32.ofInt (y34_4)))], [.ref 38], M62)) rfl ?_
                    refine w_gf (v := .ref 26) hR63a rfl rfl rfl rfl ?_
                    refine w_adv (n := 2) (F' := (92, [(5, .int (Int32.ofInt (v64))), (0, .ref 38), (1, .int (Int32.ofInt (v4))), (2, .int (Int32.ofInt ((I3a 1670)))), (3, .int (Int32.ofInt (y34_3))), (4, .int (Int32.ofInt (y34_4)))], [.int (Int32.ofInt (v64)), .int (Int32.ofInt (y34_3)), .ref 26], M62)) rfl ?_
                    refine w_call (cm := 115) (as := [(0, .ref 26), (1, .int (Int32.ofInt (y34_3))), (2, .int (Int32.ofInt (v64)))]) (rest := []) (o := some (8, 26)) rfl (w_fitR hR63a rfl) (c_stb (y34_3) (v64) hR63a (show 2 ≤ d by omega) ⟨by omega, by omega⟩ ⟨by omega, by omega⟩) (fun r95 M96 q97 => ?_)
                    rcases q97 with ⟨A98, e99, hR97a, f100, f101⟩
                    rw [e99]
                    replace hR97a : w_Rep w_TC fr X u l I63a A98 B63a C63a M96 := hR97a
                    replace f100 : c_fa c_pa A63a A98 := f100
                    replace f101 : c_bw A63a A98 y34_3 v64 := f101
                    have k102 : c_Wn A98 ((c_r (I 2439) 2) + 1) (I3a 1670) (I 1670) (I63a 1670) := c_Pxn_end k87 f101 (show 0 ≤ y34_3 ∧ y34_3 < 3016 by omega) (by rw [show y34_3 + 1 = (I_34 1670) from by omega]; exact k89)
                    have g103 : c_agl A63a A98 (I 1670) := c_agl_bw f101 (Or.inl (show (I 1670) ≤ y34_3 by omega))
                    have g104 : c_agl A A98 (I 1670) := c_agl_trans g88 g103 (show (I 1670) ≤ (I 1670) by omega)
                    show w_W _ _ _ (95, [(5, .int (Int32.ofInt (v64))), (0, .ref 38), (1, .int (Int32.ofInt (v4))), (2, .int (Int32.ofInt ((I3a 1670)))), (3, .int (Int32.ofInt (y34_3))), (4, .int (Int32.ofInt (y34_4)))], [], M96) _
                    refine w_adv (n := 2) (F' := (98, [(3, .int (Int32.ofInt (v64))), (5, .int (Int32.ofInt (v64))), (0, .ref 38), (1, .int (Int32.ofInt (v4))), (2, .int (Int32.ofInt ((I3a 1670)))), (4, .int (Int32.ofInt (y34_4)))], [], M96)) rfl ?_
                    refine w_inc (nL := 6) (a := y34_4) rfl rfl rfl (by decide) ?_
                    refine w_adv (n := 1) (F' := (34, [(4, .int (Int32.ofInt (y34_4 + 1))), (3, .int (Int32.ofInt (v64))), (5, .int (Int32.ofInt (v64))), (0, .ref 38), (1, .int (Int32.ofInt (v4))), (2, .int (Int32.ofInt ((I3a 1670))))], [], M96)) rfl ?_
                    refine w_ls (ls := [(0, .ref 38), (1, .int (Int32.ofInt (v4))), (2, .int (Int32.ofInt ((I3a 1670)))), (3, .int (Int32.ofInt (v64))), (4, .int (Int32.ofInt (y34_4 + 1)))]) (show List.Nodup [0, 1, 2, 3, 4] by decide) (show List.Nodup [4, 3, 5, 0, 1, 2] by decide) (List.forall_mem_cons.mpr ⟨(List.Mem.tail _ (List.Mem.tail _ (List.Mem.tail _ (List.Mem.head _)))), (List.forall_mem_cons.mpr ⟨(List.Mem.tail _ (List.Mem.tail _ (List.Mem.tail _ (List.Mem.tail _ (List.Mem.head _))))), (List.forall_mem_cons.mpr ⟨(List.Mem.tail _ (List.Mem.tail _ (List.Mem.tail _ (List.Mem.tail _ (List.Mem.tail _ (List.Mem.head _)))))), (List.forall_mem_cons.mpr ⟨(List.Mem.tail _ (List.Mem.head _)), (List.forall_mem_cons.mpr ⟨(List.Mem.head _), (fun _ h => by cases h)⟩)⟩)⟩)⟩)⟩) ?_
                    exact ih34  (v64) (y34_4 + 1) I63a A98 B63a C63a M96 hR97a ⟨by omega, by omega⟩ ⟨by omega, by omega⟩ (show c_fi c_ps I I63a by exact (c_fi_trans (c_fi_up (c_fi_up (c_fi_up (c_fi_up hi34_0 rfl) rfl) rfl) rfl) f68)) (show c_fa c_pa A A98 by exact (c_fa_trans (c_fa_trans hi34_1 f69) f100)) (show (0 ≤ (I63a 2436) ∧ (I63a 2436) ≤ (I63a 773) ∧ ((I63a 2437) = 0 ∨ (I63a 2436) < (I63a 773))) ∧ ((I63a 773) = (I 773) ∧ (I63a 2439) = (I 2439) ∧ 0 ≤ (I63a 2117)) ∧ (I 2436) + 1 ≤ (I63a 2436) ∧ (I63a 1670) + 0 ≤ (I 1670) + 2 * ((I63a 2436) - (I 2436)) ∧ (I 1670) ≤ (I63a 1670) by (repeat' apply And.intro) <;> first | assumption | omega) (show c_agl A A98 (I 1670) by exact g104) (show c_Exq A98 (c_r (I 2439) 2) (I63a 2437) (I3a 1670) v64 (I 1670) (I63a 1670) by exact Or.inr ⟨by omega, k102⟩) (show 0 ≤ (y34_4 + 1) ∧ 2 * (y34_4 + 1) + 1 ≤ (I63a 2436) - (I 2436) ∧ ((I63a 2437) = 18 ∨ (I63a 1670) + 1 ≤ (I 1670) + 2 * ((I63a 2436) - (I 2436))) by omega) (show 1500 - (y34_4 + 1) < (fu34 : Int) by omega)
                  · have h94 : ¬ (¬ (I63a 2437) = 18) := h94
                    show w_W _ _ _ (70, [(5, .int (Int32.ofInt (v64))), (0, .ref 38), (1, .int (Int32.ofInt (v4))), (2, .int (Int32.ofInt ((I3a 1670)))), (3, .int (Int32.ofInt (y34_3))), (4, .int (Int32.ofInt (y34_4)))], [], M62) _
                    refine w_adv (n := 1) (F' := (71, [(5, .int (Int32.ofInt (v64))), (0, .ref 38), (1, .int (Int32.ofInt (v4))), (2, .int (Int32.ofInt ((I3a 1670)))), (3, .int (Int32.ofInt (y34_3))), (4, .int (Int32.ofInt (y34_4)))], [.ref 38], M62)) rfl ?_
                    refine w_gf (v := .ref 26) hR63a rfl rfl rfl rfl ?_
                    refine w_adv (n := 4) (F' := (80, [(5, .int (Int32.ofInt (v64))), (0, .ref 38), (1, .int (Int32.ofInt (v4))), (2, .int (Int32.ofInt ((I3a 1670)))), (3, .int (Int32.ofInt (y34_3))), (4, .int (Int32.ofInt (y34_4)))], [.int (Int32.ofInt ((-1))), .int (Int32.ofInt ((-1))), .int (Int32.ofInt (v64)), .int (Int32.ofInt (7)), .ref 26], M62)) rfl ?_
                    refine w_call (cm := 94) (as := [(0, .ref 26), (1, .int (Int32.ofInt (7))), (2, .int (Int32.ofInt (v64))), (3, .int (Int32.ofInt ((-1)))), (4, .int (Int32.ofInt ((-1))))]) (rest := []) (o := some (8, 26)) rfl (w_fitR hR63a rfl) (c_mkn (7) (v64) ((-1)) ((-1)) hR63a (show 2 ≤ d by omega) ⟨by omega, by omega⟩ ⟨by omega, by omega⟩ ⟨by omega, by omega⟩ ⟨by omega, by omega⟩ (show 0 ≤ (I63a 1670) ∧ (I63a 1670) < 3016 by first | assumption | omega)) (fun r105 M106 q107 => ?_)
                    rcases q107 with ⟨A108, e109, hR107a, f110, f111⟩
                    rw [e109]
                    replace hR107a : w_Rep w_TC fr X u l (w_up I63a 1670 ((I63a 1670) + 1)) A108 B63a C63a M106 := hR107a
                    replace f110 : c_fa c_pa A63a A108 := f110
                    replace f111 : c_mk A63a A108 (I63a 1670) 7 v64 (-1) (-1) := f111
                    have k112 : c_Pxn A108 (c_r (I 2439) 2) (I63a 1670) (I63a 1670) (I_34 1670) := c_Pxn_mk f111 (c_Wn_win k89 (show (I_34 1670) ≤ (I_34 1670) by omega) (show (I63a 1670) ≤ (I63a 1670) by omega)) (show 0 ≤ (I_34 1670) by omega)
                    have k113 : c_Pxn A108 (c_r (I 2439) 2) (I3a 1670) y34_3 (I 1670) := c_Pxn_agl k87 f111.1 (show 0 ≤ (I 1670) by omega) (show y34_3 < (I63a 1670) by omega)
                    clear k87
                    have k114 : c_Wn A108 (c_r (I 2439) 2) v64 (I_34 1670) (I63a 1670) := c_Wn_agl k89 f111.1 (show 0 ≤ (I_34 1670) by omega) (show (I63a 1670) ≤ (I63a 1670) by omega)
                    clear k89
                    have g115 : c_agl A A108 (I 1670) := c_agl_trans g88 f111.1 (show (I 1670) ≤ (I63a 1670) by omega)
                    show w_W _ _ _ (83, [(5, .int (Int32.ofInt (v64))), (0, .ref 38), (1, .int (Int32.ofInt (v4))), (2, .int (Int32.ofInt ((I3a 1670)))), (3, .int (Int32.ofInt (y34_3))), (4, .int (Int32.ofInt (y34_4)))], [.int (Int32.ofInt ((I63a 1670)))], M106) _
                    refine w_adv (n := 2) (F' := (86, [(5, .int (Int32.ofInt ((I63a 1670)))), (0, .ref 38), (1, .int (Int32.ofInt (v4))), (2, .int (Int32.ofInt ((I3a 1670)))), (3, .int (Int32.ofInt (y34_3))), (4, .int (Int32.ofInt (y34_4)))], [.ref 38], M106)) rfl ?_
                    refine w_gf (v := .ref 26) hR107a rfl rfl rfl rfl ?_
                    refine w_adv (n := 2) (F' := (92, [(5, .int (Int32.ofInt ((I63a 1670)))), (0, .ref 38), (1, .int (Int32.ofInt (v4))), (2, .int (Int32.ofInt ((I3a 1670)))), (3, .int (Int32.ofInt (y34_3))), (4, .int (Int32.ofInt (y34_4)))], [.int (Int32.ofInt ((I63a 1670))), .int (Int32.ofInt (y34_3)), .ref 26], M106)) rfl ?_
                    refine w_call (cm := 115) (as := [(0, .ref 26), (1, .int (Int32.ofInt (y34_3))), (2, .int (Int32.ofInt ((I63a 1670))))]) (rest := []) (o := some (8, 26)) rfl (w_fitR hR107a rfl) (c_stb (y34_3) ((I63a 1670)) hR107a (show 2 ≤ d by omega) ⟨by omega, by omega⟩ ⟨by omega, by omega⟩) (fun r116 M117 q118 => ?_)
                    rcases q118 with ⟨A119, e120, hR118a, f121, f122⟩
                    rw [e120]
                    replace hR118a : w_Rep w_TC fr X u l (w_up I63a 1670 ((I63a 1670) + 1)) A119 B63a C63a M117 := hR118a
                    replace f121 : c_fa c_pa A108 A119 := f121
                    replace f122 : c_bw A108 A119 y34_3 (I63a 1670) := f122
                    have k123 : c_Pxn A119 (c_r (I 2439) 2) (I3a 1670) (I63a 1670) (I 1670) := c_Pxn_app k113 f122 (show 0 ≤ y34_3 ∧ y34_3 < 3016 by omega) (show y34_3 < (I63a 1670) by omega) (by rw [show y34_3 + 1 = (I_34 1670) from by omega]; exact k112)
                    have g124 : c_agl A108 A119 (I 1670) := c_agl_bw f122 (Or.inl (show (I 1670) ≤ y34_3 by omega))
                    have k125 : c_Wn A119 (c_r (I 2439) 2) v64 (I_34 1670) (I63a 1670) := c_Wn_agl k114 g124 (show 0 ≤ (I_34 1670) by omega) (show (I63a 1670) ≤ (I 1670) by omega)
                    clear k114
                    have g126 : c_agl A A119 (I 1670) := c_agl_trans g115 g124 (show (I 1670) ≤ (I 1670) by omega)
                    show w_W _ _ _ (95, [(5, .int (Int32.ofInt ((I63a 1670)))), (0, .ref 38), (1, .int (Int32.ofInt (v4))), (2, .int (Int32.ofInt ((I3a 1670)))), (3, .int (Int32.ofInt (y34_3))), (4, .int (Int32.ofInt (y34_4)))], [], M117) _
                    refine w_adv (n := 2) (F' := (98, [(3, .int (Int32.ofInt ((I63a 1670)))), (5, .int (Int32.ofInt ((I63a 1670)))), (0, .ref 38), (1, .int (Int32.ofInt (v4))), (2, .int (Int32.ofInt ((I3a 1670)))), (4, .int (Int32.ofInt (y34_4)))], [], M117)) rfl ?_
                    refine w_inc (nL := 6) (a := y34_4) rfl rfl rfl (by decide) ?_
                    refine w_adv (n := 1) (F' := (34, [(4, .int (Int32.ofInt (y34_4 + 1))), (3, .int (Int32.ofInt ((I63a 1670)))), (5, .int (Int32.ofInt ((I63a 1670)))), (0, .ref 38), (1, .int (Int32.ofInt (v4))), (2, .int (Int32.ofInt ((I3a 1670))))], [], M117)) rfl ?_
                    refine w_ls (ls := [(0, .ref 38), (1, .int (Int32.ofInt (v4))), (2, .int (Int32.ofInt ((I3a 1670)))), (3, .int (Int32.ofInt ((I63a 1670)))), (4, .int (Int32.ofInt (y34_4 + 1)))]) (show List.Nodup [0, 1, 2, 3, 4] by decide) (show List.Nodup [4, 3, 5, 0, 1, 2] by decide) (List.forall_mem_cons.mpr ⟨(List.Mem.tail _ (List.Mem.tail _ (List.Mem.tail _ (List.Mem.head _)))), (List.forall_mem_cons.mpr ⟨(List.Mem.tail _ (List.Mem.tail _ (List.Mem.tail _ (List.Mem.tail _ (List.Mem.head _))))), (List.forall_mem_cons.mpr ⟨(List.Mem.tail _ (List.Mem.tail _ (List.Mem.tail _ (List.Mem.tail _ (List.Mem.tail _ (List.Mem.head _)))))), (List.forall_mem_cons.mpr ⟨(List.Mem.tail _ (List.Mem.head _)), (List.forall_mem_cons.mpr ⟨(List.Mem.head _), (fun _ h => by cases h)⟩)⟩)⟩)⟩)⟩) ?_
                    exact ih34  ((I63a 1670)) (y34_4 + 1) (w_up I63a 1670 ((I63a 1670) + 1)) A119 B63a C63a M117 hR118a ⟨by omega, by omega⟩ ⟨by omega, by omega⟩ (show c_fi c_ps I (w_up I63a 1670 ((I63a 1670) + 1)) by exact (c_fi_up (c_fi_trans (c_fi_up (c_fi_up (c_fi_up (c_fi_up hi34_0 rfl) rfl) rfl) rfl) f68) rfl)) (show c_fa c_pa A A119 by exact (c_fa_trans (c_fa_trans (c_fa_trans hi34_1 f69) f110) f121)) (show (0 ≤ (I63a 2436) ∧ (I63a 2436) ≤ (I63a 773) ∧ ((I63a 2437) = 0 ∨ (I63a 2436) < (I63a 773))) ∧ ((I63a 773) = (I 773) ∧ (I63a 2439) = (I 2439) ∧ 0 ≤ (I63a 2117)) ∧ (I 2436) + 1 ≤ (I63a 2436) ∧ ((I63a 1670) + 1) + 0 ≤ (I 1670) + 2 * ((I63a 2436) - (I 2436)) ∧ (I 1670) ≤ (I63a 1670) + 1 by (repeat' apply And.intro) <;> first | assumption | omega) (show c_agl A A119 (I 1670) by exact g126) (show c_Exq A119 (c_r (I 2439) 2) (I63a 2437) (I3a 1670) (I63a 1670) (I 1670) ((I63a 1670) + 1) by exact Or.inl ⟨by omega, k123, by omega⟩) (show 0 ≤ (y34_4 + 1) ∧ 2 * (y34_4 + 1) + 1 ≤ (I63a 2436) - (I 2436) ∧ ((I63a 2437) = 18 ∨ ((I63a 1670) + 1) + 1 ≤ (I 1670) + 2 * ((I63a 2436) - (I 2436))) by omega) (show 1500 - (y34_4 + 1) < (fu34 : Int) by omega)
                · rw [e74]
                  replace hR63b : w_Rep w_TC fr X (u + 6) (l + 64) I63b A63b B63b C63b M62 := hR63b
                  replace f75 : c_fi c_ps (w_up (w_up (w_up (w_up I_34 2436 ((I_34 2436) + 1)) 2441 (zt51)) 2437 (zk52)) 2438 (zv53)) I63b := f75
                  replace f76 : c_fa c_pa A_34 A63b := f76
                  replace f77 : M62.1[t73]? = some (.inr (11, [])) := f77
                  exact Or.inr (⟨t73, I63b, A63b, B63b, C63b, rfl, hR63b, (show c_fi c_ps I I63b by exact (c_fi_trans (c_fi_up (c_fi_up (c_fi_up (c_fi_up hi34_0 rfl) rfl) rfl) rfl) f75)), (show c_fa c_pa A A63b by exact (c_fa_trans hi34_1 f76)), (show M62.1[t73]? = some (.inr (11, [])) by exact f77)⟩)
              · rw [e57]
                replace hR50b : w_Rep w_TC fr X (u + 6) (l + 64) I50b A50b B50b C50b M49 := hR50b
                replace f58 : c_fi c_ps I_34 I50b := f58
                replace f59 : c_fa c_pa A_34 A50b := f59
                replace f60 : M49.1[t56]? = some (.inr (11, [])) := f60
                exact Or.inr (⟨t56, I50b, A50b, B50b, C50b, rfl, hR50b, (show c_fi c_ps I I50b by exact (c_fi_trans hi34_0 f58)), (show c_fa c_pa A A50b by exact (c_fa_trans hi34_1 f59)), (show M49.1[t56]? = some (.inr (11, [])) by exact f60)⟩)
      refine w_ls (ls := [(0, .ref 38), (1, .int (Int32.ofInt (v4))), (2, .int (Int32.ofInt ((I3a 1670)))), (3, .int (Int32.ofInt ((I3a 1670)))), (4, .int (Int32.ofInt (0)))]) (show List.Nodup [0, 1, 2, 3, 4] by decide) (show List.Nodup [4, 3, 2, 1, 0] by decide) (List.forall_mem_cons.mpr ⟨(List.Mem.tail _ (List.Mem.tail _ (List.Mem.tail _ (List.Mem.tail _ (List.Mem.head _))))), (List.forall_mem_cons.mpr ⟨(List.Mem.tail _ (List.Mem.tail _ (List.Mem.tail _ (List.Mem.head _)))), (List.forall_mem_cons.mpr ⟨(List.Mem.tail _ (List.Mem.tail _ (List.Mem.head _))), (List.forall_mem_cons.mpr ⟨(List.Mem.tail _ (List.Mem.head _)), (List.forall_mem_cons.mpr ⟨(List.Mem.head _), (fun _ h => by cases h)⟩)⟩)⟩)⟩)⟩) ?_
      exact lp34 ((1500 - 0 : Int).toNat + 1)  ((I3a 1670)) (0) (w_up I3a 1670 ((I3a 1670) + 1)) A37 B3a C3a M35 hR36a ⟨by omega, by omega⟩ ⟨by omega, by omega⟩ (show c_fi c_ps I (w_up I3a 1670 ((I3a 1670) + 1)) by exact (c_fi_up f8 rfl)) (show c_fa c_pa A A37 by exact (c_fa_trans f9 f39)) (show (0 ≤ (I3a 2436) ∧ (I3a 2436) ≤ (I3a 773) ∧ ((I3a 2437) = 0 ∨ (I3a 2436) < (I3a 773))) ∧ ((I3a 773) = (I 773) ∧ (I3a 2439) = (I 2439) ∧ 0 ≤ (I3a 2117)) ∧ (I 2436) + 1 ≤ (I3a 2436) ∧ ((I3a 1670) + 1) + 0 ≤ (I 1670) + 2 * ((I3a 2436) - (I 2436)) ∧ (I 1670) ≤ (I3a 1670) + 1 by (repeat' apply And.intro) <;> first | assumption | omega) (show c_agl A A37 (I 1670) by exact g43) (show c_Exq A37 (c_r (I 2439) 2) (I3a 2437) (I3a 1670) (I3a 1670) (I 1670) ((I3a 1670) + 1) by exact Or.inl ⟨by omega, k41, by omega⟩) (show 0 ≤ (0 : Int) ∧ 2 * (0 : Int) + 1 ≤ (I3a 2436) - (I 2436) ∧ ((I3a 2437) = 18 ∨ ((I3a 1670) + 1) + 1 ≤ (I 1670) + 2 * ((I3a 2436) - (I 2436))) by omega) (show 1500 - 0 < (((1500 - 0 : Int).toNat + 1 : Nat) : Int) by omega)
    · have h33 : ¬ ((I3a 2437) = 18) := h33
      show w_W _ _ _ (14, [(1, .int (Int32.ofInt (v4))), (0, .ref 38)], [], M2) _
      refine w_adv (n := 1) (F' := (15, [(1, .int (Int32.ofInt (v4))), (0, .ref 38)], [.int (Int32.ofInt (v4))], M2)) rfl ?_
      refine w_fin (r := .inl (some (v4))) (M' := M2) rfl ?_
      exact Or.inl ⟨v4, I3a, A3a, B3a, C3a, rfl, ⟨by omega, by omega⟩, hR3a, (show c_fi c_ps I I3a by exact f8), (show c_fa c_pa A A3a by exact f9), (show (0 ≤ (I3a 2436) ∧ (I3a 2436) ≤ (I3a 773) ∧ ((I3a 2437) = 0 ∨ (I3a 2436) < (I3a 773))) ∧ ((I3a 773) = (I 773) ∧ (I3a 2439) = (I 2439) ∧ 0 ≤ (I3a 2117)) ∧ (I 2436) + 1 ≤ (I3a 2436) ∧ (I3a 1670) + 1 ≤ (I 1670) + 2 * ((I3a 2436) - (I 2436)) ∧ (I 1670) ≤ (I3a 1670) by (repeat' apply And.intro) <;> first | assumption | omega), (show c_agl A A3a (I 1670) by exact g27), (show c_Wn A3a (c_r (I 2439) 3) v4 (I 1670) (I3a 1670) by exact c_Wn_win (c_Wn_up k28 (show c_r (I 2439) 2 ≤ c_r (I 2439) 3 by unfold c_r; omega)) (show (I 1670) ≤ (I 1670) by omega) (show (I3a 1670) ≤ (I3a 1670) by omega))⟩
  · rw [e14]
    replace hR3b : w_Rep w_TC fr X (u + 6) (l + 64) I3b A3b B3b C3b M2 := hR3b
    replace f15 : c_fi c_ps I I3b := f15
    replace f16 : c_fa c_pa A A3b := f16
    replace f17 : M2.1[t13]? = some (.inr (11, [])) := f17
    exact Or.inr (⟨t13, I3b, A3b, B3b, C3b, rfl, hR3b, (show c_fi c_ps I I3b by exact f15), (show c_fa c_pa A A3b by exact f16), (show M2.1[t13]? = some (.inr (11, [])) by exact f17)⟩)
