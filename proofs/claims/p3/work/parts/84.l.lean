def c_cases_Q (fr : Nat → Bool) (X : Nat → Option (q_C (Nat → Int32))) (u l : Nat) (I : Nat → Int) (A : Nat → Int → Int) (B C : Nat → Nat) (M : w_M) (b : Int) : w_X → w_M → Prop := fun r M' => (∃ v : Int, ∃ (I' : Nat → Int) (A' : Nat → Int → Int) (B' C' : Nat → Nat), (r = .inl (some v)) ∧ (w_in v) ∧ (w_Rep w_TC fr X u l I' A' B' C' M') ∧ (c_fi c_ps I I') ∧ (c_fa c_pa A A') ∧ ((0 ≤ (I' 2436) ∧ (I' 2436) ≤ (I' 773) ∧ ((I' 2437) = 0 ∨ (I' 2436) < (I' 773))) ∧ ((I' 773) = (I 773) ∧ (I' 2439) = (I 2439) ∧ 0 ≤ (I' 2117)) ∧ (I 2436) + 1 ≤ (I' 2436) ∧ (I' 1670) + 1 ≤ (I 1670) + 2 * ((I' 2436) - (I 2436)) ∧ (I 1670) ≤ (I' 1670)) ∧ (c_agl A A' (I 1670)) ∧ (c_Wn A' (c_r (I 2439) 1) v (I 1670) (I' 1670))) ∨ (∃ t : Nat, ∃ (I' : Nat → Int) (A' : Nat → Int → Int) (B' C' : Nat → Nat), (r = .inr t) ∧ (w_Rep w_TC fr X (u + 6) (l + 64) I' A' B' C' M') ∧ (c_fi c_ps I I') ∧ (c_fa c_pa A A') ∧ (M'.1[t]? = some (.inr (11, []))))
set_option maxHeartbeats 100000000 in
set_option maxRecDepth 100000 in
theorem c_cases {L : Nat} {xs : Nat → Int32} {d : Nat} {fr : Nat → Bool} {X : Nat → Option (q_C (Nat → Int32))} {u l : Nat} {I : Nat → Int} {A : Nat → Int → Int} {B C : Nat → Nat} {M : w_M} (hA : c_ALL L xs d) (b : Int) (hR : w_Rep w_TC fr X u l I A B C M) (hd : 10 * (24 - (I 2439)) + 9 ≤ (d : Int)) (r_b : w_in b) (hl : l ≤ 7000000) (hNU : (0 ≤ (I 2436) ∧ (I 2436) ≤ (I 773) ∧ (I 773) ≤ 1501 ∧ ((I 2437) = 0 ∨ (I 2436) < (I 773))) ∧ (0 ≤ (I 2439) ∧ (I 2439) ≤ 24 ∧ 0 ≤ (I 2117)) ∧ 0 ≤ (I 1670) ∧ (I 1670) ≤ 2 * (I 2436) + 1) (hk0 : ¬ (I 2437) = 0) : w_W (z_P L xs) d 125 (0, [(0, .ref 38), (1, .int (Int32.ofInt (b)))], [], M) (c_cases_Q fr X u l I A B C M b) := by
  obtain ⟨ra_b, rb_b⟩ := r_b
  obtain ⟨d, rfl⟩ : ∃ d0, d = d0 + 1 := ⟨d - 1, by omega⟩
  refine w_adv (n := 1) (F' := (1, [(0, .ref 38), (1, .int (Int32.ofInt (b)))], [.ref 38], M)) rfl ?_
  refine w_call (cm := 99) (as := [(0, .ref 38)]) (rest := []) (o := some (4, 38)) rfl (w_fitR hR rfl) (c_open hR (show 4 ≤ d by omega) (show l ≤ 7000000 by first | assumption | omega) (show -1 ≤ (I 2436) ∧ (I 2436) < (I 773) ∧ (I 773) ≤ 1501 by first | assumption | omega) (show 0 ≤ (I 2439) ∧ (I 2439) ≤ 24 by first | assumption | omega)) (fun r1 M2 q3 => ?_)
  rcases q3 with ⟨zt4, zk5, zv6, e7, hR3a, f8, f9⟩ | ⟨t10, I3b, A3b, B3b, C3b, e11, hR3b, f12, f13, f14⟩
  · rw [e7]
    replace hR3a : w_Rep w_TC fr X u l (w_up (w_up (w_up (w_up (w_up I 2436 ((I 2436) + 1)) 2441 (zt4)) 2437 (zk5)) 2438 (zv6)) 2439 ((I 2439) + 1)) A B C M2 := hR3a
    replace f8 : ((I 2436) + 1 < (I 773) ∨ zk5 = 0) := f8
    replace f9 : (I 2439) < 24 := f9
    show w_W _ _ _ (4, [(0, .ref 38), (1, .int (Int32.ofInt (b)))], [], M2) _
    refine w_adv (n := 1) (F' := (5, [(0, .ref 38), (1, .int (Int32.ofInt (b)))], [.ref 38], M2)) rfl ?_
    refine w_call (cm := 89) (as := [(0, .ref 38)]) (rest := []) (o := some (4, 38)) rfl (w_fitR hR3a rfl) ((hA d (Nat.lt_succ_self d)).1 hR3a (show 10 * (24 - ((I 2439) + 1)) + 13 ≤ (d : Int) by omega) (show l ≤ 7000000 by first | assumption | omega) (show (0 ≤ (I 2436) + 1 ∧ (I 2436) + 1 ≤ (I 773) ∧ (I 773) ≤ 1501 ∧ (zk5 = 0 ∨ (I 2436) + 1 < (I 773))) ∧ (0 ≤ (I 2439) + 1 ∧ (I 2439) + 1 ≤ 24 ∧ 0 ≤ (I 2117)) ∧ 0 ≤ (I 1670) ∧ (I 1670) ≤ 2 * ((I 2436) + 1) + 1 by (repeat' apply And.intro) <;> first | assumption | omega)) (fun r15 M16 q17 => ?_)
    rcases q17 with ⟨v18, I17a, A17a, B17a, C17a, e19, ⟨r20, r21⟩, hR17a, f22, f23, f24, f25, f26⟩ | ⟨t27, I17b, A17b, B17b, C17b, e28, hR17b, f29, f30, f31⟩
    · rw [e19]
      replace hR17a : w_Rep w_TC fr X u l I17a A17a B17a C17a M16 := hR17a
      replace f22 : c_fi c_ps (w_up (w_up (w_up (w_up (w_up I 2436 ((I 2436) + 1)) 2441 (zt4)) 2437 (zk5)) 2438 (zv6)) 2439 ((I 2439) + 1)) I17a := f22
      replace f23 : c_fa c_pa A A17a := f23
      replace f24 : (0 ≤ (I17a 2436) ∧ (I17a 2436) ≤ (I17a 773) ∧ ((I17a 2437) = 0 ∨ (I17a 2436) < (I17a 773))) ∧ ((I17a 773) = (I 773) ∧ (I17a 2439) = (I 2439) + 1 ∧ 0 ≤ (I17a 2117)) ∧ ((I 2436) + 1) + 1 ≤ (I17a 2436) ∧ (I17a 1670) + 1 ≤ (I 1670) + 2 * ((I17a 2436) - ((I 2436) + 1)) ∧ (I 1670) ≤ (I17a 1670) := f24
      obtain ⟨⟨n32, n33, n34⟩, ⟨n35, n36, n37⟩, n38, n39, n40⟩ := id f24
      clear f24
      replace f25 : c_agl A A17a (I 1670) := f25
      replace f26 : c_Wn A17a (c_r ((I 2439) + 1) 3) v18 (I 1670) (I17a 1670) := f26
      have g41 : c_agl A A17a (I 1670) := c_agl_trans c_agl_refl f25 (show (I 1670) ≤ (I 1670) by omega)
      have k42 : c_Wn A17a (c_r (I 2439) 0) v18 (I 1670) (I17a 1670) := c_Wn_up f26 (show c_r ((I 2439) + 1) 3 ≤ c_r (I 2439) 0 by unfold c_r; omega)
      obtain ⟨b43, b44⟩ := c_W_in k42.1
      skip
      show w_W _ _ _ (8, [(0, .ref 38), (1, .int (Int32.ofInt (b)))], [.int (Int32.ofInt (v18))], M16) _
      refine w_adv (n := 2) (F' := (10, [(2, .int (Int32.ofInt (v18))), (0, .ref 38), (1, .int (Int32.ofInt (b)))], [.ref 38], M16)) rfl ?_
      refine w_gf (v := .int (Int32.ofInt ((I17a 2437)))) hR17a rfl rfl rfl rfl ?_
      obtain ⟨r45, r46⟩ : -2147483648 ≤ (I17a 2437) ∧ (I17a 2437) ≤ 2147483647 := hR17a.ri 2437
      refine w_adv (n := 1) (F' := (15, [(2, .int (Int32.ofInt (v18))), (0, .ref 38), (1, .int (Int32.ofInt (b)))], [.int (Int32.ofInt (29)), .int (Int32.ofInt ((I17a 2437)))], M16)) rfl ?_
      refine w_br2 (a := (I17a 2437)) (b := 29) rfl rfl ⟨by omega, by omega⟩ ⟨by omega, by omega⟩ (fun h47 => ?_) (fun h47 => ?_)
      · have h47 : (I17a 2437) = 29 := h47
        show w_W _ _ _ (24, [(2, .int (Int32.ofInt (v18))), (0, .ref 38), (1, .int (Int32.ofInt (b)))], [], M16) _
        refine w_adv (n := 6) (F' := (32, [(5, .int (Int32.ofInt (0))), (4, .int (Int32.ofInt ((-1)))), (3, .int (Int32.ofInt ((-1)))), (2, .int (Int32.ofInt (v18))), (0, .ref 38), (1, .int (Int32.ofInt (b)))], [], M16)) rfl ?_
        have lp32 : ∀ fu32 : Nat, ∀ (y32_3 : Int) (y32_4 : Int) (y32_5 : Int) (I_32 : Nat → Int) (A_32 : Nat → Int → Int) (B_32 C_32 : Nat → Nat) (M_32 : w_M) (hR_32 : w_Rep w_TC fr X u l I_32 A_32 B_32 C_32 M_32), w_in y32_3 → w_in y32_4 → w_in y32_5 → c_fi c_ps I I_32 → c_fa c_pa A A_32 → (0 ≤ (I_32 2436) ∧ (I_32 2436) ≤ (I_32 773) ∧ ((I_32 2437) = 0 ∨ (I_32 2436) < (I_32 773))) ∧ ((I_32 773) = (I 773) ∧ (I_32 2439) = (I 2439) + 1 ∧ 0 ≤ (I_32 2117)) ∧ (I 2436) + 1 ≤ (I_32 2436) ∧ (I_32 1670) + 2 ≤ (I 1670) + 2 * ((I_32 2436) - (I 2436)) ∧ (I 1670) ≤ (I_32 1670) → c_agl A A_32 (I 1670) → c_Wn A_32 (c_r (I 2439) 0) v18 (I 1670) (I17a 1670) → c_Chq c_P2 A_32 (c_r (I 2439) 0) y32_3 y32_4 (I17a 1670) (I_32 1670) → 0 ≤ y32_5 ∧ y32_5 ≤ 1500 ∧ (I17a 1670) ≤ (I_32 1670) → 1500 - y32_5 < (fu32 : Int) → w_W (z_P L xs) (d + 1) 125 (32, [(0, .ref 38), (1, .int (Int32.ofInt (b))), (2, .int (Int32.ofInt (v18))), (3, .int (Int32.ofInt (y32_3))), (4, .int (Int32.ofInt (y32_4))), (5, .int (Int32.ofInt (y32_5)))], [], M_32) (c_cases_Q fr X u l I A B C M b) := by
          intro fu32
          induction fu32 with
          | zero =>
            intro y32_3 y32_4 y32_5 I_32 A_32 B_32 C_32 M_32 hR_32 ⟨ra_y32_3, rb_y32_3⟩ ⟨ra_y32_4, rb_y32_4⟩ ⟨ra_y32_5, rb_y32_5⟩ hi32_0 hi32_1 hi32_2 hi32_3 hi32_4 hi32_5 hi32_6 hn32
            exfalso
            omega
          | succ fu32 ih32 =>
            intro y32_3 y32_4 y32_5 I_32 A_32 B_32 C_32 M_32 hR_32 ⟨ra_y32_3, rb_y32_3⟩ ⟨ra_y32_4, rb_y32_4⟩ ⟨ra_y32_5, rb_y32_5⟩ hi32_0 hi32_1 hi32_2 hi32_3 hi32_4 hi32_5 hi32_6 hn32
            refine w_adv (n := 2) (F' := (37, [(0, .ref 38), (1, .int (Int32.ofInt (b))), (2, .int (Int32.ofInt (v18))), (3, .int (Int32.ofInt (y32_3))), (4, .int (Int32.ofInt (y32_4))), (5, .int (Int32.ofInt (y32_5)))], [.int (Int32.ofInt (1500)), .int (Int32.ofInt (y32_5))], M_32)) rfl ?_
            refine w_br2 (a := y32_5) (b := 1500) rfl rfl ⟨by omega, by omega⟩ ⟨by omega, by omega⟩ (fun h48 => ?_) (fun h48 => ?_)
            · have h48 : y32_5 ≥ 1500 := h48
              show w_W _ _ _ (140, [(0, .ref 38), (1, .int (Int32.ofInt (b))), (2, .int (Int32.ofInt (v18))), (3, .int (Int32.ofInt (y32_3))), (4, .int (Int32.ofInt (y32_4))), (5, .int (Int32.ofInt (y32_5)))], [], M_32) _
              refine w_adv (n := 2) (F' := (142, [(0, .ref 38), (1, .int (Int32.ofInt (b))), (2, .int (Int32.ofInt (v18))), (3, .int (Int32.ofInt (y32_3))), (4, .int (Int32.ofInt (y32_4))), (5, .int (Int32.ofInt (y32_5)))], [.int (Int32.ofInt (b)), .ref 38], M_32)) rfl ?_
              refine w_call (cm := 124) (as := [(0, .ref 38), (1, .int (Int32.ofInt (b)))]) (rest := []) (o := some (4, 38)) rfl (w_fitR hR_32 rfl) (c_otherwise (c_ALL_dn hA) (b) hR_32 (show 10 * (24 - (I_32 2439)) + 17 ≤ (d : Int) by omega) ⟨by omega, by omega⟩ (show l ≤ 7000000 by first | assumption | omega) (show (0 ≤ (I_32 2436) ∧ (I_32 2436) ≤ (I_32 773) ∧ (I_32 773) ≤ 1501 ∧ ((I_32 2437) = 0 ∨ (I_32 2436) < (I_32 773))) ∧ (0 ≤ (I_32 2439) ∧ (I_32 2439) ≤ 24 ∧ 0 ≤ (I_32 2117)) ∧ 0 ≤ (I_32 1670) ∧ (I_32 1670) ≤ 2 * (I_32 2436) + 1 by (repeat' apply And.intro) <;> first | assumption | omega)) (fun r49 M50 q51 => ?_)
              rcases q51 with ⟨v52, I51a, A51a, B51a, C51a, e53, ⟨r54, r55⟩, hR51a, f56, f57, f58, f59, f60⟩ | ⟨t61, I51b, A51b, B51b, C51b, e62, hR51b, f63, f64, f65⟩
              · rw [e53]
                replace hR51a : w_Rep w_TC fr X u l I51a A51a B51a C51a M50 := hR51a
                replace f56 : c_fi c_ps I_32 I51a := f56
                replace f57 : c_fa c_pa A_32 A51a := f57
                replace f58 : (0 ≤ (I51a 2436) ∧ (I51a 2436) ≤ (I51a 773) ∧ ((I51a 2437) = 0 ∨ (I51a 2436) < (I51a 773))) ∧ ((I51a 773) = (I_32 773) ∧ (I51a 2439) = (I_32 2439) ∧ 0 ≤ (I51a 2117)) ∧ (I_32 2436) + 0 ≤ (I51a 2436) ∧ (I51a 1670) + 0 ≤ (I_32 1670) + 2 * ((I51a 2436) - (I_32 2436)) ∧ (I_32 1670) ≤ (I51a 1670) := f58
                obtain ⟨⟨n66, n67, n68⟩, ⟨n69, n70, n71⟩, n72, n73, n74⟩ := id f58
                clear f58
                replace f59 : c_agl A_32 A51a (I_32 1670) := f59
                replace f60 : v52 = -1 ∨ c_Bd A51a (c_W A51a (c_r (I_32 2439) 4)) v52 (I_32 1670) (I51a 1670) := f60
                have k75 : c_Wn A51a (c_r (I 2439) 0) v18 (I 1670) (I17a 1670) := c_Wn_agl hi32_4 f59 (show 0 ≤ (I 1670) by omega) (show (I17a 1670) ≤ (I_32 1670) by omega)
                clear hi32_4
                have k76 : c_Chq c_P2 A51a (c_r (I 2439) 0) y32_3 y32_4 (I17a 1670) (I_32 1670) := c_Chq_agl c_P2_fam hi32_5 f59 (show 0 ≤ (I17a 1670) by omega) (show (I_32 1670) ≤ (I_32 1670) by omega)
                clear hi32_5
                have g77 : c_agl A A51a (I 1670) := c_agl_trans hi32_3 f59 (show (I 1670) ≤ (I_32 1670) by omega)
                have k78 : v52 = -1 ∨ c_Bd A51a (c_W A51a (c_r (I 2439) 0)) v52 (I_32 1670) (I51a 1670) := f60.imp_right (fun g => c_Bd_up g (show c_r (I_32 2439) 4 ≤ c_r (I 2439) 0 by unfold c_r; omega))
                show w_W _ _ _ (145, [(0, .ref 38), (1, .int (Int32.ofInt (b))), (2, .int (Int32.ofInt (v18))), (3, .int (Int32.ofInt (y32_3))), (4, .int (Int32.ofInt (y32_4))), (5, .int (Int32.ofInt (y32_5)))], [.int (Int32.ofInt (v52))], M50) _
                refine w_adv (n := 3) (F' := (150, [(5, .int (Int32.ofInt (v52))), (0, .ref 38), (1, .int (Int32.ofInt (b))), (2, .int (Int32.ofInt (v18))), (3, .int (Int32.ofInt (y32_3))), (4, .int (Int32.ofInt (y32_4)))], [.int (Int32.ofInt (24)), .ref 38], M50)) rfl ?_
                refine w_call (cm := 113) (as := [(0, .ref 38), (1, .int (Int32.ofInt (24)))]) (rest := []) (o := some (4, 38)) rfl (w_fitR hR51a rfl) (c_close (24) hR51a (show 4 ≤ d by omega) ⟨by omega, by omega⟩ (show l ≤ 7000000 by first | assumption | omega) (show -1 ≤ (I51a 2436) ∧ ((I51a 2437) = 0 ∨ (I51a 2436) < (I51a 773)) ∧ (I51a 773) ≤ 1501 ∧ 1 ≤ 24 by first | assumption | omega) (show 0 ≤ (I51a 2439) ∧ (I51a 2439) ≤ 24 by first | assumption | omega)) (fun r79 M80 q81 => ?_)
                rcases q81 with ⟨zt82, zk83, zv84, e85, hR81a, f86, f87⟩ | ⟨t88, I81b, A81b, B81b, C81b, e89, hR81b, f90, f91, f92⟩
                · rw [e85]
                  replace hR81a : w_Rep w_TC fr X u l (w_up (w_up (w_up (w_up (w_up I51a 2436 ((I51a 2436) + 1)) 2441 (zt82)) 2437 (zk83)) 2438 (zv84)) 2439 ((I51a 2439) - 1)) A51a B51a C51a M80 := hR81a
                  replace f86 : ((I51a 2436) + 1 < (I51a 773) ∨ zk83 = 0) := f86
                  replace f87 : (I51a 2437) = 24 := f87
                  show w_W _ _ _ (153, [(5, .int (Int32.ofInt (v52))), (0, .ref 38), (1, .int (Int32.ofInt (b))), (2, .int (Int32.ofInt (v18))), (3, .int (Int32.ofInt (y32_3))), (4, .int (Int32.ofInt (y32_4)))], [], M80) _
                  refine w_adv (n := 1) (F' := (154, [(5, .int (Int32.ofInt (v52))), (0, .ref 38), (1, .int (Int32.ofInt (b))), (2, .int (Int32.ofInt (v18))), (3, .int (Int32.ofInt (y32_3))), (4, .int (Int32.ofInt (y32_4)))], [.ref 38], M80)) rfl ?_
                  refine w_gf (v := .ref 26) hR81a rfl rfl rfl rfl ?_
                  refine w_adv (n := 4) (F' := (163, [(5, .int (Int32.ofInt (v52))), (0, .ref 38), (1, .int (Int32.ofInt (b))), (2, .int (Int32.ofInt (v18))), (3, .int (Int32.ofInt (y32_3))), (4, .int (Int32.ofInt (y32_4)))], [.int (Int32.ofInt (v52)), .int (Int32.ofInt (y32_3)), .int (Int32.ofInt (v18)), .int (Int32.ofInt (15)), .ref 26], M80)) rfl ?_
                  refine w_call (cm := 94) (as := [(0, .ref 26), (1, .int (Int32.ofInt (15))), (2, .int (Int32.ofInt (v18))), (3, .int (Int32.ofInt (y32_3))), (4, .int (Int32.ofInt (v52)))]) (rest := []) (o := some (8, 26)) rfl (w_fitR hR81a rfl) (c_mkn (15) (v18) (y32_3) (v52) hR81a (show 2 ≤ d by omega) ⟨by omega, by omega⟩ ⟨by omega, by omega⟩ ⟨by omega, by omega⟩ ⟨by omega, by omega⟩ (show 0 ≤ (I51a 1670) ∧ (I51a 1670) < 3016 by first | assumption | omega)) (fun r93 M94 q95 => ?_)
                  rcases q95 with ⟨A96, e97, hR95a, f98, f99⟩
                  rw [e97]
                  replace hR95a : w_Rep w_TC fr X u l (w_up (w_up (w_up (w_up (w_up (w_up I51a 2436 ((I51a 2436) + 1)) 2441 (zt82)) 2437 (zk83)) 2438 (zv84)) 2439 ((I51a 2439) - 1)) 1670 ((I51a 1670) + 1)) A96 B51a C51a M94 := hR95a
                  replace f98 : c_fa c_pa A51a A96 := f98
                  replace f99 : c_mk A51a A96 (I51a 1670) 15 v18 y32_3 v52 := f99
                  have k100 : c_Wn A96 (c_r (I 2439) 1) (I51a 1670) (I 1670) ((I51a 1670) + 1) := c_Wn_up ⟨c_W_15 f99 (show 0 ≤ (I 1670) by omega) (show (I_32 1670) ≤ (I51a 1670) by omega) k75.1 (c_Ch_wide (fun _ _ => c_P2_win) (c_Chq_end k76) (show (I17a 1670) ≤ (I17a 1670) by omega) (show (I_32 1670) ≤ (I_32 1670) by omega)) (k78.imp_right (fun g => c_BdW_win g (show (I_32 1670) ≤ (I_32 1670) by omega) (show (I51a 1670) ≤ (I51a 1670) by omega))), f99.2.2.2.2.2⟩ (show (c_r (I 2439) 0) + 1 ≤ (c_r (I 2439) 1) by unfold c_r; omega)
                  have g101 : c_agl A A96 (I 1670) := c_agl_trans g77 f99.1 (show (I 1670) ≤ (I51a 1670) by omega)
                  show w_W _ _ _ (166, [(5, .int (Int32.ofInt (v52))), (0, .ref 38), (1, .int (Int32.ofInt (b))), (2, .int (Int32.ofInt (v18))), (3, .int (Int32.ofInt (y32_3))), (4, .int (Int32.ofInt (y32_4)))], [.int (Int32.ofInt ((I51a 1670)))], M94) _
                  refine w_fin (r := .inl (some ((I51a 1670)))) (M' := M94) rfl ?_
                  exact Or.inl ⟨(I51a 1670), (w_up (w_up (w_up (w_up (w_up (w_up I51a 2436 ((I51a 2436) + 1)) 2441 (zt82)) 2437 (zk83)) 2438 (zv84)) 2439 ((I51a 2439) - 1)) 1670 ((I51a 1670) + 1)), A96, B51a, C51a, rfl, ⟨by omega, by omega⟩, hR95a, (show c_fi c_ps I (w_up (w_up (w_up (w_up (w_up (w_up I51a 2436 ((I51a 2436) + 1)) 2441 (zt82)) 2437 (zk83)) 2438 (zv84)) 2439 ((I51a 2439) - 1)) 1670 ((I51a 1670) + 1)) by exact (c_fi_up (c_fi_up (c_fi_up (c_fi_up (c_fi_up (c_fi_up (c_fi_trans hi32_0 f56) rfl) rfl) rfl) rfl) rfl) rfl)), (show c_fa c_pa A A96 by exact (c_fa_trans (c_fa_trans hi32_1 f57) f98)), (show (0 ≤ (I51a 2436) + 1 ∧ (I51a 2436) + 1 ≤ (I51a 773) ∧ (zk83 = 0 ∨ (I51a 2436) + 1 < (I51a 773))) ∧ ((I51a 773) = (I 773) ∧ (I51a 2439) - 1 = (I 2439) ∧ 0 ≤ (I51a 2117)) ∧ (I 2436) + 1 ≤ (I51a 2436) + 1 ∧ ((I51a 1670) + 1) + 1 ≤ (I 1670) + 2 * (((I51a 2436) + 1) - (I 2436)) ∧ (I 1670) ≤ (I51a 1670) + 1 by (repeat' apply And.intro) <;> first | assumption | omega), (show c_agl A A96 (I 1670) by exact g101), (show c_Wn A96 (c_r (I 2439) 1) (I51a 1670) (I 1670) ((I51a 1670) + 1) by exact c_Wn_win (c_Wn_up k100 (show c_r (I 2439) 1 ≤ c_r (I 2439) 1 by unfold c_r; omega)) (show (I 1670) ≤ (I 1670) by omega) (show ((I51a 1670) + 1) ≤ ((I51a 1670) + 1) by omega))⟩
                · rw [e89]
                  replace hR81b : w_Rep w_TC fr X (u + 6) (l + 64) I81b A81b B81b C81b M80 := hR81b
                  replace f90 : c_fi c_ps I51a I81b := f90
                  replace f91 : c_fa c_pa A51a A81b := f91
                  replace f92 : M80.1[t88]? = some (.inr (11, [])) := f92
                  exact Or.inr (⟨t88, I81b, A81b, B81b, C81b, rfl, hR81b, (show c_fi c_ps I I81b by exact (c_fi_trans (c_fi_trans hi32_0 f56) f90)), (show c_fa c_pa A A81b by exact (c_fa_trans (c_fa_trans hi32_1 f57) f91)), (show M80.1[t88]? = some (.inr (11, [])) by exact f92)⟩)
              · rw [e62]
                replace hR51b : w_Rep w_TC fr X (u + 6) (l + 64) I51b A51b B51b C51b M50 := hR51b
                replace f63 : c_fi c_ps I_32 I51b := f63
                replace f64 : c_fa c_pa A_32 A51b := f64
                replace f65 : M50.1[t61]? = some (.inr (11, [])) := f65
                exact Or.inr (⟨t61, I51b, A51b, B51b, C51b, rfl, hR51b, (show c_fi c_ps I I51b by exact (c_fi_trans hi32_0 f63)), (show c_fa c_pa A A51b by exact (c_fa_trans hi32_1 f64)), (show M50.1[t61]? = some (.inr (11, [])) by exact f65)⟩)
            · have h48 : ¬ (y32_5 ≥ 1500) := h48
              show w_W _ _ _ (40, [(0, .ref 38), (1, .int (Int32.ofInt (b))), (2, .int (Int32.ofInt (v18))), (3, .int (Int32.ofInt (y32_3))), (4, .int (Int32.ofInt (y32_4))), (5, .int (Int32.ofInt (y32_5)))], [], M_32) _
              refine w_adv (n := 1) (F' := (41, [(0, .ref 38), (1, .int (Int32.ofInt (b))), (2, .int (Int32.ofInt (v18))), (3, .int (Int32.ofInt (y32_3))), (4, .int (Int32.ofInt (y32_4))), (5, .int (Int32.ofInt (y32_5)))], [.ref 38], M_32)) rfl ?_
              refine w_gf (v := .int (Int32.ofInt ((I_32 2437)))) hR_32 rfl rfl rfl rfl ?_
              obtain ⟨r102, r103⟩ : -2147483648 ≤ (I_32 2437) ∧ (I_32 2437) ≤ 2147483647 := hR_32.ri 2437
              refine w_adv (n := 1) (F' := (46, [(0, .ref 38), (1, .int (Int32.ofInt (b))), (2, .int (Int32.ofInt (v18))), (3, .int (Int32.ofInt (y32_3))), (4, .int (Int32.ofInt (y32_4))), (5, .int (Int32.ofInt (y32_5)))], [.int (Int32.ofInt (29)), .int (Int32.ofInt ((I_32 2437)))], M_32)) rfl ?_
              refine w_br2 (a := (I_32 2437)) (b := 29) rfl rfl ⟨by omega, by omega⟩ ⟨by omega, by omega⟩ (fun h104 => ?_) (fun h104 => ?_)
              · have h104 : ¬ (I_32 2437) = 29 := h104
                show w_W _ _ _ (140, [(0, .ref 38), (1, .int (Int32.ofInt (b))), (2, .int (Int32.ofInt (v18))), (3, .int (Int32.ofInt (y32_3))), (4, .int (Int32.ofInt (y32_4))), (5, .int (Int32.ofInt (y32_5)))], [], M_32) _
                refine w_adv (n := 2) (F' := (142, [(0, .ref 38), (1, .int (Int32.ofInt (b))), (2, .int (Int32.ofInt (v18))), (3, .int (Int32.ofInt (y32_3))), (4, .int (Int32.ofInt (y32_4))), (5, .int (Int32.ofInt (y32_5)))], [.int (Int32.ofInt (b)), .ref 38], M_32)) rfl ?_
                refine w_call (cm := 124) (as := [(0, .ref 38), (1, .int (Int32.ofInt (b)))]) (rest := []) (o := some (4, 38)) rfl (w_fitR hR_32 rfl) (c_otherwise (c_ALL_dn hA) (b) hR_32 (show 10 * (24 - (I_32 2439)) + 17 ≤ (d : Int) by omega) ⟨by omega, by omega⟩ (show l ≤ 7000000 by first | assumption | omega) (show (0 ≤ (I_32 2436) ∧ (I_32 2436) ≤ (I_32 773) ∧ (I_32 773) ≤ 1501 ∧ ((I_32 2437) = 0 ∨ (I_32 2436) < (I_32 773))) ∧ (0 ≤ (I_32 2439) ∧ (I_32 2439) ≤ 24 ∧ 0 ≤ (I_32 2117)) ∧ 0 ≤ (I_32 1670) ∧ (I_32 1670) ≤ 2 * (I_32 2436) + 1 by (repeat' apply And.intro) <;> first | assumption | omega)) (fun r105 M106 q107 => ?_)
                rcases q107 with ⟨v108, I107a, A107a, B107a, C107a, e109, ⟨r110, r111⟩, hR107a, f112, f113, f114, f115, f116⟩ | ⟨t117, I107b, A107b, B107b, C107b, e118, hR107b, f119, f120, f121⟩
                · rw [e109]
                  replace hR107a : w_Rep w_TC fr X u l I107a A107a B107a C107a M106 := hR107a
                  replace f112 : c_fi c_ps I_32 I107a := f112
                  replace f113 : c_fa c_pa A_32 A107a := f113
                  replace f114 : (0 ≤ (I107a 2436) ∧ (I107a 2436) ≤ (I107a 773) ∧ ((I107a 2437) = 0 ∨ (I107a 2436) < (I107a 773))) ∧ ((I107a 773) = (I_32 773) ∧ (I107a 2439) = (I_32 2439) ∧ 0 ≤ (I107a 2117)) ∧ (I_32 2436) + 0 ≤ (I107a 2436) ∧ (I107a 1670) + 0 ≤ (I_32 1670) + 2 * ((I107a 2436) - (I_32 2436)) ∧ (I_32 1670) ≤ (I107a 1670) := f114
                  obtain ⟨⟨n122, n123, n124⟩, ⟨n125, n126, n127⟩, n128, n129, n130⟩ := id f114
                  clear f114
                  replace f115 : c_agl A_32 A107a (I_32 1670) := f115
                  replace f116 : v108 = -1 ∨ c_Bd A107a (c_W A107a (c_r (I_32 2439) 4)) v108 (I_32 1670) (I107a 1670) := f116
                  have k131 : c_Wn A107a (c_r (I 2439) 0) v18 (I 1670) (I17a 1670) := c_Wn_agl hi32_4 f115 (show 0 ≤ (I 1670) by omega) (show (I17a 1670) ≤ (I_32 1670) by omega)
                  clear hi32_4
                  have k132 : c_Chq c_P2 A107a (c_r (I 2439) 0) y32_3 y32_4 (I17a 1670) (I_32 1670) := c_Chq_agl c_P2_fam hi32_5 f115 (show 0 ≤ (I17a 1670) by omega) (show (I_32 1670) ≤ (I_32 1670) by omega)
                  clear hi32_5
                  have g133 : c_agl A A107a (I 1670) := c_agl_trans hi32_3 f115 (show (I 1670) ≤ (I_32 1670) by omega)
                  have k134 : v108 = -1 ∨ c_Bd A107a (c_W A107a (c_r (I 2439) 0)) v108 (I_32 1670) (I107a 1670) := f116.imp_right (fun g => c_Bd_up g (show c_r (I_32 2439) 4 ≤ c_r (I 2439) 0 by unfold c_r; omega))
                  show w_W _ _ _ (145, [(0, .ref 38), (1, .int (Int32.ofInt (b))), (2, .int (Int32.ofInt (v18))), (3, .int (Int32.ofInt (y32_3))), (4, .int (Int32.ofInt (y32_4))), (5, .int (Int32.ofInt (y32_5)))], [.int (Int32.ofInt (v108))], M106) _
                  refine w_adv (n := 3) (F' := (150, [(5, .int (Int32.ofInt (v108))), (0, .ref 38), (1, .int (Int32.ofInt (b))), (2, .int (Int32.ofInt (v18))), (3, .int (Int32.ofInt (y32_3))), (4, .int (Int32.ofInt (y32_4)))], [.int (Int32.ofInt (24)), .ref 38], M106)) rfl ?_
                  refine w_call (cm := 113) (as := [(0, .ref 38), (1, .int (Int32.ofInt (24)))]) (rest := []) (o := some (4, 38)) rfl (w_fitR hR107a rfl) (c_close (24) hR107a (show 4 ≤ d by omega) ⟨by omega, by omega⟩ (show l ≤ 7000000 by first | assumption | omega) (show -1 ≤ (I107a 2436) ∧ ((I107a 2437) = 0 ∨ (I107a 2436) < (I107a 773)) ∧ (I107a 773) ≤ 1501 ∧ 1 ≤ 24 by first | assumption | omega) (show 0 ≤ (I107a 2439) ∧ (I107a 2439) ≤ 24 by first | assumption | omega)) (fun r135 M136 q137 => ?_)
                  rcases q137 with ⟨zt138, zk139, zv140, e141, hR137a, f142, f143⟩ | ⟨t144, I137b, A137b, B137b, C137b, e145, hR137b, f146, f147, f148⟩
                  · rw [e141]
                    replace hR137a : w_Rep w_TC fr X u l (w_up (w_up (w_up (w_up (w_up I107a 2436 ((I107a 2436) + 1)) 2441 (zt138)) 2437 (zk139)) 2438 (zv140)) 2439 ((I107a 2439) - 1)) A107a B107a C107a M136 := hR137a
                    replace f142 : ((I107a 2436) + 1 < (I107a 773) ∨ zk139 = 0) := f142
                    replace f143 : (I107a 2437) = 24 := f143
                    show w_W _ _ _ (153, [(5, .int (Int32.ofInt (v108))), (0, .ref 38), (1, .int (Int32.ofInt (b))), (2, .int (Int32.ofInt (v18))), (3, .int (Int32.ofInt (y32_3))), (4, .int (Int32.ofInt (y32_4)))], [], M136) _
                    refine w_adv (n := 1) (F' := (154, [(5, .int (Int32.ofInt (v108))), (0, .ref 38), (1, .int (Int32.ofInt (b))), (2, .int (Int32.ofInt (v18))), (3, .int (Int32.ofInt (y32_3))), (4, .int (Int32.ofInt (y32_4)))], [.ref 38], M136)) rfl ?_
                    refine w_gf (v := .ref 26) hR137a rfl rfl rfl rfl ?_
                    refine w_adv (n := 4) (F' := (163, [(5, .int (Int32.ofInt (v108))), (0, .ref 38), (1, .int (Int32.ofInt (b))), (2, .int (Int32.ofInt (v18))), (3, .int (Int32.ofInt (y32_3))), (4, .int (Int32.ofInt (y32_4)))], [.int (Int32.ofInt (v108)), .int (Int32.ofInt (y32_3)), .int (Int32.ofInt (v18)), .int (Int32.ofInt (15)), .ref 26], M136)) rfl ?_
                    refine w_call (cm := 94) (as := [(0, .ref 26), (1, .int (Int32.ofInt (15))), (2, .int (Int32.ofInt (v18))), (3, .int (Int32.ofInt (y32_3))), (4, .int (Int32.ofInt (v108)))]) (rest := []) (o := some (8, 26)) rfl (w_fitR hR137a rfl) (c_mkn (15) (v18) (y32_3) (v108) hR137a (show 2 ≤ d by omega) ⟨by omega, by omega⟩ ⟨by omega, by omega⟩ ⟨by omega, by omega⟩ ⟨by omega, by omega⟩ (show 0 ≤ (I107a 1670) ∧ (I107a 1670) < 3016 by first | assumption | omega)) (fun r149 M150 q151 => ?_)
                    rcases q151 with ⟨A152, e153, hR151a, f154, f155⟩
                    rw [e153]
                    replace hR151a : w_Rep w_TC fr X u l (w_up (w_up (w_up (w_up (w_up (w_up I107a 2436 ((I107a 2436) + 1)) 2441 (zt138)) 2437 (zk139)) 2438 (zv140)) 2439 ((I107a 2439) - 1)) 1670 ((I107a 1670) + 1)) A152 B107a C107a M150 := hR151a
                    replace f154 : c_fa c_pa A107a A152 := f154
                    replace f155 : c_mk A107a A152 (I107a 1670) 15 v18 y32_3 v108 := f155
                    have k156 : c_Wn A152 (c_r (I 2439) 1) (I107a 1670) (I 1670) ((I107a 1670) + 1) := c_Wn_up ⟨c_W_15 f155 (show 0 ≤ (I 1670) by omega) (show (I_32 1670) ≤ (I107a 1670) by omega) k131.1 (c_Ch_wide (fun _ _ => c_P2_win) (c_Chq_end k132) (show (I17a 1670) ≤ (I17a 1670) by omega) (show (I_32 1670) ≤ (I_32 1670) by omega)) (k134.imp_right (fun g => c_BdW_win g (show (I_32 1670) ≤ (I_32 1670) by omega) (show (I107a 1670) ≤ (I107a 1670) by omega))), f155.2.2.2.2.2⟩ (show (c_r (I 2439) 0) + 1 ≤ (c_r (I 2439) 1) by unfold c_r; omega)
                    have g157 : c_agl A A152 (I 1670) := c_agl_trans g133 f155.1 (show (I 1670) ≤ (I107a 1670) by omega)
                    show w_W _ _ _ (166, [(5, .int (Int32.ofInt (v108))), (0, .ref 38), (1, .int (Int32.ofInt (b))), (2, .int (Int32.ofInt (v18))), (3, .int (Int32.ofInt (y32_3))), (4, .int (Int32.ofInt (y32_4)))], [.int (Int32.ofInt ((I107a 1670)))], M150) _
                    refine w_fin (r := .inl (some ((I107a 1670)))) (M' := M150) rfl ?_
                    exact Or.inl ⟨(I107a 1670), (w_up (w_up (w_up (w_up (w_up (w_up I107a 2436 ((I107a 2436) + 1)) 2441 (zt138)) 2437 (zk139)) 2438 (zv140)) 2439 ((I107a 2439) - 1)) 1670 ((I107a 1670) + 1)), A152, B107a, C107a, rfl, ⟨by omega, by omega⟩, hR151a, (show c_fi c_ps I (w_up (w_up (w_up (w_up (w_up (w_up I107a 2436 ((I107a 2436) + 1)) 2441 (zt138)) 2437 (zk139)) 2438 (zv140)) 2439 ((I107a 2439) - 1)) 1670 ((I107a 1670) + 1)) by exact (c_fi_up (c_fi_up (c_fi_up (c_fi_up (c_fi_up (c_fi_up (c_fi_trans hi32_0 f112) rfl) rfl) rfl) rfl) rfl) rfl)), (show c_fa c_pa A A152 by exact (c_fa_trans (c_fa_trans hi32_1 f113) f154)), (show (0 ≤ (I107a 2436) + 1 ∧ (I107a 2436) + 1 ≤ (I107a 773) ∧ (zk139 = 0 ∨ (I107a 2436) + 1 < (I107a 773))) ∧ ((I107a 773) = (I 773) ∧ (I107a 2439) - 1 = (I 2439) ∧ 0 ≤ (I107a 2117)) ∧ (I 2436) + 1 ≤ (I107a 2436) + 1 ∧ ((I107a 1670) + 1) + 1 ≤ (I 1670) + 2 * (((I107a 2436) + 1) - (I 2436)) ∧ (I 1670) ≤ (I107a 1670) + 1 by (repeat' apply And.intro) <;> first | assumption | omega), (show c_agl A A152 (I 1670) by exact g157), (show c_Wn A152 (c_r (I 2439) 1) (I107a 1670) (I 1670) ((I107a 1670) + 1) by exact c_Wn_win (c_Wn_up k156 (show c_r (I 2439) 1 ≤ c_r (I 2439) 1 by unfold c_r; omega)) (show (I 1670) ≤ (I 1670) by omega) (show ((I107a 1670) + 1) ≤ ((I107a 1670) + 1) by omega))⟩
                  · rw [e145]
                    replace hR137b : w_Rep w_TC fr X (u + 6) (l + 64) I137b A137b B137b C137b M136 := hR137b
                    replace f146 : c_fi c_ps I107a I137b := f146
                    replace f147 : c_fa c_pa A107a A137b := f147
                    replace f148 : M136.1[t144]? = some (.inr (11, [])) := f148
                    exact Or.inr (⟨t144, I137b, A137b, B137b, C137b, rfl, hR137b, (show c_fi c_ps I I137b by exact (c_fi_trans (c_fi_trans hi32_0 f112) f146)), (show c_fa c_pa A A137b by exact (c_fa_trans (c_fa_trans hi32_1 f113) f147)), (show M136.1[t144]? = some (.inr (11, [])) by exact f148)⟩)
                · rw [e118]
                  replace hR107b : w_Rep w_TC fr X (u + 6) (l + 64) I107b A107b B107b C107b M106 := hR107b
                  replace f119 : c_fi c_ps I_32 I107b := f119
                  replace f120 : c_fa c_pa A_32 A107b := f120
                  replace f121 : M106.1[t117]? = some (.inr (11, [])) := f121
                  exact Or.inr (⟨t117, I107b, A107b, B107b, C107b, rfl, hR107b, (show c_fi c_ps I I107b by exact (c_fi_trans hi32_0 f119)), (show c_fa c_pa A A107b by exact (c_fa_trans hi32_1 f120)), (show M106.1[t117]? = some (.inr (11, [])) by exact f121)⟩)
              · have h104 : ¬ (¬ (I_32 2437) = 29) := h104
                show w_W _ _ _ (49, [(0, .ref 38), (1, .int (Int32.ofInt (b))), (2, .int (Int32.ofInt (v18))), (3, .int (Int32.ofInt (y32_3))), (4, .int (Int32.ofInt (y32_4))), (5, .int (Int32.ofInt (y32_5)))], [], M_32) _
                refine w_adv (n := 1) (F' := (50, [(0, .ref 38), (1, .int (Int32.ofInt (b))), (2, .int (Int32.ofInt (v18))), (3, .int (Int32.ofInt (y32_3))), (4, .int (Int32.ofInt (y32_4))), (5, .int (Int32.ofInt (y32_5)))], [.ref 38], M_32)) rfl ?_
                refine w_call (cm := 80) (as := [(0, .ref 38)]) (rest := []) (o := some (4, 38)) rfl (w_fitR hR_32 rfl) (c_advance hR_32 (show 3 ≤ d by omega) (show l ≤ 7000000 by first | assumption | omega) (show -1 ≤ (I_32 2436) ∧ (I_32 2436) < (I_32 773) ∧ (I_32 773) ≤ 1501 by first | assumption | omega)) (fun r158 M159 q160 => ?_)
                rcases q160 with ⟨zt161, zk162, zv163, e164, hR160a, f165⟩ | ⟨t166, I160b, A160b, B160b, C160b, e167, hR160b, f168, f169, f170⟩
                · rw [e164]
                  replace hR160a : w_Rep w_TC fr X u l (w_up (w_up (w_up (w_up I_32 2436 ((I_32 2436) + 1)) 2441 (zt161)) 2437 (zk162)) 2438 (zv163)) A_32 B_32 C_32 M159 := hR160a
                  replace f165 : ((I_32 2436) + 1 < (I_32 773) ∨ zk162 = 0) := f165
                  show w_W _ _ _ (53, [(0, .ref 38), (1, .int (Int32.ofInt (b))), (2, .int (Int32.ofInt (v18))), (3, .int (Int32.ofInt (y32_3))), (4, .int (Int32.ofInt (y32_4))), (5, .int (Int32.ofInt (y32_5)))], [], M159) _
                  refine w_adv (n := 1) (F' := (54, [(0, .ref 38), (1, .int (Int32.ofInt (b))), (2, .int (Int32.ofInt (v18))), (3, .int (Int32.ofInt (y32_3))), (4, .int (Int32.ofInt (y32_4))), (5, .int (Int32.ofInt (y32_5)))], [.ref 38], M159)) rfl ?_
                  refine w_gf (v := .ref 33) hR160a rfl rfl rfl rfl ?_
                  refine w_call (cm := 118) (as := [(0, .ref 33)]) (rest := []) (o := some (5, 33)) rfl (w_fitR hR160a rfl) (c_snext hR160a) (fun r171 M172 q173 => ?_)
                  rcases q173 with ⟨e174, e175⟩
                  rw [e174, e175]
                  obtain ⟨r176, r177⟩ : -2147483648 ≤ (I_32 2117) ∧ (I_32 2117) ≤ 2147483647 := hR160a.ri 2117
                  show w_W _ _ _ (60, [(0, .ref 38), (1, .int (Int32.ofInt (b))), (2, .int (Int32.ofInt (v18))), (3, .int (Int32.ofInt (y32_3))), (4, .int (Int32.ofInt (y32_4))), (5, .int (Int32.ofInt (y32_5)))], [.int (Int32.ofInt ((I_32 2117)))], M159) _
                  refine w_adv (n := 2) (F' := (63, [(6, .int (Int32.ofInt ((I_32 2117)))), (0, .ref 38), (1, .int (Int32.ofInt (b))), (2, .int (Int32.ofInt (v18))), (3, .int (Int32.ofInt (y32_3))), (4, .int (Int32.ofInt (y32_4))), (5, .int (Int32.ofInt (y32_5)))], [.ref 38], M159)) rfl ?_
                  refine w_call (cm := 126) (as := [(0, .ref 38)]) (rest := []) (o := some (4, 38)) rfl (w_fitR hR160a rfl) (c_pattern hR160a (show 7 ≤ d by omega) (show l ≤ 7000000 by first | assumption | omega) (show (0 ≤ (I_32 2436) + 1 ∧ (I_32 2436) + 1 ≤ (I_32 773) ∧ (I_32 773) ≤ 1501 ∧ (zk162 = 0 ∨ (I_32 2436) + 1 < (I_32 773))) ∧ (0 ≤ (I_32 2439) ∧ (I_32 2439) ≤ 24 ∧ 0 ≤ (I_32 2117)) ∧ 0 ≤ (I_32 1670) ∧ (I_32 1670) ≤ 2 * ((I_32 2436) + 1) + 1 by (repeat' apply And.intro) <;> first | assumption | omega)) (fun r178 M179 q180 => ?_)
                  rcases q180 with ⟨v181, I180a, A180a, B180a, C180a, e182, ⟨r183, r184⟩, hR180a, f185, f186, f187, f188⟩ | ⟨t189, I180b, A180b, B180b, C180b, e190, hR180b, f191, f192, f193⟩
                  · rw [e182]
                    replace hR180a : w_Rep w_TC fr X u l I180a A180a B180a C180a M179 := hR180a
                    replace f185 : c_fi c_ps (w_up (w_up (w_up (w_up I_32 2436 ((I_32 2436) + 1)) 2441 (zt161)) 2437 (zk162)) 2438 (zv163)) I180a := f185
                    replace f186 : c_fa c_pa A_32 A180a := f186
                    replace f187 : (0 ≤ (I180a 2436) ∧ (I180a 2436) ≤ (I180a 773) ∧ ((I180a 2437) = 0 ∨ (I180a 2436) < (I180a 773))) ∧ ((I180a 773) = (I_32 773) ∧ (I180a 2439) = (I_32 2439) ∧ 0 ≤ (I180a 2117)) ∧ ((I_32 2436) + 1) + 1 ≤ (I180a 2436) ∧ (I180a 1670) + 1 ≤ (I_32 1670) + 2 * ((I180a 2436) - ((I_32 2436) + 1)) ∧ (I_32 1670) ≤ (I180a 1670) := f187
                    obtain ⟨⟨n194, n195, n196⟩, ⟨n197, n198, n199⟩, n200, n201, n202⟩ := id f187
                    clear f187
                    replace f188 : c_agl A_32 A180a (I_32 1670) := f188
                    have k203 : c_Wn A180a (c_r (I 2439) 0) v18 (I 1670) (I17a 1670) := c_Wn_agl hi32_4 f188 (show 0 ≤ (I 1670) by omega) (show (I17a 1670) ≤ (I_32 1670) by omega)
                    clear hi32_4
                    have k204 : c_Chq c_P2 A180a (c_r (I 2439) 0) y32_3 y32_4 (I17a 1670) (I_32 1670) := c_Chq_agl c_P2_fam hi32_5 f188 (show 0 ≤ (I17a 1670) by omega) (show (I_32 1670) ≤ (I_32 1670) by omega)
                    clear hi32_5
                    have g205 : c_agl A A180a (I 1670) := c_agl_trans hi32_3 f188 (show (I 1670) ≤ (I_32 1670) by omega)
                    show w_W _ _ _ (66, [(6, .int (Int32.ofInt ((I_32 2117)))), (0, .ref 38), (1, .int (Int32.ofInt (b))), (2, .int (Int32.ofInt (v18))), (3, .int (Int32.ofInt (y32_3))), (4, .int (Int32.ofInt (y32_4))), (5, .int (Int32.ofInt (y32_5)))], [.int (Int32.ofInt (v181))], M179) _
                    refine w_adv (n := 2) (F' := (69, [(7, .int (Int32.ofInt (v181))), (6, .int (Int32.ofInt ((I_32 2117)))), (0, .ref 38), (1, .int (Int32.ofInt (b))), (2, .int (Int32.ofInt (v18))), (3, .int (Int32.ofInt (y32_3))), (4, .int (Int32.ofInt (y32_4))), (5, .int (Int32.ofInt (y32_5)))], [.ref 38], M179)) rfl ?_
                    refine w_gf (v := .ref 33) hR180a rfl rfl rfl rfl ?_
                    refine w_call (cm := 118) (as := [(0, .ref 33)]) (rest := []) (o := some (5, 33)) rfl (w_fitR hR180a rfl) (c_snext hR180a) (fun r206 M207 q208 => ?_)
                    rcases q208 with ⟨e209, e210⟩
                    rw [e209, e210]
                    obtain ⟨r211, r212⟩ : -2147483648 ≤ (I180a 2117) ∧ (I180a 2117) ≤ 2147483647 := hR180a.ri 2117
                    show w_W _ _ _ (75, [(7, .int (Int32.ofInt (v181))), (6, .int (Int32.ofInt ((I_32 2117)))), (0, .ref 38), (1, .int (Int32.ofInt (b))), (2, .int (Int32.ofInt (v18))), (3, .int (Int32.ofInt (y32_3))), (4, .int (Int32.ofInt (y32_4))), (5, .int (Int32.ofInt (y32_5)))], [.int (Int32.ofInt ((I180a 2117)))], M179) _
                    refine w_adv (n := 3) (F' := (80, [(8, .int (Int32.ofInt ((I180a 2117)))), (7, .int (Int32.ofInt (v181))), (6, .int (Int32.ofInt ((I_32 2117)))), (0, .ref 38), (1, .int (Int32.ofInt (b))), (2, .int (Int32.ofInt (v18))), (3, .int (Int32.ofInt (y32_3))), (4, .int (Int32.ofInt (y32_4))), (5, .int (Int32.ofInt (y32_5)))], [.int (Int32.ofInt (26)), .ref 38], M179)) rfl ?_
                    refine w_call (cm := 105) (as := [(0, .ref 38), (1, .int (Int32.ofInt (26)))]) (rest := []) (o := some (4, 38)) rfl (w_fitR hR180a rfl) (c_need (26) hR180a (show 4 ≤ d by omega) ⟨by omega, by omega⟩ (show l ≤ 7000000 by first | assumption | omega) (show -1 ≤ (I180a 2436) ∧ ((I180a 2437) = 0 ∨ (I180a 2436) < (I180a 773)) ∧ (I180a 773) ≤ 1501 ∧ 1 ≤ 26 by first | assumption | omega)) (fun r213 M214 q215 => ?_)
                    rcases q215 with ⟨zt216, zk217, zv218, e219, hR215a, f220, f221⟩ | ⟨t222, I215b, A215b, B215b, C215b, e223, hR215b, f224, f225, f226⟩
                    · rw [e219]
                      replace hR215a : w_Rep w_TC fr X u l (w_up (w_up (w_up (w_up I180a 2436 ((I180a 2436) + 1)) 2441 (zt216)) 2437 (zk217)) 2438 (zv218)) A180a B180a C180a M214 := hR215a
                      replace f220 : ((I180a 2436) + 1 < (I180a 773) ∨ zk217 = 0) := f220
                      replace f221 : (I180a 2437) = 26 := f221
                      show w_W _ _ _ (83, [(8, .int (Int32.ofInt ((I180a 2117)))), (7, .int (Int32.ofInt (v181))), (6, .int (Int32.ofInt ((I_32 2117)))), (0, .ref 38), (1, .int (Int32.ofInt (b))), (2, .int (Int32.ofInt (v18))), (3, .int (Int32.ofInt (y32_3))), (4, .int (Int32.ofInt (y32_4))), (5, .int (Int32.ofInt (y32_5)))], [], M214) _
                      refine w_adv (n := 1) (F' := (84, [(8, .int (Int32.ofInt ((I180a 2117)))), (7, .int (Int32.ofInt (v181))), (6, .int (Int32.ofInt ((I_32 2117)))), (0, .ref 38), (1, .int (Int32.ofInt (b))), (2, .int (Int32.ofInt (v18))), (3, .int (Int32.ofInt (y32_3))), (4, .int (Int32.ofInt (y32_4))), (5, .int (Int32.ofInt (y32_5)))], [.ref 38], M214)) rfl ?_
                      refine w_gf (v := .ref 26) hR215a rfl rfl rfl rfl ?_
                      refine w_adv (n := 2) (F' := (90, [(8, .int (Int32.ofInt ((I180a 2117)))), (7, .int (Int32.ofInt (v181))), (6, .int (Int32.ofInt ((I_32 2117)))), (0, .ref 38), (1, .int (Int32.ofInt (b))), (2, .int (Int32.ofInt (v18))), (3, .int (Int32.ofInt (y32_3))), (4, .int (Int32.ofInt (y32_4))), (5, .int (Int32.ofInt (y32_5)))], [.ref 38, .int (Int32.ofInt (y32_4)), .ref 26], M214)) rfl ?_
                      refine w_gf (v := .ref 26) hR215a rfl rfl rfl rfl ?_
                      refine w_adv (n := 4) (F' := (99, [(8, .int (Int32.ofInt ((I180a 2117)))), (7, .int (Int32.ofInt (v181))), (6, .int (Int32.ofInt ((I_32 2117)))), (0, .ref 38), (1, .int (Int32.ofInt (b))), (2, .int (Int32.ofInt (v18))), (3, .int (Int32.ofInt (y32_3))), (4, .int (Int32.ofInt (y32_4))), (5, .int (Int32.ofInt (y32_5)))], [.int (Int32.ofInt (b)), .ref 38, .int (Int32.ofInt (v181)), .int (Int32.ofInt (16)), .ref 26, .int (Int32.ofInt (y32_4)), .ref 26], M214)) rfl ?_
                      refine w_call (cm := 88) (as := [(0, .ref 38), (1, .int (Int32.ofInt (b)))]) (rest := [.int (Int32.ofInt (v181)), .int (Int32.ofInt (16)), .ref 26, .int (Int32.ofInt (y32_4)), .ref 26]) (o := some (4, 38)) rfl (w_fitR hR215a rfl) ((hA d (Nat.lt_succ_self d)).2 (b) hR215a (show 10 * (24 - (I180a 2439)) + 15 ≤ (d : Int) by omega) ⟨by omega, by omega⟩ (show l ≤ 7000000 by first | assumption | omega) (show (0 ≤ (I180a 2436) + 1 ∧ (I180a 2436) + 1 ≤ (I180a 773) ∧ (I180a 773) ≤ 1501 ∧ (zk217 = 0 ∨ (I180a 2436) + 1 < (I180a 773))) ∧ (0 ≤ (I180a 2439) ∧ (I180a 2439) ≤ 24 ∧ 0 ≤ (I180a 2117)) ∧ 0 ≤ (I180a 1670) ∧ (I180a 1670) ≤ 2 * ((I180a 2436) + 1) + 1 by (repeat' apply And.intro) <;> first | assumption | omega)) (fun r227 M228 q229 => ?_)
                      rcases q229 with ⟨v230, I229a, A229a, B229a, C229a, e231, ⟨r232, r233⟩, hR229a, f234, f235, f236, f237, f238⟩ | ⟨t239, I229b, A229b, B229b, C229b, e240, hR229b, f241, f242, f243⟩
                      · rw [e231]
                        replace hR229a : w_Rep w_TC fr X u l I229a A229a B229a C229a M228 := hR229a
                        replace f234 : c_fi c_ps (w_up (w_up (w_up (w_up I180a 2436 ((I180a 2436) + 1)) 2441 (zt216)) 2437 (zk217)) 2438 (zv218)) I229a := f234
                        replace f235 : c_fa c_pa A180a A229a := f235
                        replace f236 : (0 ≤ (I229a 2436) ∧ (I229a 2436) ≤ (I229a 773) ∧ ((I229a 2437) = 0 ∨ (I229a 2436) < (I229a 773))) ∧ ((I229a 773) = (I180a 773) ∧ (I229a 2439) = (I180a 2439) ∧ 0 ≤ (I229a 2117)) ∧ ((I180a 2436) + 1) + 1 ≤ (I229a 2436) ∧ (I229a 1670) + 0 ≤ (I180a 1670) + 2 * ((I229a 2436) - ((I180a 2436) + 1)) ∧ (I180a 1670) ≤ (I229a 1670) := f236
                        obtain ⟨⟨n244, n245, n246⟩, ⟨n247, n248, n249⟩, n250, n251, n252⟩ := id f236
                        clear f236
                        replace f237 : c_agl A180a A229a (I180a 1670) := f237
                        replace f238 : c_Bd A229a (c_W A229a (c_r (I180a 2439) 4)) v230 (I180a 1670) (I229a 1670) := f238
                        have k253 : c_Wn A229a (c_r (I 2439) 0) v18 (I 1670) (I17a 1670) := c_Wn_agl k203 f237 (show 0 ≤ (I 1670) by omega) (show (I17a 1670) ≤ (I180a 1670) by omega)
                        clear k203
                        have k254 : c_Chq c_P2 A229a (c_r (I 2439) 0) y32_3 y32_4 (I17a 1670) (I_32 1670) := c_Chq_agl c_P2_fam k204 f237 (show 0 ≤ (I17a 1670) by omega) (show (I_32 1670) ≤ (I180a 1670) by omega)
                        clear k204
                        have g255 : c_agl A A229a (I 1670) := c_agl_trans g205 f237 (show (I 1670) ≤ (I180a 1670) by omega)
                        have k256 : c_Bd A229a (c_W A229a (c_r (I 2439) 0)) v230 (I180a 1670) (I229a 1670) := c_Bd_up f238 (show c_r (I180a 2439) 4 ≤ c_r (I 2439) 0 by unfold c_r; omega)
                        obtain ⟨b257, b258, -⟩ := id k256
                        show w_W _ _ _ (102, [(8, .int (Int32.ofInt ((I180a 2117)))), (7, .int (Int32.ofInt (v181))), (6, .int (Int32.ofInt ((I_32 2117)))), (0, .ref 38), (1, .int (Int32.ofInt (b))), (2, .int (Int32.ofInt (v18))), (3, .int (Int32.ofInt (y32_3))), (4, .int (Int32.ofInt (y32_4))), (5, .int (Int32.ofInt (y32_5)))], [.int (Int32.ofInt (v230)), .int (Int32.ofInt (v181)), .int (Int32.ofInt (16)), .ref 26, .int (Int32.ofInt (y32_4)), .ref 26], M228) _
                        refine w_adv (n := 1) (F' := (103, [(8, .int (Int32.ofInt ((I180a 2117)))), (7, .int (Int32.ofInt (v181))), (6, .int (Int32.ofInt ((I_32 2117)))), (0, .ref 38), (1, .int (Int32.ofInt (b))), (2, .int (Int32.ofInt (v18))), (3, .int (Int32.ofInt (y32_3))), (4, .int (Int32.ofInt (y32_4))), (5, .int (Int32.ofInt (y32_5)))], [.int (Int32.ofInt ((-1))), .int (Int32.ofInt (v230)), .int (Int32.ofInt (v181)), .int (Int32.ofInt (16)), .ref 26, .int (Int32.ofInt (y32_4)), .ref 26], M228)) rfl ?_
                        refine w_call (cm := 94) (as := [(0, .ref 26), (1, .int (Int32.ofInt (16))), (2, .int (Int32.ofInt (v181))), (3, .int (Int32.ofInt (v230))), (4, .int (Int32.ofInt ((-1))))]) (rest := [.int (Int32.ofInt (y32_4)), .ref 26]) (o := some (8, 26)) rfl (w_fitR hR229a rfl) (c_mkn (16) (v181) (v230) ((-1)) hR229a (show 2 ≤ d by omega) ⟨by omega, by omega⟩ ⟨by omega, by omega⟩ ⟨by omega, by omega⟩ ⟨by omega, by omega⟩ (show 0 ≤ (I229a 1670) ∧ (I229a 1670) < 3016 by first | assumption | omega)) (fun r259 M260 q261 => ?_)
                        rcases q261 with ⟨A262, e263, hR261a, f264, f265⟩
                        rw [e263]
                        replace hR261a : w_Rep w_TC fr X u l (w_up I229a 1670 ((I229a 1670) + 1)) A262 B229a C229a M260 := hR261a
                        replace f264 : c_fa c_pa A229a A262 := f264
                        replace f265 : c_mk A229a A262 (I229a 1670) 16 v181 v230 (-1) := f265
                        have k266 := c_P2_mk (i := (c_r (I 2439) 0)) f265 (show 0 ≤ (I180a 1670) by omega) (c_BdW_win k256 (show (I180a 1670) ≤ (I180a 1670) by omega) (show (I229a 1670) ≤ (I229a 1670) by omega))
                        have k267 : c_Wn A262 (c_r (I 2439) 0) v18 (I 1670) (I17a 1670) := c_Wn_agl k253 f265.1 (show 0 ≤ (I 1670) by omega) (show (I17a 1670) ≤ (I229a 1670) by omega)
                        clear k253
                        have k268 : c_Chq c_P2 A262 (c_r (I 2439) 0) y32_3 y32_4 (I17a 1670) (I_32 1670) := c_Chq_agl c_P2_fam k254 f265.1 (show 0 ≤ (I17a 1670) by omega) (show (I_32 1670) ≤ (I229a 1670) by omega)
                        clear k254
                        have g269 : c_agl A A262 (I 1670) := c_agl_trans g255 f265.1 (show (I 1670) ≤ (I229a 1670) by omega)
                        show w_W _ _ _ (106, [(8, .int (Int32.ofInt ((I180a 2117)))), (7, .int (Int32.ofInt (v181))), (6, .int (Int32.ofInt ((I_32 2117)))), (0, .ref 38), (1, .int (Int32.ofInt (b))), (2, .int (Int32.ofInt (v18))), (3, .int (Int32.ofInt (y32_3))), (4, .int (Int32.ofInt (y32_4))), (5, .int (Int32.ofInt (y32_5)))], [.int (Int32.ofInt ((I229a 1670))), .int (Int32.ofInt (y32_4)), .ref 26], M260) _
                        refine w_call (cm := 106) (as := [(0, .ref 26), (1, .int (Int32.ofInt (y32_4))), (2, .int (Int32.ofInt ((I229a 1670))))]) (rest := []) (o := some (8, 26)) rfl (w_fitR hR261a rfl) (c_chn (y32_4) ((I229a 1670)) hR261a (show 2 ≤ d by omega) ⟨by omega, by omega⟩ ⟨by omega, by omega⟩) (fun r270 M271 q272 => ?_)
                        rcases q272 with ⟨A273, e274, hR272a, f275, f276⟩
                        rw [e274]
                        replace hR272a : w_Rep w_TC fr X u l (w_up I229a 1670 ((I229a 1670) + 1)) A273 B229a C229a M271 := hR272a
                        replace f275 : c_fa c_pa A262 A273 := f275
                        replace f276 : c_nxw A262 A273 y32_4 (I229a 1670) := f276
                        have k277 : ∀ f', (y32_3 = -1 ∧ f' = (I229a 1670) ∨ y32_3 ≠ -1 ∧ f' = y32_3) → c_Chq c_P2 A273 (c_r (I 2439) 0) f' (I229a 1670) (I17a 1670) ((I229a 1670) + 1) := c_Chq_app c_P2_fam k268 (show (I_32 1670) ≤ (I180a 1670) by omega) f276 (show 0 ≤ (I17a 1670) by omega) (show (I_32 1670) ≤ 3016 by omega) (show (I180a 1670) ≤ (I229a 1670) ∧ (I229a 1670) < ((I229a 1670) + 1) by omega) k266.1 k266.2 c_P2_win
                        have g278 : c_agl A262 A273 (I17a 1670) := c_agl_nxw f276 (c_Chq_l k268)
                        have k279 : c_Wn A273 (c_r (I 2439) 0) v18 (I 1670) (I17a 1670) := c_Wn_agl k267 g278 (show 0 ≤ (I 1670) by omega) (show (I17a 1670) ≤ (I17a 1670) by omega)
                        clear k267
                        have g280 : c_agl A A273 (I 1670) := c_agl_trans g269 g278 (show (I 1670) ≤ (I17a 1670) by omega)
                        show w_W _ _ _ (109, [(8, .int (Int32.ofInt ((I180a 2117)))), (7, .int (Int32.ofInt (v181))), (6, .int (Int32.ofInt ((I_32 2117)))), (0, .ref 38), (1, .int (Int32.ofInt (b))), (2, .int (Int32.ofInt (v18))), (3, .int (Int32.ofInt (y32_3))), (4, .int (Int32.ofInt (y32_4))), (5, .int (Int32.ofInt (y32_5)))], [.int (Int32.ofInt ((I229a 1670)))], M271) _
                        refine w_adv (n := 3) (F' := (113, [(4, .int (Int32.ofInt ((I229a 1670)))), (8, .int (Int32.ofInt ((I180a 2117)))), (7, .int (Int32.ofInt (v181))), (6, .int (Int32.ofInt ((I_32 2117)))), (0, .ref 38), (1, .int (Int32.ofInt (b))), (2, .int (Int32.ofInt (v18))), (3, .int (Int32.ofInt (y32_3))), (5, .int (Int32.ofInt (y32_5)))], [.int (Int32.ofInt ((-1))), .int (Int32.ofInt (y32_3))], M271)) rfl ?_
                        refine w_br2 (a := y32_3) (b := (-1)) rfl rfl ⟨by omega, by omega⟩ ⟨by omega, by omega⟩ (fun h281 => ?_) (fun h281 => ?_)
                        · have h281 : ¬ y32_3 = (-1) := h281
                          show w_W _ _ _ (121, [(4, .int (Int32.ofInt ((I229a 1670)))), (8, .int (Int32.ofInt ((I180a 2117)))), (7, .int (Int32.ofInt (v181))), (6, .int (Int32.ofInt ((I_32 2117)))), (0, .ref 38), (1, .int (Int32.ofInt (b))), (2, .int (Int32.ofInt (v18))), (3, .int (Int32.ofInt (y32_3))), (5, .int (Int32.ofInt (y32_5)))], [], M271) _
                          refine w_adv (n := 3) (F' := (124, [(3, .int (Int32.ofInt (y32_3))), (4, .int (Int32.ofInt ((I229a 1670)))), (8, .int (Int32.ofInt ((I180a 2117)))), (7, .int (Int32.ofInt (v181))), (6, .int (Int32.ofInt ((I_32 2117)))), (0, .ref 38), (1, .int (Int32.ofInt (b))), (2, .int (Int32.ofInt (v18))), (5, .int (Int32.ofInt (y32_5)))], [.ref 38], M271)) rfl ?_
                          refine w_gf (v := .ref 33) hR272a rfl rfl rfl rfl ?_
                          refine w_adv (n := 2) (F' := (131, [(3, .int (Int32.ofInt (y32_3))), (4, .int (Int32.ofInt ((I229a 1670)))), (8, .int (Int32.ofInt ((I180a 2117)))), (7, .int (Int32.ofInt (v181))), (6, .int (Int32.ofInt ((I_32 2117)))), (0, .ref 38), (1, .int (Int32.ofInt (b))), (2, .int (Int32.ofInt (v18))), (5, .int (Int32.ofInt (y32_5)))], [.int (Int32.ofInt ((I180a 2117))), .int (Int32.ofInt ((I_32 2117))), .ref 33], M271)) rfl ?_
                          refine w_call (cm := 121) (as := [(0, .ref 33), (1, .int (Int32.ofInt ((I_32 2117)))), (2, .int (Int32.ofInt ((I180a 2117))))]) (rest := []) (o := some (5, 33)) rfl (w_fitR hR272a rfl) (c_lv ((I_32 2117)) ((I180a 2117)) hR272a (show 1 ≤ d by omega) ⟨by omega, by omega⟩ ⟨by omega, by omega⟩ (show -5 ≤ (I_32 2117) ∧ -5 ≤ (I180a 2117) by first | assumption | omega)) (fun r282 M283 q284 => ?_)
                          rcases q284 with ⟨A285, e286, hR284a, f287, f288⟩
                          rw [e286]
                          replace hR284a : w_Rep w_TC fr X u l (w_up I229a 1670 ((I229a 1670) + 1)) A285 B229a C229a M283 := hR284a
                          replace f287 : c_fa c_pa A273 A285 := f287
                          replace f288 : c_ags A273 A285 := f288
                          have k289 : c_Wn A285 (c_r (I 2439) 0) v18 (I 1670) (I17a 1670) := c_Wn_agl k279 (c_ags_l f288 ((I229a 1670) + 1)) (show 0 ≤ (I 1670) by omega) (show (I17a 1670) ≤ ((I229a 1670) + 1) by omega)
                          clear k279
                          have k290 : ∀ f', (y32_3 = -1 ∧ f' = (I229a 1670) ∨ y32_3 ≠ -1 ∧ f' = y32_3) → c_Chq c_P2 A285 (c_r (I 2439) 0) f' (I229a 1670) (I17a 1670) ((I229a 1670) + 1) := fun f' h => c_Chq_agl c_P2_fam (k277 f' h) (c_ags_l f288 ((I229a 1670) + 1)) (show 0 ≤ (I17a 1670) by omega) (show ((I229a 1670) + 1) ≤ ((I229a 1670) + 1) by omega)
                          clear k277
                          have g291 : c_agl A A285 (I 1670) := c_agl_trans g280 (c_ags_l f288 ((I229a 1670) + 1)) (show (I 1670) ≤ ((I229a 1670) + 1) by omega)
                          show w_W _ _ _ (134, [(3, .int (Int32.ofInt (y32_3))), (4, .int (Int32.ofInt ((I229a 1670)))), (8, .int (Int32.ofInt ((I180a 2117)))), (7, .int (Int32.ofInt (v181))), (6, .int (Int32.ofInt ((I_32 2117)))), (0, .ref 38), (1, .int (Int32.ofInt (b))), (2, .int (Int32.ofInt (v18))), (5, .int (Int32.ofInt (y32_5)))], [], M283) _
                          refine w_inc (nL := 9) (a := y32_5) rfl rfl rfl (by decide) ?_
                          refine w_adv (n := 1) (F' := (32, [(5, .int (Int32.ofInt (y32_5 + 1))), (3, .int (Int32.ofInt (y32_3))), (4, .int (Int32.ofInt ((I229a 1670)))), (8, .int (Int32.ofInt ((I180a 2117)))), (7, .int (Int32.ofInt (v181))), (6, .int (Int32.ofInt ((I_32 2117)))), (0, .ref 38), (1, .int (Int32.ofInt (b))), (2, .int (Int32.ofInt (v18)))], [], M283)) rfl ?_
                          refine w_ls (ls := [(0, .ref 38), (1, .int (Int32.ofInt (b))), (2, .int (Int32.ofInt (v18))), (3, .int (Int32.ofInt (y32_3))), (4, .int (Int32.ofInt ((I229a 1670)))), (5, .int (Int32.ofInt (y32_5 + 1)))]) (show List.Nodup [0, 1, 2, 3, 4, 5] by decide) (show List.Nodup [5, 3, 4, 8, 7, 6, 0, 1, 2] by decide) (List.forall_mem_cons.mpr ⟨(List.Mem.tail _ (List.Mem.tail _ (List.Mem.tail _ (List.Mem.tail _ (List.Mem.tail _ (List.Mem.tail _ (List.Mem.head _))))))), (List.forall_mem_cons.mpr ⟨(List.Mem.tail _ (List.Mem.tail _ (List.Mem.tail _ (List.Mem.tail _ (List.Mem.tail _ (List.Mem.tail _ (List.Mem.tail _ (List.Mem.head _)))))))), (List.forall_mem_cons.mpr ⟨(List.Mem.tail _ (List.Mem.tail _ (List.Mem.tail _ (List.Mem.tail _ (List.Mem.tail _ (List.Mem.tail _ (List.Mem.tail _ (List.Mem.tail _ (List.Mem.head _))))))))), (List.forall_mem_cons.mpr ⟨(List.Mem.tail _ (List.Mem.head _)), (List.forall_mem_cons.mpr ⟨(List.Mem.tail _ (List.Mem.tail _ (List.Mem.head _))), (List.forall_mem_cons.mpr ⟨(List.Mem.head _), (fun _ h => by cases h)⟩)⟩)⟩)⟩)⟩)⟩) ?_
                          exact ih32  (y32_3) ((I229a 1670)) (y32_5 + 1) (w_up I229a 1670 ((I229a 1670) + 1)) A285 B229a C229a M283 hR284a ⟨by omega, by omega⟩ ⟨by omega, by omega⟩ ⟨by omega, by omega⟩ (show c_fi c_ps I (w_up I229a 1670 ((I229a 1670) + 1)) by exact (c_fi_up (c_fi_trans (c_fi_up (c_fi_up (c_fi_up (c_fi_up (c_fi_trans (c_fi_up (c_fi_up (c_fi_up (c_fi_up hi32_0 rfl) rfl) rfl) rfl) f185) rfl) rfl) rfl) rfl) f234) rfl)) (show c_fa c_pa A A285 by exact (c_fa_trans (c_fa_trans (c_fa_trans (c_fa_trans (c_fa_trans hi32_1 f186) f235) f264) f275) f287)) (show (0 ≤ (I229a 2436) ∧ (I229a 2436) ≤ (I229a 773) ∧ ((I229a 2437) = 0 ∨ (I229a 2436) < (I229a 773))) ∧ ((I229a 773) = (I 773) ∧ (I229a 2439) = (I 2439) + 1 ∧ 0 ≤ (I229a 2117)) ∧ (I 2436) + 1 ≤ (I229a 2436) ∧ ((I229a 1670) + 1) + 2 ≤ (I 1670) + 2 * ((I229a 2436) - (I 2436)) ∧ (I 1670) ≤ (I229a 1670) + 1 by (repeat' apply And.intro) <;> first | assumption | omega) (show c_agl A A285 (I 1670) by exact g291) (show c_Wn A285 (c_r (I 2439) 0) v18 (I 1670) (I17a 1670) by exact k289) (show c_Chq c_P2 A285 (c_r (I 2439) 0) y32_3 (I229a 1670) (I17a 1670) ((I229a 1670) + 1) by exact k290 _ (by omega)) (show 0 ≤ (y32_5 + 1) ∧ (y32_5 + 1) ≤ 1500 ∧ (I17a 1670) ≤ (I229a 1670) + 1 by omega) (show 1500 - (y32_5 + 1) < (fu32 : Int) by omega)
                        · have h281 : ¬ (¬ y32_3 = (-1)) := h281
                          show w_W _ _ _ (116, [(4, .int (Int32.ofInt ((I229a 1670)))), (8, .int (Int32.ofInt ((I180a 2117)))), (7, .int (Int32.ofInt (v181))), (6, .int (Int32.ofInt ((I_32 2117)))), (0, .ref 38), (1, .int (Int32.ofInt (b))), (2, .int (Int32.ofInt (v18))), (3, .int (Int32.ofInt (y32_3))), (5, .int (Int32.ofInt (y32_5)))], [], M271) _
                          refine w_adv (n := 4) (F' := (124, [(3, .int (Int32.ofInt ((I229a 1670)))), (4, .int (Int32.ofInt ((I229a 1670)))), (8, .int (Int32.ofInt ((I180a 2117)))), (7, .int (Int32.ofInt (v181))), (6, .int (Int32.ofInt ((I_32 2117)))), (0, .ref 38), (1, .int (Int32.ofInt (b))), (2, .int (Int32.ofInt (v18))), (5, .int (Int32.ofInt (y32_5)))], [.ref 38], M271)) rfl ?_
                          refine w_gf (v := .ref 33) hR272a rfl rfl rfl rfl ?_
                          refine w_adv (n := 2) (F' := (131, [(3, .int (Int32.ofInt ((I229a 1670)))), (4, .int (Int32.ofInt ((I229a 1670)))), (8, .int (Int32.ofInt ((I180a 2117)))), (7, .int (Int32.ofInt (v181))), (6, .int (Int32.ofInt ((I_32 2117)))), (0, .ref 38), (1, .int (Int32.ofInt (b))), (2, .int (Int32.ofInt (v18))), (5, .int (Int32.ofInt (y32_5)))], [.int (Int32.ofInt ((I180a 2117))), .int (Int32.ofInt ((I_32 2117))), .ref 33], M271)) rfl ?_
                          refine w_call (cm := 121) (as := [(0, .ref 33), (1, .int (Int32.ofInt ((I_32 2117)))), (2, .int (Int32.ofInt ((I180a 2117))))]) (rest := []) (o := some (5, 33)) rfl (w_fitR hR272a rfl) (c_lv ((I_32 2117)) ((I180a 2117)) hR272a (show 1 ≤ d by omega) ⟨by omega, by omega⟩ ⟨by omega, by omega⟩ (show -5 ≤ (I_32 2117) ∧ -5 ≤ (I180a 2117) by first | assumption | omega)) (fun r292 M293 q294 => ?_)
                          rcases q294 with ⟨A295, e296, hR294a, f297, f298⟩
                          rw [e296]
                          replace hR294a : w_Rep w_TC fr X u l (w_up I229a 1670 ((I229a 1670) + 1)) A295 B229a C229a M293 := hR294a
                          replace f297 : c_fa c_pa A273 A295 := f297
                          replace f298 : c_ags A273 A295 := f298
                          have k299 : c_Wn A295 (c_r (I 2439) 0) v18 (I 1670) (I17a 1670) := c_Wn_agl k279 (c_ags_l f298 ((I229a 1670) + 1)) (show 0 ≤ (I 1670) by omega) (show (I17a 1670) ≤ ((I229a 1670) + 1) by omega)
                          clear k279
                          have k300 : ∀ f', (y32_3 = -1 ∧ f' = (I229a 1670) ∨ y32_3 ≠ -1 ∧ f' = y32_3) → c_Chq c_P2 A295 (c_r (I 2439) 0) f' (I229a 1670) (I17a 1670) ((I229a 1670) + 1) := fun f' h => c_Chq_agl c_P2_fam (k277 f' h) (c_ags_l f298 ((I229a 1670) + 1)) (show 0 ≤ (I17a 1670) by omega) (show ((I229a 1670) + 1) ≤ ((I229a 1670) + 1) by omega)
                          clear k277
                          have g301 : c_agl A A295 (I 1670) := c_agl_trans g280 (c_ags_l f298 ((I229a 1670) + 1)) (show (I 1670) ≤ ((I229a 1670) + 1) by omega)
                          show w_W _ _ _ (134, [(3, .int (Int32.ofInt ((I229a 1670)))), (4, .int (Int32.ofInt ((I229a 1670)))), (8, .int (Int32.ofInt ((I180a 2117)))), (7, .int (Int32.ofInt (v181))), (6, .int (Int32.ofInt ((I_32 2117)))), (0, .ref 38), (1, .int (Int32.ofInt (b))), (2, .int (Int32.ofInt (v18))), (5, .int (Int32.ofInt (y32_5)))], [], M293) _
                          refine w_inc (nL := 9) (a := y32_5) rfl rfl rfl (by decide) ?_
                          refine w_adv (n := 1) (F' := (32, [(5, .int (Int32.ofInt (y32_5 + 1))), (3, .int (Int32.ofInt ((I229a 1670)))), (4, .int (Int32.ofInt ((I229a 1670)))), (8, .int (Int32.ofInt ((I180a 2117)))), (7, .int (Int32.ofInt (v181))), (6, .int (Int32.ofInt ((I_32 2117)))), (0, .ref 38), (1, .int (Int32.ofInt (b))), (2, .int (Int32.ofInt (v18)))], [], M293)) rfl ?_
                          refine w_ls (ls := [(0, .ref 38), (1, .int (Int32.ofInt (b))), (2, .int (Int32.ofInt (v18))), (3, .int (Int32.ofInt ((I229a 1670)))), (4, .int (Int32.ofInt ((I229a 1670)))), (5, .int (Int32.ofInt (y32_5 + 1)))]) (show List.Nodup [0, 1, 2, 3, 4, 5] by decide) (show List.Nodup [5, 3, 4, 8, 7, 6, 0, 1, 2] by decide) (List.forall_mem_cons.mpr ⟨(List.Mem.tail _ (List.Mem.tail _ (List.Mem.tail _ (List.Mem.tail _ (List.Mem.tail _ (List.Mem.tail _ (List.Mem.head _))))))), (List.forall_mem_cons.mpr ⟨(List.Mem.tail _ (List.Mem.tail _ (List.Mem.tail _ (List.Mem.tail _ (List.Mem.tail _ (List.Mem.tail _ (List.Mem.tail _ (List.Mem.head _)))))))), (List.forall_mem_cons.mpr ⟨(List.Mem.tail _ (List.Mem.tail _ (List.Mem.tail _ (List.Mem.tail _ (List.Mem.tail _ (List.Mem.tail _ (List.Mem.tail _ (List.Mem.tail _ (List.Mem.head _))))))))), (List.forall_mem_cons.mpr ⟨(List.Mem.tail _ (List.Mem.head _)), (List.forall_mem_cons.mpr ⟨(List.Mem.tail _ (List.Mem.tail _ (List.Mem.head _))), (List.forall_mem_cons.mpr ⟨(List.Mem.head _), (fun _ h => by cases h)⟩)⟩)⟩)⟩)⟩)⟩) ?_
                          exact ih32  ((I229a 1670)) ((I229a 1670)) (y32_5 + 1) (w_up I229a 1670 ((I229a 1670) + 1)) A295 B229a C229a M293 hR294a ⟨by omega, by omega⟩ ⟨by omega, by omega⟩ ⟨by omega, by omega⟩ (show c_fi c_ps I (w_up I229a 1670 ((I229a 1670) + 1)) by exact (c_fi_up (c_fi_trans (c_fi_up (c_fi_up (c_fi_up (c_fi_up (c_fi_trans (c_fi_up (c_fi_up (c_fi_up (c_fi_up hi32_0 rfl) rfl) rfl) rfl) f185) rfl) rfl) rfl) rfl) f234) rfl)) (show c_fa c_pa A A295 by exact (c_fa_trans (c_fa_trans (c_fa_trans (c_fa_trans (c_fa_trans hi32_1 f186) f235) f264) f275) f297)) (show (0 ≤ (I229a 2436) ∧ (I229a 2436) ≤ (I229a 773) ∧ ((I229a 2437) = 0 ∨ (I229a 2436) < (I229a 773))) ∧ ((I229a 773) = (I 773) ∧ (I229a 2439) = (I 2439) + 1 ∧ 0 ≤ (I229a 2117)) ∧ (I 2436) + 1 ≤ (I229a 2436) ∧ ((I229a 1670) + 1) + 2 ≤ (I 1670) + 2 * ((I229a 2436) - (I 2436)) ∧ (I 1670) ≤ (I229a 1670) + 1 by (repeat' apply And.intro) <;> first | assumption | omega) (show c_agl A A295 (I 1670) by exact g301) (show c_Wn A295 (c_r (I 2439) 0) v18 (I 1670) (I17a 1670) by exact k299) (show c_Chq c_P2 A295 (c_r (I 2439) 0) (I229a 1670) (I229a 1670) (I17a 1670) ((I229a 1670) + 1) by exact k300 _ (by omega)) (show 0 ≤ (y32_5 + 1) ∧ (y32_5 + 1) ≤ 1500 ∧ (I17a 1670) ≤ (I229a 1670) + 1 by omega) (show 1500 - (y32_5 + 1) < (fu32 : Int) by omega)
                      · rw [e240]
                        replace hR229b : w_Rep w_TC fr X (u + 6) (l + 64) I229b A229b B229b C229b M228 := hR229b
                        replace f241 : c_fi c_ps (w_up (w_up (w_up (w_up I180a 2436 ((I180a 2436) + 1)) 2441 (zt216)) 2437 (zk217)) 2438 (zv218)) I229b := f241
                        replace f242 : c_fa c_pa A180a A229b := f242
                        replace f243 : M228.1[t239]? = some (.inr (11, [])) := f243
                        exact Or.inr (⟨t239, I229b, A229b, B229b, C229b, rfl, hR229b, (show c_fi c_ps I I229b by exact (c_fi_trans (c_fi_up (c_fi_up (c_fi_up (c_fi_up (c_fi_trans (c_fi_up (c_fi_up (c_fi_up (c_fi_up hi32_0 rfl) rfl) rfl) rfl) f185) rfl) rfl) rfl) rfl) f241)), (show c_fa c_pa A A229b by exact (c_fa_trans (c_fa_trans hi32_1 f186) f242)), (show M228.1[t239]? = some (.inr (11, [])) by exact f243)⟩)
                    · rw [e223]
                      replace hR215b : w_Rep w_TC fr X (u + 6) (l + 64) I215b A215b B215b C215b M214 := hR215b
                      replace f224 : c_fi c_ps I180a I215b := f224
                      replace f225 : c_fa c_pa A180a A215b := f225
                      replace f226 : M214.1[t222]? = some (.inr (11, [])) := f226
                      exact Or.inr (⟨t222, I215b, A215b, B215b, C215b, rfl, hR215b, (show c_fi c_ps I I215b by exact (c_fi_trans (c_fi_trans (c_fi_up (c_fi_up (c_fi_up (c_fi_up hi32_0 rfl) rfl) rfl) rfl) f185) f224)), (show c_fa c_pa A A215b by exact (c_fa_trans (c_fa_trans hi32_1 f186) f225)), (show M214.1[t222]? = some (.inr (11, [])) by exact f226)⟩)
                  · rw [e190]
                    replace hR180b : w_Rep w_TC fr X (u + 6) (l + 64) I180b A180b B180b C180b M179 := hR180b
                    replace f191 : c_fi c_ps (w_up (w_up (w_up (w_up I_32 2436 ((I_32 2436) + 1)) 2441 (zt161)) 2437 (zk162)) 2438 (zv163)) I180b := f191
                    replace f192 : c_fa c_pa A_32 A180b := f192
                    replace f193 : M179.1[t189]? = some (.inr (11, [])) := f193
                    exact Or.inr (⟨t189, I180b, A180b, B180b, C180b, rfl, hR180b, (show c_fi c_ps I I180b by exact (c_fi_trans (c_fi_up (c_fi_up (c_fi_up (c_fi_up hi32_0 rfl) rfl) rfl) rfl) f191)), (show c_fa c_pa A A180b by exact (c_fa_trans hi32_1 f192)), (show M179.1[t189]? = some (.inr (11, [])) by exact f193)⟩)
                · rw [e167]
                  replace hR160b : w_Rep w_TC fr X (u + 6) (l + 64) I160b A160b B160b C160b M159 := hR160b
                  replace f168 : c_fi c_ps I_32 I160b := f168
                  replace f169 : c_fa c_pa A_32 A160b := f169
                  replace f170 : M159.1[t166]? = some (.inr (11, [])) := f170
                  exact Or.inr (⟨t166, I160b, A160b, B160b, C160b, rfl, hR160b, (show c_fi c_ps I I160b by exact (c_fi_trans hi32_0 f168)), (show c_fa c_pa A A160b by exact (c_fa_trans hi32_1 f169)), (show M159.1[t166]? = some (.inr (11, [])) by exact f170)⟩)
        refine w_ls (ls := [(0, .ref 38), (1, .int (Int32.ofInt (b))), (2, .int (Int32.ofInt (v18))), (3, .int (Int32.ofInt ((-1)))), (4, .int (Int32.ofInt ((-1)))), (5, .int (Int32.ofInt (0)))]) (show List.Nodup [0, 1, 2, 3, 4, 5] by decide) (show List.Nodup [5, 4, 3, 2, 0, 1] by decide) (List.forall_mem_cons.mpr ⟨(List.Mem.tail _ (List.Mem.tail _ (List.Mem.tail _ (List.Mem.tail _ (List.Mem.head _))))), (List.forall_mem_cons.mpr ⟨(List.Mem.tail _ (List.Mem.tail _ (List.Mem.tail _ (List.Mem.tail _ (List.Mem.tail _ (List.Mem.head _)))))), (List.forall_mem_cons.mpr ⟨(List.Mem.tail _ (List.Mem.tail _ (List.Mem.tail _ (List.Mem.head _)))), (List.forall_mem_cons.mpr ⟨(List.Mem.tail _ (List.Mem.tail _ (List.Mem.head _))), (List.forall_mem_cons.mpr ⟨(List.Mem.tail _ (List.Mem.head _)), (List.forall_mem_cons.mpr ⟨(List.Mem.head _), (fun _ h => by cases h)⟩)⟩)⟩)⟩)⟩)⟩) ?_
        exact lp32 ((1500 - 0 : Int).toNat + 1)  ((-1)) ((-1)) (0) I17a A17a B17a C17a M16 hR17a ⟨by omega, by omega⟩ ⟨by omega, by omega⟩ ⟨by omega, by omega⟩ (show c_fi c_ps I I17a by exact (c_fi_trans (c_fi_up (c_fi_up (c_fi_up (c_fi_up (c_fi_up c_fi_refl rfl) rfl) rfl) rfl) rfl) f22)) (show c_fa c_pa A A17a by exact f23) (show (0 ≤ (I17a 2436) ∧ (I17a 2436) ≤ (I17a 773) ∧ ((I17a 2437) = 0 ∨ (I17a 2436) < (I17a 773))) ∧ ((I17a 773) = (I 773) ∧ (I17a 2439) = (I 2439) + 1 ∧ 0 ≤ (I17a 2117)) ∧ (I 2436) + 1 ≤ (I17a 2436) ∧ (I17a 1670) + 2 ≤ (I 1670) + 2 * ((I17a 2436) - (I 2436)) ∧ (I 1670) ≤ (I17a 1670) by (repeat' apply And.intro) <;> first | assumption | omega) (show c_agl A A17a (I 1670) by exact g41) (show c_Wn A17a (c_r (I 2439) 0) v18 (I 1670) (I17a 1670) by exact k42) (show c_Chq c_P2 A17a (c_r (I 2439) 0) (((-1) : Int)) (((-1) : Int)) (I17a 1670) (I17a 1670) by exact c_Chq_nil (show (I17a 1670) ≤ (I17a 1670) by omega)) (show 0 ≤ (0 : Int) ∧ (0 : Int) ≤ 1500 ∧ (I17a 1670) ≤ (I17a 1670) by omega) (show 1500 - 0 < (((1500 - 0 : Int).toNat + 1 : Nat) : Int) by omega)
      · have h47 : ¬ ((I17a 2437) = 29) := h47
        show w_W _ _ _ (18, [(2, .int (Int32.ofInt (v18))), (0, .ref 38), (1, .int (Int32.ofInt (b)))], [], M16) _
        refine w_adv (n := 2) (F' := (20, [(2, .int (Int32.ofInt (v18))), (0, .ref 38), (1, .int (Int32.ofInt (b)))], [.int (Int32.ofInt (1)), .ref 38], M16)) rfl ?_
        refine w_call (cm := 100) (as := [(0, .ref 38), (1, .int (Int32.ofInt (1)))]) (rest := []) (o := some (4, 38)) rfl (w_fitR hR17a rfl) (c_fail (1) hR17a ⟨by omega, by omega⟩ (show l ≤ 7000000 by first | assumption | omega) (show 1 ≤ 1 ∧ 1 ≤ 7 by first | assumption | omega)) (fun r302 M303 q304 => ?_)
        rcases q304 with ⟨t305, I304a, A304a, B304a, C304a, e306, hR304a, f307, f308, f309⟩
        rw [e306]
        replace hR304a : w_Rep w_TC fr X (u + 6) (l + 64) I304a A304a B304a C304a M303 := hR304a
        replace f307 : c_fi c_ps I17a I304a := f307
        replace f308 : c_fa c_pa A17a A304a := f308
        replace f309 : M303.1[t305]? = some (.inr (11, [])) := f309
        exact Or.inr (⟨t305, I304a, A304a, B304a, C304a, rfl, hR304a, (show c_fi c_ps I I304a by exact (c_fi_trans (c_fi_trans (c_fi_up (c_fi_up (c_fi_up (c_fi_up (c_fi_up c_fi_refl rfl) rfl) rfl) rfl) rfl) f22) f307)), (show c_fa c_pa A A304a by exact (c_fa_trans f23 f308)), (show M303.1[t305]? = some (.inr (11, [])) by exact f309)⟩)
    · rw [e28]
      replace hR17b : w_Rep w_TC fr X (u + 6) (l + 64) I17b A17b B17b C17b M16 := hR17b
      replace f29 : c_fi c_ps (w_up (w_up (w_up (w_up (w_up I 2436 ((I 2436) + 1)) 2441 (zt4)) 2437 (zk5)) 2438 (zv6)) 2439 ((I 2439) + 1)) I17b := f29
      replace f30 : c_fa c_pa A A17b := f30
      replace f31 : M16.1[t27]? = some (.inr (11, [])) := f31
      skip
      exact Or.inr (⟨t27, I17b, A17b, B17b, C17b, rfl, hR17b, (show c_fi c_ps I I17b by exact (c_fi_trans (c_fi_up (c_fi_up (c_fi_up (c_fi_up (c_fi_up c_fi_refl rfl) rfl) rfl) rfl) rfl) f29)), (show c_fa c_pa A A17b by exact f30), (show M16.1[t27]? = some (.inr (11, [])) by exact f31)⟩)
  · rw [e11]
    replace hR3b : w_Rep w_TC fr X (u + 6) (l + 64) I3b A3b B3b C3b M2 := hR3b
    replace f12 : c_fi c_ps I I3b := f12
    replace f13 : c_fa c_pa A A3b := f13
    replace f14 : M2.1[t10]? = some (.inr (11, [])) := f14
    exact Or.inr (⟨t10, I3b, A3b, B3b, C3b, rfl, hR3b, (show c_fi c_ps I I3b by exact f12), (show c_fa c_pa A A3b by exact f13), (show M2.1[t10]? = some (.inr (11, [])) by exact f14)⟩)
