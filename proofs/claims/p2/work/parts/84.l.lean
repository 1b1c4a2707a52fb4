def c_cases_Q (fr : Nat → Bool) (X : Nat → Option (q_C (Nat → Int32))) (u l : Nat) (I : Nat → Int) (A : Nat → Int → Int) (B C : Nat → Nat) (M : w_M) (b : Int) : w_X → w_M → Prop := fun r M' => (∃ v : Int, ∃ (I' : Nat → Int) (A' : Nat → Int → Int) (B' C' : Nat → Nat), (r = .inl (some v)) ∧ (w_in v) ∧ (w_Rep w_TC fr X u l I' A' B' C' M') ∧ (c_fi c_ps I I') ∧ (c_fa c_pa A A') ∧ ((0 ≤ (I' 2436) ∧ (I' 2436) ≤ (I' 773) ∧ ((I' 2437) = 0 ∨ (I' 2436) < (I' 773))) ∧ ((I' 773) = (I 773) ∧ (I' 2439) = (I 2439) ∧ 0 ≤ (I' 2117)) ∧ (I 2436) + 1 ≤ (I' 2436) ∧ (I' 1670) + 1 ≤ (I 1670) + 2 * ((I' 2436) - (I 2436)) ∧ (I 1670) ≤ (I' 1670)) ∧ (c_agl A A' (I 1670)) ∧ (c_Wn A' (c_r (I 2439) 1) v (I 1670) (I' 1670))) ∨ (∃ t : Nat, ∃ (I' : Nat → Int) (A' : Nat → Int → Int) (B' C' : Nat → Nat), (r = .inr t) ∧ (w_Rep w_TC fr X (u + 6) (l + 64) I' A' B' C' M') ∧ (c_fi c_ps I I') ∧ (c_fa c_pa A A') ∧ (M'.1[None]? = some (.inr (11, []))))
set_option maxHeartbeats 100000000 in
set_option maxRecDepth 100000 in
theorem c_cases {L : Nat} {xs : Nat → Int32} {d : Nat} {fr : Nat → Bool} {X : Nat → Option (q_C (Nat → Int32))} {u l : Nat} {I : Nat → Int} {A : Nat → Int → Int} {B C : Nat → Nat} {M : w_M} (hA : c_ALL L xs d) (b : Int) (hR : w_Rep w_TC fr X u l I A B C M) (hd : 10 * (24 - (I 2439)) + 9 ≤ (d : Int)) (r_b : w_in b) (hl : l ≤ 100000) (hNU : (0 ≤ (I 2436) ∧ (I 2436) ≤ (I 773) ∧ (I 773) ≤ 1501 ∧ ((I 2437) = 0 ∨ (I 2436) < (I 773))) ∧ (0 ≤ (I 2439) ∧ (I 2439) ≤ 24 ∧ 0 ≤ (I 2117)) ∧ 0 ≤ (I 1670) ∧ (I 1670) ≤ 2 * (I 2436) + 1) (hk0 : ¬ (I 2437) = 0) : w_W (z_P L xs) d 125 (0, [(0, .ref 38), (1, .int (Int32.ofInt (b)))], [], M) (c_cases_Q fr X u l I A B C M b) := by
  obtain ⟨ra_b, rb_b⟩ := r_b
  obtain ⟨d, rfl⟩ : ∃ d0, d = d0 + 1 := ⟨d - 1, by omega⟩
  refine w_adv (n := 1) (F' := (1, [(0, .ref 38), (1, .int (Int32.ofInt (b)))], [.ref 38], M)) rfl ?_
  refine w_call (cm := 99) (as := [(0, .ref 38)]) (rest := []) (o := some (4, 38)) rfl (w_fitR hR rfl) (c_open hR (show 4 ≤ d by omega) (show l ≤ 100000 by first | assumption | omega) (show -1 ≤ (I 2436) ∧ (I 2436) < (I 773) ∧ (I 773) ≤ 1501 by first | assumption | omega) (show 0 ≤ (I 2439) ∧ (I 2439) ≤ 24 by first | assumption | omega)) (fun r1 M2 q3 => ?_)
  rcases q3 with ⟨zt4, zk5, zv6, e7, hR3a, f8, f9⟩ | ⟨t10, I3b, A3b, B3b, C3b, e11, hR3b, f12, f13, f14⟩
  · rw [e7]
    replace hR3a : w_Rep w_TC fr X u l (w_up (w_up (w_up (w_up (w_up I 2436 ((I 2436) + 1)) 2441 (zt4)) 2437 (zk5)) 2438 (zv6)) 2439 ((I 2439) + 1)) A B C M2 := hR3a
    replace f8 : ((I 2436) + 1 < (I 773) ∨ zk5 = 0) := f8
    replace f9 : (I 2439) < 24 := f9
    show w_W _ _ _ (4, [(0, .ref 38), (1, .int (Int32.ofInt (b)))], [], M2) _
    refine w_adv (n := 1) (F' := (5, [(0, .ref 38), (1, .int (Int32.ofInt (b)))], [.ref 38], M2)) rfl ?_
    refine w_call (cm := 89) (as := [(0, .ref 38)]) (rest := []) (o := some (4, 38)) rfl (w_fitR hR3a rfl) ((hA d (Nat.lt_succ_self d)).1 hR3a (show 10 * (24 - ((I 2439) + 1)) + 13 ≤ (d : Int) by omega) (show l ≤ 100000 by first | assumption | omega) (show (0 ≤ (I 2436) + 1 ∧ (I 2436) + 1 ≤ (I 773) ∧ (I 773) ≤ 1501 ∧ (zk5 = 0 ∨ (I 2436) + 1 < (I 773))) ∧ (0 ≤ (I 2439) + 1 ∧ (I 2439) + 1 ≤ 24 ∧ 0 ≤ (I 2117)) ∧ 0 ≤ (I 1670) ∧ (I 1670) ≤ 2 * ((I 2436) + 1) + 1 by (repeat' apply And.intro) <;> first | assumption | omega)) (fun r15 M16 q17 => ?_)
    rcases q17 with ⟨v18, I17a, A17a, B17a, C17a, e19, ⟨r20, r21⟩, hR17a, f22, f23, f24, f25, f26⟩ | ⟨t27, I17b, A17b, B17b, C17b, e28, hR17b, f29, f30, f31⟩
    · rw [e19]
      replace hR17a : w_Rep w_TC fr X u l I17a A17a B17a C17a M16 := hR17a
      replace f22 : c_fi c_ps (w_up (w_up (w_up (w_up (w_up I 2436 ((I 2436) + 1)) 2441 (zt4)) 2437 (zk5)) 2438 (zv6)) 2439 ((I 2439) + 1)) I17a := f22
      replace f23 : c_fa c_pa A A17a := f23
      replace f24 : (0 ≤ (I17a 2436) ∧ (I17a 2436) ≤ (I17a 773) ∧ ((I17a 2437) = 0 ∨ (I17a 2436) < (I17a 773))) ∧ ((I17a 773) = (I 773) ∧ (I17a 2439) = (I 2439) + 1 ∧ 0 ≤ (I17a 2117)) ∧ ((I 2436) + 1) + 1 ≤ (I17a 2436) ∧ (I17a 1670) + 1 ≤ (I 1670) + 2 * ((I17a 2436) - ((I 2436) + 1)) ∧ (I 1670) ≤ (I17a 1670) := f24
      obtain ⟨⟨n32, n33, n34⟩, ⟨n35, n36, n37⟩, n38, n39, n40⟩ := id f24
      clear f24
      replace f25 : c_agl A A17a (I 1670) := f25
      replace f26 : c_Wn A17a (c_r ((I 2439) + 1) 3) v18 (I 1670) (I17a 1670) := f26
      have g41 : c_agl A A17a (I 1670) := c_agl_trans c_agl_refl f25 (show (I 1670) ≤ (I 1670) by omega)
      have k42 : c_Wn A17a (c_r (I 2439) 0) v18 (I 1670) (I17a 1670) := c_Wn_up f26 (show c_r ((I 2439) + 1) 3 ≤ c_r (I 2439) 0 by unfold c_r; omega)
      obtain ⟨b43, b44⟩ := c_W_in k42.1
      skip
      show w_W _ _ _ (8, [(0, .ref 38), (1, .int (Int32.ofInt (b)))], [.int (Int32.ofInt (v18))], M16) _
      refine w_adv (n := 2) (F' := (10, [(2, .int (Int32.ofInt (v18))), (0, .ref 38), (1, .int (Int32.ofInt (b)))], [.ref 38], M16)) rfl ?_
      refine w_gf (v := .int (Int32.ofInt ((I17a 2437)))) hR17a rfl rfl rfl rfl ?_
      obtain ⟨r45, r46⟩ : -2147483648 ≤ (I17a 2437) ∧ (I17a 2437) ≤ 2147483647 := hR17a.ri 2437
      refine w_adv (n := 1) (F' := (15, [(2, .int (Int32.ofInt (v18))), (0, .ref 38), (1, .int (Int32.ofInt (b)))], [.int (Int32.ofInt (29)), .int (Int32.ofInt ((I17a 2437)))], M16)) rfl ?_
      refine w_br2 (a := (I17a 2437)) (b := 29) rfl rfl ⟨by omega, by omega⟩ ⟨by omega, by omega⟩ (fun h47 => ?_) (fun h47 => ?_)
      · have h47 : (I17a 2437) = 29 := h47
        show w_W _ _ _ (24, [(2, .int (Int32.ofInt (v18))), (0, .ref 38), (1, .int (Int32.ofInt (b)))], [], M16) _
        refine w_adv (n := 6) (F' := (32, [(5, .int (Int32.ofInt (0))), (4, .int (Int32.ofInt ((-1)))), (3, .int (Int32.ofInt ((-1)))), (2, .int (Int32.ofInt (v18))), (0, .ref 38), (1, .int (Int32.ofInt (b)))], [], M16)) rfl ?_
        have lp32 : ∀ fu32 : Nat, ∀ (y32_3 : Int) (y32_4 : Int) (y32_5 : Int) (I_32 : Nat → Int) (A_32 : Nat → Int → Int) (B_32 C_32 : Nat → Nat) (M_32 : w_M) (hR_32 : w_Rep w_TC fr X u l I_32 A_32 B_32 C_32 M_32), w_in y32_3 → w_in y32_4 → w_in y32_5 → c_fi c_ps I I_32 → c_fa c_pa A A_32 → (0 ≤ (I_32 2436) ∧ (I_32 2436) ≤ (I_32 773) ∧ ((I_32 2437) = 0 ∨ (I_32 2436) < (I_32 773))) ∧ ((I_32 773) = (I 773) ∧ (I_32 2439) = (I 2439) + 1 ∧ 0 ≤ (I_32 2117)) ∧ (I 2436) + 1 ≤ (I_32 2436) ∧ (I_32 1670) + 2 ≤ (I 1670) + 2 * ((I_32 2436) - (I 2436)) ∧ (I 1670) ≤ (I_32 1670) → c_agl A A_32 (I 1670) → c_Wn A_32 (c_r (I 2439) 0) v18 (I 1670) (I17a 1670) → c_Chq c_P2 A_32 (c_r (I 2439) 0) y32_3 y32_4 (I17a 1670) (I_32 1670) → 0 ≤ y32_5 ∧ y32_5 ≤ 1500 → 1500 - y32_5 < (fu32 : Int) → w_W (z_P L xs) (d + 1) 125 (32, [(0, .ref 38), (1, .int (Int32.ofInt (b))), (2, .int (Int32.ofInt (v18))), (3, .int (Int32.ofInt (y32_3))), (4, .int (Int32.ofInt (y32_4))), (5, .int (Int32.ofInt (y32_5)))], [], M_32) (c_cases_Q fr X u l I A B C M b) := by
          intro fu32
          induction fu32 with
          | zero =>
            intro y32_3 y32_4 y32_5 I_32 A_32 B_32 C_32 M_32 hR_32 ⟨ra_y32_3, rb_y32_3⟩ ⟨ra_y32_4, rb_y32_4⟩ ⟨ra_y32_5, rb_y32_5⟩ hi32_0 hi32_1 hi32_2 hi32_3 hi32_4 hi32_5 hi32_6 hn32
            exfalso
            omega
          | succ fu32 ih32 =>
            intro y32_3 y32_4 y32_5 I_32 A_32 B_32 C_32 M_32 hR_32 ⟨ra_y32_3, rb_y32_3⟩ ⟨ra_y32_4, rb_y32_4⟩ ⟨ra_y32_5, rb_y32_5⟩ hi32_0 hi32_1 hi32_2 hi32_3 hi32_4 hi32_5 hi32_6 hn32
            refine w_adv (n := 2) (F' := (37, [(0, .ref 38), (1, .int (Int32.ofInt (b))), (2, .int (Int32.ofInt (v18))), (3, .int (Int32.ofInt (y32_3))), (4, .int (Int32.ofInt (y32_4))), (5, .int (Int32.ofInt (y32_5)))], [.int (Int32.ofInt (1500)), .int (Int32.ofInt (y32_5))], M_32)) rfl ?_
            refine w_br2 (a := y32_5) (b := 1500) rfl rfl ⟨by omega, by omega⟩ ⟨by omega, by omega⟩ (fun h48 => ?_) (fun h48 => ?_)
            · have h48 : y32_5 ≥ 1500 := h48
              show w_W _ _ _ (140, [(0, .ref 38), (1, .int (Int32.ofInt (b))), (2, .int (Int32.ofInt (v18))), (3, .int (Int32.ofInt (y32_3))), (4, .int (Int32.ofInt (y32_4))), (5, .int (Int32.ofInt (y32_5)))], [], M_32) _
              refine w_adv (n := 2) (F' := (142, [(0, .ref 38), (1, .int (Int32.ofInt (b))), (2, .int (Int32.ofInt (v18))), (3, .int (Int32.ofInt (y32_3))), (4, .int (Int32.ofInt (y32_4))), (5, .int (Int32.ofInt (y32_5)))], [.int (Int32.ofInt (b)), .ref 38], M_32)) rfl ?_
              refine w_call (cm := 124) (as := [(0, .ref 38), (1, .int (Int32.ofInt (b)))]) (rest := []) (o := some (4, 38)) rfl (w_fitR hR_32 rfl) (c_otherwise (c_ALL_dn hA) (b) hR_32 (show 10 * (24 - (I_32 2439)) + 17 ≤ (d : Int) by omega) ⟨by omega, by omega⟩ (show l ≤ 100000 by first | assumption | omega) (show (0 ≤ (I_32 2436) ∧ (I_32 2436) ≤ (I_32 773) ∧ (I_32 773) ≤ 1501 ∧ ((I_32 2437) = 0 ∨ (I_32 2436) < (I_32 773))) ∧ (0 ≤ (I_32 2439) ∧ (I_32 2439) ≤ 24 ∧ 0 ≤ (I_32 2117)) ∧ 0 ≤ (I_32 1670) ∧ (I_32 1670) ≤ 2 * (I_32 2436) + 1 by (repeat' apply And.intro) <;> first | assumption | omega)) (fun r49 M50 q51 => ?_)
              rcases q51 with ⟨v52, I51a, A51a, B51a, C51a, e53, ⟨r54, r55⟩, hR51a, f56, f57, f58, f59, f60⟩ | ⟨t61, I51b, A51b, B51b, C51b, e62, hR51b, f63, f64, f65⟩
              · rw [e53]
                replace hR51a : w_Rep w_TC fr X u l I51a A51a B51a C51a M50 := hR51a
                replace f56 : c_fi c_ps I_32 I51a := f56
                replace f57 : c_fa c_pa A_32 A51a := f57
                replace f58 : (0 ≤ (I51a 2436) ∧ (I51a 2436) ≤ (I51a 773) ∧ ((I51a 2437) = 0 ∨ (I51a 2436) < (I51a 773))) ∧ ((I51a 773) = (I_32 773) ∧ (I51a 2439) = (I_32 2439) ∧ 0 ≤ (I51a 2117)) ∧ (I_32 2436) + 0 ≤ (I51a 2436) ∧ (I51a 1670) + 0 ≤ (I_32 1670) + 2 * ((I51a 2436) - (I_32 2436)) ∧ (I_32 1670) ≤ (I51a 1670) := f58
                obtain ⟨⟨n66, n67, n68⟩, ⟨n69, n70, n71⟩, n72, n73, n74⟩ := id f58
                clear f58
                replace f59 : c_agl A_32 A51a (I_32 1670) := f59
                replace f60 : v52 = -1 ∨ c_Bd A51a (c_W A51a (c_r (I_32 2439) 4)) v52 (I_32 1670) (I51a 1670) := f60
                have k75 : c_Wn A51a (c_r (I 2439) 0) v18 (I 1670) (I17a 1670) := c_Wn_agl hi32_4 f59 (show 0 ≤ (I 1670) by omega) (show (I17a 1670) ≤ (I_32 1670) by omega)
                clear hi32_4
                have k76 : c_Chq c_P2 A51a (c_r (I 2439) 0) y32_3 y32_4 (I17a 1670) (I_32 1670) := c_Chq_agl c_P2_fam hi32_5 f59 (show 0 ≤ (I17a 1670) by omega) (show (I_32 1670) ≤ (I_32 1670) by omega)
                clear hi32_5
                have g77 : c_agl A A51a (I 1670) := c_agl_trans hi32_3 f59 (show (I 1670) ≤ (I_32 1670) by omega)
                have k78 : v52 = -1 ∨ c_Bd A51a (c_W A51a (c_r (I 2439) 0)) v52 (I_32 1670) (I51a 1670) := f60.imp_right (fun g => c_Bd_up g (show c_r (I_32 2439) 4 ≤ c_r (I 2439) 0 by unfold c_r; omega))
                show w_W _ _ _ (145, [(0, .ref 38), (1, .int (Int32.ofInt (b))), (2, .int (Int32.ofInt (v18))), (3, .int (Int32.ofInt (y32_3))), (4, .int (Int32.ofInt (y32_4))), (5, .int (Int32.ofInt (y32_5)))], [.int (Int32.ofInt (v52))], M50) _
                refine w_adv (n := 3) (F' := (150, [(5, .int (Int32.ofInt (v52))), (0, .ref 38), (1, .int (Int32.ofInt (b))), (2, .int (Int32.ofInt (v18))), (3, .int (Int32.ofInt (y32_3))), (4, .int (Int32.ofInt (y32_4)))], [.int (Int32.ofInt (24)), .ref 38], M50)) rfl ?_
                refine w_call (cm := 113) (as := [(0, .ref 38), (1, .int (Int32.ofInt (24)))]) (rest := []) (o := some (4, 38)) rfl (w_fitR hR51a rfl) (c_close (24) hR51a (show 4 ≤ d by omega) ⟨by omega, by omega⟩ (show l ≤ 100000 by first | assumption | omega) (show -1 ≤ (I51a 2436) ∧ ((I51a 2437) = 0 ∨ (I51a 2436) < (I51a 773)) ∧ (I51a 773) ≤ 1501 ∧ 1 ≤ 24 by first | assumption | omega) (show 0 ≤ (I51a 2439) ∧ (I51a 2439) ≤ 24 by first | assumption | omega)) (fun r79 M80 q81 => ?_)
                rcases q81 with ⟨zt82, zk83, zv84, e85, hR81a, f86, f87⟩ | ⟨t88, I81b, A81b, B81b, C81b, e89, hR81b, f90, f91, f92⟩
                · rw [e85]
                  replace hR81a : w_Rep w_TC fr X u l (w_up (w_up (w_up (w_up (w_up I51a 2436 ((I51a 2436) + 1)) 2441 (zt82)) 2437 (zk83)) 2438 (zv84)) 2439 ((I51a 2439) - 1)) A51a B51a C51a M80 := hR81a
                  replace f86 : ((I51a 2436) + 1 < (I51a 773) ∨ zk83 = 0) := f86
                  replace f87 : (I51a 2437) = 24 := f87
                  show w_W _ _ _ (153, [(5, .int (Int32.ofInt (v52))), (0, .ref 38), (1, .int (Int32.ofInt (b))), (2, .int (Int32.ofInt (v18))), (3, .int (Int32.ofInt (y32_3))), (4, .int (Int32.ofInt (y32_4)))], [], M80) _
                  refine w_adv (n := 1) (F' := (154, [(5, .int (Int32.ofInt (v52))), (0, .ref 38), (1, .int (Int32.ofInt (b))), (2, .int (Int32.ofInt (v18))), (3, .int (Int32.ofInt (y32_3))), (4, .int (Int32.ofInt (y32_4)))], [.ref 38], M80)) rfl ?_
                  refine w_gf (v := .ref 26) hR81a rfl rfl rfl rfl ?_
                  refine w_adv (n := 4) (F' := (163, [(5, .int (Int32.ofInt (v52))), (0, .ref 38), (1, .int (Int32.ofInt (b))), (2, .int (Int32.ofInt (v18))), (3, .int (Int32.ofInt (y32_3))), (4, .int (Int32.ofInt (y32_4)))], [.int (Int32.ofInt (v52)), .int (Int32.ofInt (y32_3)), .int (Int32.ofInt (v18)), .int (Int32.ofInt (15)), .ref 26], M80)) rfl ?_
                  refine w_call (cm := 94) (as := [(0, .ref 26), (1, .int (Int32.ofInt (15))), (2, .int (Int32.ofInt (v18))), (3, .int (Int32.ofInt (y32_3))), (4, .int (Int32.ofInt (v52)))]) (rest := []) (o := some (8, 26)) rfl (w_fitR hR81a rfl) (c_mkn (15) (v18) (y32_3) (v52) hR81a (show 2 ≤ d by omega) ⟨by omega, by omega⟩ ⟨by omega, by omega⟩ ⟨by omega, by omega⟩ ⟨by omega, by omega⟩ (show 0 ≤ (I51a 1670) ∧ (I51a 1670) < 3016 by first | assumption | omega)) (fun r93 M94 q95 => ?_)
                  rcases q95 with ⟨A96, e97, hR95a, f98, f99⟩
                  rw [e97]
                  replace hR95a : w_Rep w_TC fr X u l (w_up (w_up (w_up (w_up (w_up (w_up I51a 2436 ((I51a 2436) + 1)) 2441 (zt82)) 2437 (zk83)) 2438 (zv84)) 2439 ((I51a 2439) - 1)) 1670 ((I51a 1670) + 1)) A96 B51a C51a M94 := hR95a
                  replace f98 : c_fa c_pa A51a A96 := f98
                  replace f99 : c_mk A51a A96 (I51a 1670) 15 v18 y32_3 v52 := f99
                  have k100 : c_Wn A96 (c_r (I 2439) 1) (I51a 1670) (I 1670) ((I51a 1670) + 1) := c_Wn_up ⟨c_W_15 f99 (show 0 ≤ (I 1670) by omega) (show (I_32 1670) ≤ (I51a 1670) by omega) k75.1 (c_Ch_wide (fun _ _ => c_P2_win) (c_Chq_end k76) (show (I17a 1670) ≤ (I17a 1670) by omega) (show (I_32 1670) ≤ (I_32 1670) by omega)) (k78.imp_right (fun g => c_BdW_win g (show (I_32 1670) ≤ (I_32 1670) by omega) (show (I51a 1670) ≤ (I51a 1670) by omega))), f99.2.2.2.2.2⟩ (show (c_r (I 2439) 0) + 1 ≤ (c_r (I 2439) 1) by unfold c_r; omega)
                  have k101 : c_Wn A96 (c_r (I 2439) 0) v18 (I 1670) (I17a 1670) := c_Wn_agl k75 f99.1 (show 0 ≤ (I 1670) by omega) (show (I17a 1670) ≤ (I51a 1670) by omega)
                  clear k75
                  have k102 : c_Chq c_P2 A96 (c_r (I 2439) 0) y32_3 y32_4 (I17a 1670) (I_32 1670) := c_Chq_agl c_P2_fam k76 f99.1 (show 0 ≤ (I17a 1670) by omega) (show (I_32 1670) ≤ (I51a 1670) by omega)
                  clear k76
                  have g103 : c_agl A A96 (I 1670) := c_agl_trans g77 f99.1 (show (I 1670) ≤ (I51a 1670) by omega)
                  have k104 : v52 = -1 ∨ c_Bd A96 (c_W A96 (c_r (I 2439) 0)) v52 (I_32 1670) (I51a 1670) := k78.imp_right (fun g => c_Bd_agl g f99.1 (show 0 ≤ (I_32 1670) by omega) (show (I51a 1670) ≤ (I51a 1670) by omega))
                  show w_W _ _ _ (166, [(5, .int (Int32.ofInt (v52))), (0, .ref 38), (1, .int (Int32.ofInt (b))), (2, .int (Int32.ofInt (v18))), (3, .int (Int32.ofInt (y32_3))), (4, .int (Int32.ofInt (y32_4)))], [.int (Int32.ofInt ((I51a 1670)))], M94) _
                  refine w_fin (r := .inl (some ((I51a 1670)))) (M' := M94) rfl ?_
                  exact Or.inl ⟨(I51a 1670), (w_up (w_up (w_up (w_up (w_up (w_up I51a 2436 ((I51a 2436) + 1)) 2441 (zt82)) 2437 (zk83)) 2438 (zv84)) 2439 ((I51a 2439) - 1)) 1670 ((I51a 1670) + 1)), A96, B51a, C51a, rfl, ⟨by omega, by omega⟩, hR95a, (show c_fi c_ps I (w_up (w_up (w_up (w_up (w_up (w_up I51a 2436 ((I51a 2436) + 1)) 2441 (zt82)) 2437 (zk83)) 2438 (zv84)) 2439 ((I51a 2439) - 1)) 1670 ((I51a 1670) + 1)) by exact (c_fi_up (c_fi_up (c_fi_up (c_fi_up (c_fi_up (c_fi_up (c_fi_trans hi32_0 f56) rfl) rfl) rfl) rfl) rfl) rfl)), (show c_fa c_pa A A96 by exact (c_fa_trans (c_fa_trans hi32_1 f57) f98)), (show (0 ≤ (I51a 2436) + 1 ∧ (I51a 2436) + 1 ≤ (I51a 773) ∧ (zk83 = 0 ∨ (I51a 2436) + 1 < (I51a 773))) ∧ ((I51a 773) = (I 773) ∧ (I51a 2439) - 1 = (I 2439) ∧ 0 ≤ (I51a 2117)) ∧ (I 2436) + 1 ≤ (I51a 2436) + 1 ∧ ((I51a 1670) + 1) + 1 ≤ (I 1670) + 2 * (((I51a 2436) + 1) - (I 2436)) ∧ (I 1670) ≤ (I51a 1670) + 1 by (repeat' apply And.intro) <;> first | assumption | omega), (show c_agl A A96 (I 1670) by exact g103), (show c_Wn A96 (c_r (I 2439) 1) (I51a 1670) (I 1670) ((I51a 1670) + 1) by exact c_Wn_win (c_Wn_up k100 (show c_r (I 2439) 1 ≤ c_r (I 2439) 1 by unfold c_r; omega)) (show (I 1670) ≤ (I 1670) by omega) (show ((I51a 1670) + 1) ≤ ((I51a 1670) + 1) by omega))⟩
                · rw [e89]
                  replace hR81b : w_Rep w_TC fr X (u + 6) (l + 64) I81b A81b B81b C81b M80 := hR81b
                  replace f90 : c_fi c_ps I51a I81b := f90
                  replace f91 : c_fa c_pa A51a A81b := f91
                  replace f92 : M80.1[t88]? = some (.inr (11, [])) := f92
                  exact Or.inr (⟨t88, I81b, A81b, B81b, C81b, rfl, hR81b, (show c_fi c_ps I I81b by exact (c_fi_trans (c_fi_trans hi32_0 f56) f90)), (show c_fa c_pa A A81b by exact (c_fa_trans (c_fa_trans hi32_1 f57) f91)), (show M80.1[t88]? = some (.inr (11, [])) by exact f92)⟩)
              · rw [e62]
                replace hR51b : w_Rep w_TC fr X (u + 6) (l + 64) I51b A51b B51b C51b M50 := hR51b
                replace f63 : c_fi c_ps I_32 I51b := f63
                replace f64 : c_fa c_pa A_32 A51b := f64
                replace f65 : M50.1[t61]? = some (.inr (11, [])) := f65
                exact Or.inr (⟨t61, I51b, A51b, B51b, C51b, rfl, hR51b, (show c_fi c_ps I I51b by exact (c_fi_trans hi32_0 f63)), (show c_fa c_pa A A51b by exact (c_fa_trans hi32_1 f64)), (show M50.1[t61]? = some (.inr (11, [])) by exact f65)⟩)
            · have h48 : ¬ (y32_5 ≥ 1500) := h48
              show w_W _ _ _ (40, [(0, .ref 38), (1, .int (Int32.ofInt (b))), (2, .int (Int32.ofInt (v18))), (3, .int (Int32.ofInt (y32_3))), (4, .int (Int32.ofInt (y32_4))), (5, .int (Int32.ofInt (y32_5)))], [], M_32) _
              refine w_adv (n := 1) (F' := (41, [(0, .ref 38), (1, .int (Int32.ofInt (b))), (2, .int (Int32.ofInt (v18))), (3, .int (Int32.ofInt (y32_3))), (4, .int (Int32.ofInt (y32_4))), (5, .int (Int32.ofInt (y32_5)))], [.ref 38], M_32)) rfl ?_
              refine w_gf (v := .int (Int32.ofInt ((I_32 2437)))) hR_32 rfl rfl rfl rfl ?_
              obtain ⟨r105, r106⟩ : -2147483648 ≤ (I_32 2437) ∧ (I_32 2437) ≤ 2147483647 := hR_32.ri 2437
              refine w_adv (n := 1) (F' := (46, [(0, .ref 38), (1, .int (Int32.ofInt (b))), (2, .int (Int32.ofInt (v18))), (3, .int (Int32.ofInt (y32_3))), (4, .int (Int32.ofInt (y32_4))), (5, .int (Int32.ofInt (y32_5)))], [.int (Int32.ofInt (29)), .int (Int32.ofInt ((I_32 2437)))], M_32)) rfl ?_
              refine w_br2 (a := (I_32 2437)) (b := 29) rfl rfl ⟨by omega, by omega⟩ ⟨by omega, by omega⟩ (fun h107 => ?_) (fun h107 => ?_)
              · have h107 : ¬ (I_32 2437) = 29 := h107
                show w_W _ _ _ (140, [(0, .ref 38), (1, .int (Int32.ofInt (b))), (2, .int (Int32.ofInt (v18))), (3, .int (Int32.ofInt (y32_3))), (4, .int (Int32.ofInt (y32_4))), (5, .int (Int32.ofInt (y32_5)))], [], M_32) _
                refine w_adv (n := 2) (F' := (142, [(0, .ref 38), (1, .int (Int32.ofInt (b))), (2, .int (Int32.ofInt (v18))), (3, .int (Int32.ofInt (y32_3))), (4, .int (Int32.ofInt (y32_4))), (5, .int (Int32.ofInt (y32_5)))], [.int (Int32.ofInt (b)), .ref 38], M_32)) rfl ?_
                refine w_call (cm := 124) (as := [(0, .ref 38), (1, .int (Int32.ofInt (b)))]) (rest := []) (o := some (4, 38)) rfl (w_fitR hR_32 rfl) (c_otherwise (c_ALL_dn hA) (b) hR_32 (show 10 * (24 - (I_32 2439)) + 17 ≤ (d : Int) by omega) ⟨by omega, by omega⟩ (show l ≤ 100000 by first | assumption | omega) (show (0 ≤ (I_32 2436) ∧ (I_32 2436) ≤ (I_32 773) ∧ (I_32 773) ≤ 1501 ∧ ((I_32 2437) = 0 ∨ (I_32 2436) < (I_32 773))) ∧ (0 ≤ (I_32 2439) ∧ (I_32 2439) ≤ 24 ∧ 0 ≤ (I_32 2117)) ∧ 0 ≤ (I_32 1670) ∧ (I_32 1670) ≤ 2 * (I_32 2436) + 1 by (repeat' apply And.intro) <;> first | assumption | omega)) (fun r108 M109 q110 => ?_)
                rcases q110 with ⟨v111, I110a, A110a, B110a, C110a, e112, ⟨r113, r114⟩, hR110a, f115, f116, f117, f118, f119⟩ | ⟨t120, I110b, A110b, B110b, C110b, e121, hR110b, f122, f123, f124⟩
                · rw [e112]
                  replace hR110a : w_Rep w_TC fr X u l I110a A110a B110a C110a M109 := hR110a
                  replace f115 : c_fi c_ps I_32 I110a := f115
                  replace f116 : c_fa c_pa A_32 A110a := f116
                  replace f117 : (0 ≤ (I110a 2436) ∧ (I110a 2436) ≤ (I110a 773) ∧ ((I110a 2437) = 0 ∨ (I110a 2436) < (I110a 773))) ∧ ((I110a 773) = (I_32 773) ∧ (I110a 2439) = (I_32 2439) ∧ 0 ≤ (I110a 2117)) ∧ (I_32 2436) + 0 ≤ (I110a 2436) ∧ (I110a 1670) + 0 ≤ (I_32 1670) + 2 * ((I110a 2436) - (I_32 2436)) ∧ (I_32 1670) ≤ (I110a 1670) := f117
                  obtain ⟨⟨n125, n126, n127⟩, ⟨n128, n129, n130⟩, n131, n132, n133⟩ := id f117
                  clear f117
                  replace f118 : c_agl A_32 A110a (I_32 1670) := f118
                  replace f119 : v111 = -1 ∨ c_Bd A110a (c_W A110a (c_r (I_32 2439) 4)) v111 (I_32 1670) (I110a 1670) := f119
                  have k134 : c_Wn A110a (c_r (I 2439) 0) v18 (I 1670) (I17a 1670) := c_Wn_agl hi32_4 f118 (show 0 ≤ (I 1670) by omega) (show (I17a 1670) ≤ (I_32 1670) by omega)
                  clear hi32_4
                  have k135 : c_Chq c_P2 A110a (c_r (I 2439) 0) y32_3 y32_4 (I17a 1670) (I_32 1670) := c_Chq_agl c_P2_fam hi32_5 f118 (show 0 ≤ (I17a 1670) by omega) (show (I_32 1670) ≤ (I_32 1670) by omega)
                  clear hi32_5
                  have g136 : c_agl A A110a (I 1670) := c_agl_trans hi32_3 f118 (show (I 1670) ≤ (I_32 1670) by omega)
                  have k137 : v111 = -1 ∨ c_Bd A110a (c_W A110a (c_r (I 2439) 0)) v111 (I_32 1670) (I110a 1670) := f119.imp_right (fun g => c_Bd_up g (show c_r (I_32 2439) 4 ≤ c_r (I 2439) 0 by unfold c_r; omega))
                  show w_W _ _ _ (145, [(0, .ref 38), (1, .int (Int32.ofInt (b))), (2, .int (Int32.ofInt (v18))), (3, .int (Int32.ofInt (y32_3))), (4, .int (Int32.ofInt (y32_4))), (5, .int (Int32.ofInt (y32_5)))], [.int (Int32.ofInt (v111))], M109) _
                  refine w_adv (n := 3) (F' := (150, [(5, .int (Int32.ofInt (v111))), (0, .ref 38), (1, .int (Int32.ofInt (b))), (2, .int (Int32.ofInt (v18))), (3, .int (Int32.ofInt (y32_3))), (4, .int (Int32.ofInt (y32_4)))], [.int (Int32.ofInt (24)), .ref 38], M109)) rfl ?_
                  refine w_call (cm := 113) (as := [(0, .ref 38), (1, .int (Int32.ofInt (24)))]) (rest := []) (o := some (4, 38)) rfl (w_fitR hR110a rfl) (c_close (24) hR110a (show 4 ≤ d by omega) ⟨by omega, by omega⟩ (show l ≤ 100000 by first | assumption | omega) (show -1 ≤ (I110a 2436) ∧ ((I110a 2437) = 0 ∨ (I110a 2436) < (I110a 773)) ∧ (I110a 773) ≤ 1501 ∧ 1 ≤ 24 by first | assumption | omega) (show 0 ≤ (I110a 2439) ∧ (I110a 2439) ≤ 24 by first | assumption | omega)) (fun r138 M139 q140 => ?_)
                  rcases q140 with ⟨zt141, zk142, zv143, e144, hR140a, f145, f146⟩ | ⟨t147, I140b, A140b, B140b, C140b, e148, hR140b, f149, f150, f151⟩
                  · rw [e144]
                    replace hR140a : w_Rep w_TC fr X u l (w_up (w_up (w_up (w_up (w_up I110a 2436 ((I110a 2436) + 1)) 2441 (zt141)) 2437 (zk142)) 2438 (zv143)) 2439 ((I110a 2439) - 1)) A110a B110a C110a M139 := hR140a
                    replace f145 : ((I110a 2436) + 1 < (I110a 773) ∨ zk142 = 0) := f145
                    replace f146 : (I110a 2437) = 24 := f146
                    show w_W _ _ _ (153, [(5, .int (Int32.ofInt (v111))), (0, .ref 38), (1, .int (Int32.ofInt (b))), (2, .int (Int32.ofInt (v18))), (3, .int (Int32.ofInt (y32_3))), (4, .int (Int32.ofInt (y32_4)))], [], M139) _
                    refine w_adv (n := 1) (F' := (154, [(5, .int (Int32.ofInt (v111))), (0, .ref 38), (1, .int (Int32.ofInt (b))), (2, .int (Int32.ofInt (v18))), (3, .int (Int32.ofInt (y32_3))), (4, .int (Int32.ofInt (y32_4)))], [.ref 38], M139)) rfl ?_
                    refine w_gf (v := .ref 26) hR140a rfl rfl rfl rfl ?_
                    refine w_adv (n := 4) (F' := (163, [(5, .int (Int32.ofInt (v111))), (0, .ref 38), (1, .int (Int32.ofInt (b))), (2, .int (Int32.ofInt (v18))), (3, .int (Int32.ofInt (y32_3))), (4, .int (Int32.ofInt (y32_4)))], [.int (Int32.ofInt (v111)), .int (Int32.ofInt (y32_3)), .int (Int32.ofInt (v18)), .int (Int32.ofInt (15)), .ref 26], M139)) rfl ?_
                    refine w_call (cm := 94) (as := [(0, .ref 26), (1, .int (Int32.ofInt (15))), (2, .int (Int32.ofInt (v18))), (3, .int (Int32.ofInt (y32_3))), (4, .int (Int32.ofInt (v111)))]) (rest := []) (o := some (8, 26)) rfl (w_fitR hR140a rfl) (c_mkn (15) (v18) (y32_3) (v111) hR140a (show 2 ≤ d by omega) ⟨by omega, by omega⟩ ⟨by omega, by omega⟩ ⟨by omega, by omega⟩ ⟨by omega, by omega⟩ (show 0 ≤ (I110a 1670) ∧ (I110a 1670) < 3016 by first | assumption | omega)) (fun r152 M153 q154 => ?_)
                    rcases q154 with ⟨A155, e156, hR154a, f157, f158⟩
                    rw [e156]
                    replace hR154a : w_Rep w_TC fr X u l (w_up (w_up (w_up (w_up (w_up (w_up I110a 2436 ((I110a 2436) + 1)) 2441 (zt141)) 2437 (zk142)) 2438 (zv143)) 2439 ((I110a 2439) - 1)) 1670 ((I110a 1670) + 1)) A155 B110a C110a M153 := hR154a
                    replace f157 : c_fa c_pa A110a A155 := f157
                    replace f158 : c_mk A110a A155 (I110a 1670) 15 v18 y32_3 v111 := f158
                    have k159 : c_Wn A155 (c_r (I 2439) 1) (I110a 1670) (I 1670) ((I110a 1670) + 1) := c_Wn_up ⟨c_W_15 f158 (show 0 ≤ (I 1670) by omega) (show (I_32 1670) ≤ (I110a 1670) by omega) k134.1 (c_Ch_wide (fun _ _ => c_P2_win) (c_Chq_end k135) (show (I17a 1670) ≤ (I17a 1670) by omega) (show (I_32 1670) ≤ (I_32 1670) by omega)) (k137.imp_right (fun g => c_BdW_win g (show (I_32 1670) ≤ (I_32 1670) by omega) (show (I110a 1670) ≤ (I110a 1670) by omega))), f158.2.2.2.2.2⟩ (show (c_r (I 2439) 0) + 1 ≤ (c_r (I 2439) 1) by unfold c_r; omega)
                    have k160 : c_Wn A155 (c_r (I 2439) 0) v18 (I 1670) (I17a 1670) := c_Wn_agl k134 f158.1 (show 0 ≤ (I 1670) by omega) (show (I17a 1670) ≤ (I110a 1670) by omega)
                    clear k134
                    have k161 : c_Chq c_P2 A155 (c_r (I 2439) 0) y32_3 y32_4 (I17a 1670) (I_32 1670) := c_Chq_agl c_P2_fam k135 f158.1 (show 0 ≤ (I17a 1670) by omega) (show (I_32 1670) ≤ (I110a 1670) by omega)
                    clear k135
                    have g162 : c_agl A A155 (I 1670) := c_agl_trans g136 f158.1 (show (I 1670) ≤ (I110a 1670) by omega)
                    have k163 : v111 = -1 ∨ c_Bd A155 (c_W A155 (c_r (I 2439) 0)) v111 (I_32 1670) (I110a 1670) := k137.imp_right (fun g => c_Bd_agl g f158.1 (show 0 ≤ (I_32 1670) by omega) (show (I110a 1670) ≤ (I110a 1670) by omega))
                    show w_W _ _ _ (166, [(5, .int (Int32.ofInt (v111))), (0, .ref 38), (1, .int (Int32.ofInt (b))), (2, .int (Int32.ofInt (v18))), (3, .int (Int32.ofInt (y32_3))), (4, .int (Int32.ofInt (y32_4)))], [.int (Int32.ofInt ((I110a 1670)))], M153) _
                    refine w_fin (r := .inl (some ((I110a 1670)))) (M' := M153) rfl ?_
                    exact Or.inl ⟨(I110a 1670), (w_up (w_up (w_up (w_up (w_up (w_up I110a 2436 ((I110a 2436) + 1)) 2441 (zt141)) 2437 (zk142)) 2438 (zv143)) 2439 ((I110a 2439) - 1)) 1670 ((I110a 1670) + 1)), A155, B110a, C110a, rfl, ⟨by omega, by omega⟩, hR154a, (show c_fi c_ps I (w_up (w_up (w_up (w_up (w_up (w_up I110a 2436 ((I110a 2436) + 1)) 2441 (zt141)) 2437 (zk142)) 2438 (zv143)) 2439 ((I110a 2439) - 1)) 1670 ((I110a 1670) + 1)) by exact (c_fi_up (c_fi_up (c_fi_up (c_fi_up (c_fi_up (c_fi_up (c_fi_trans hi32_0 f115) rfl) rfl) rfl) rfl) rfl) rfl)), (show c_fa c_pa A A155 by exact (c_fa_trans (c_fa_trans hi32_1 f116) f157)), (show (0 ≤ (I110a 2436) + 1 ∧ (I110a 2436) + 1 ≤ (I110a 773) ∧ (zk142 = 0 ∨ (I110a 2436) + 1 < (I110a 773))) ∧ ((I110a 773) = (I 773) ∧ (I110a 2439) - 1 = (I 2439) ∧ 0 ≤ (I110a 2117)) ∧ (I 2436) + 1 ≤ (I110a 2436) + 1 ∧ ((I110a 1670) + 1) + 1 ≤ (I 1670) + 2 * (((I110a 2436) + 1) - (I 2436)) ∧ (I 1670) ≤ (I110a 1670) + 1 by (repeat' apply And.intro) <;> first | assumption | omega), (show c_agl A A155 (I 1670) by exact g162), (show c_Wn A155 (c_r (I 2439) 1) (I110a 1670) (I 1670) ((I110a 1670) + 1) by exact c_Wn_win (c_Wn_up k159 (show c_r (I 2439) 1 ≤ c_r (I 2439) 1 by unfold c_r; omega)) (show (I 1670) ≤ (I 1670) by omega) (show ((I110a 1670) + 1) ≤ ((I110a 1670) + 1) by omega))⟩
                  · rw [e148]
                    replace hR140b : w_Rep w_TC fr X (u + 6) (l + 64) I140b A140b B140b C140b M139 := hR140b
                    replace f149 : c_fi c_ps I110a I140b := f149
                    replace f150 : c_fa c_pa A110a A140b := f150
                    replace f151 : M139.1[t147]? = some (.inr (11, [])) := f151
                    exact Or.inr (⟨t147, I140b, A140b, B140b, C140b, rfl, hR140b, (show c_fi c_ps I I140b by exact (c_fi_trans (c_fi_trans hi32_0 f115) f149)), (show c_fa c_pa A A140b by exact (c_fa_trans (c_fa_trans hi32_1 f116) f150)), (show M139.1[t147]? = some (.inr (11, [])) by exact f151)⟩)
                · rw [e121]
                  replace hR110b : w_Rep w_TC fr X (u + 6) (l + 64) I110b A110b B110b C110b M109 := hR110b
                  replace f122 : c_fi c_ps I_32 I110b := f122
                  replace f123 : c_fa c_pa A_32 A110b := f123
                  replace f124 : M109.1[t120]? = some (.inr (11, [])) := f124
                  exact Or.inr (⟨t120, I110b, A110b, B110b, C110b, rfl, hR110b, (show c_fi c_ps I I110b by exact (c_fi_trans hi32_0 f122)), (show c_fa c_pa A A110b by exact (c_fa_trans hi32_1 f123)), (show M109.1[t120]? = some (.inr (11, [])) by exact f124)⟩)
              · have h107 : ¬ (¬ (I_32 2437) = 29) := h107
                show w_W _ _ _ (49, [(0, .ref 38), (1, .int (Int32.ofInt (b))), (2, .int (Int32.ofInt (v18))), (3, .int (Int32.ofInt (y32_3))), (4, .int (Int32.ofInt (y32_4))), (5, .int (Int32.ofInt (y32_5)))], [], M_32) _
                refine w_adv (n := 1) (F' := (50, [(0, .ref 38), (1, .int (Int32.ofInt (b))), (2, .int (Int32.ofInt (v18))), (3, .int (Int32.ofInt (y32_3))), (4, .int (Int32.ofInt (y32_4))), (5, .int (Int32.ofInt (y32_5)))], [.ref 38], M_32)) rfl ?_
                refine w_call (cm := 80) (as := [(0, .ref 38)]) (rest := []) (o := some (4, 38)) rfl (w_fitR hR_32 rfl) (c_advance hR_32 (show 3 ≤ d by omega) (show l ≤ 100000 by first | assumption | omega) (show -1 ≤ (I_32 2436) ∧ (I_32 2436) < (I_32 773) ∧ (I_32 773) ≤ 1501 by first | assumption | omega)) (fun r164 M165 q166 => ?_)
                rcases q166 with ⟨zt167, zk168, zv169, e170, hR166a, f171⟩ | ⟨t172, I166b, A166b, B166b, C166b, e173, hR166b, f174, f175, f176⟩
                · rw [e170]
                  replace hR166a : w_Rep w_TC fr X u l (w_up (w_up (w_up (w_up I_32 2436 ((I_32 2436) + 1)) 2441 (zt167)) 2437 (zk168)) 2438 (zv169)) A_32 B_32 C_32 M165 := hR166a
                  replace f171 : ((I_32 2436) + 1 < (I_32 773) ∨ zk168 = 0) := f171
                  show w_W _ _ _ (53, [(0, .ref 38), (1, .int (Int32.ofInt (b))), (2, .int (Int32.ofInt (v18))), (3, .int (Int32.ofInt (y32_3))), (4, .int (Int32.ofInt (y32_4))), (5, .int (Int32.ofInt (y32_5)))], [], M165) _
                  refine w_adv (n := 1) (F' := (54, [(0, .ref 38), (1, .int (Int32.ofInt (b))), (2, .int (Int32.ofInt (v18))), (3, .int (Int32.ofInt (y32_3))), (4, .int (Int32.ofInt (y32_4))), (5, .int (Int32.ofInt (y32_5)))], [.ref 38], M165)) rfl ?_
                  refine w_gf (v := .ref 33) hR166a rfl rfl rfl rfl ?_
                  refine w_call (cm := 118) (as := [(0, .ref 33)]) (rest := []) (o := some (5, 33)) rfl (w_fitR hR166a rfl) (c_snext hR166a) (fun r177 M178 q179 => ?_)
                  rcases q179 with ⟨e180, e181⟩
                  rw [e180, e181]
                  show w_W _ _ _ (60, [(0, .ref 38), (1, .int (Int32.ofInt (b))), (2, .int (Int32.ofInt (v18))), (3, .int (Int32.ofInt (y32_3))), (4, .int (Int32.ofInt (y32_4))), (5, .int (Int32.ofInt (y32_5)))], [.int (Int32.ofInt ((I_32 2117)))], M165) _
                  refine w_adv (n := 2) (F' := (63, [(6, .int (Int32.ofInt ((I_32 2117)))), (0, .ref 38), (1, .int (Int32.ofInt (b))), (2, .int (Int32.ofInt (v18))), (3, .int (Int32.ofInt (y32_3))), (4, .int (Int32.ofInt (y32_4))), (5, .int (Int32.ofInt (y32_5)))], [.ref 38], M165)) rfl ?_
                  refine w_call (cm := 126) (as := [(0, .ref 38)]) (rest := []) (o := some (4, 38)) rfl (w_fitR hR166a rfl) (c_pattern hR166a (show 7 ≤ d by omega) (show l ≤ 100000 by first | assumption | omega) (show (0 ≤ (I_32 2436) + 1 ∧ (I_32 2436) + 1 ≤ (I_32 773) ∧ (I_32 773) ≤ 1501 ∧ (zk168 = 0 ∨ (I_32 2436) + 1 < (I_32 773))) ∧ (0 ≤ (I_32 2439) ∧ (I_32 2439) ≤ 24 ∧ 0 ≤ (I_32 2117)) ∧ 0 ≤ (I_32 1670) ∧ (I_32 1670) ≤ 2 * ((I_32 2436) + 1) + 1 by (repeat' apply And.intro) <;> first | assumption | omega)) (fun r182 M183 q184 => ?_)
                  rcases q184 with ⟨v185, I184a, A184a, B184a, C184a, e186, ⟨r187, r188⟩, hR184a, f189, f190, f191, f192⟩ | ⟨t193, I184b, A184b, B184b, C184b, e194, hR184b, f195, f196, f197⟩
                  · rw [e186]
                    replace hR184a : w_Rep w_TC fr X u l I184a A184a B184a C184a M183 := hR184a
                    replace f189 : c_fi c_ps (w_up (w_up (w_up (w_up I_32 2436 ((I_32 2436) + 1)) 2441 (zt167)) 2437 (zk168)) 2438 (zv169)) I184a := f189
                    replace f190 : c_fa c_pa A_32 A184a := f190
                    replace f191 : (0 ≤ (I184a 2436) ∧ (I184a 2436) ≤ (I184a 773) ∧ ((I184a 2437) = 0 ∨ (I184a 2436) < (I184a 773))) ∧ ((I184a 773) = (I_32 773) ∧ (I184a 2439) = (I_32 2439) ∧ 0 ≤ (I184a 2117)) ∧ ((I_32 2436) + 1) + 1 ≤ (I184a 2436) ∧ (I184a 1670) + 1 ≤ (I_32 1670) + 2 * ((I184a 2436) - ((I_32 2436) + 1)) ∧ (I_32 1670) ≤ (I184a 1670) := f191
                    obtain ⟨⟨n198, n199, n200⟩, ⟨n201, n202, n203⟩, n204, n205, n206⟩ := id f191
                    clear f191
                    replace f192 : c_agl A_32 A184a (I_32 1670) := f192
                    have k207 : c_Wn A184a (c_r (I 2439) 0) v18 (I 1670) (I17a 1670) := c_Wn_agl hi32_4 f192 (show 0 ≤ (I 1670) by omega) (show (I17a 1670) ≤ (I_32 1670) by omega)
                    clear hi32_4
                    have k208 : c_Chq c_P2 A184a (c_r (I 2439) 0) y32_3 y32_4 (I17a 1670) (I_32 1670) := c_Chq_agl c_P2_fam hi32_5 f192 (show 0 ≤ (I17a 1670) by omega) (show (I_32 1670) ≤ (I_32 1670) by omega)
                    clear hi32_5
                    have g209 : c_agl A A184a (I 1670) := c_agl_trans hi32_3 f192 (show (I 1670) ≤ (I_32 1670) by omega)
                    show w_W _ _ _ (66, [(6, .int (Int32.ofInt ((I_32 2117)))), (0, .ref 38), (1, .int (Int32.ofInt (b))), (2, .int (Int32.ofInt (v18))), (3, .int (Int32.ofInt (y32_3))), (4, .int (Int32.ofInt (y32_4))), (5, .int (Int32.ofInt (y32_5)))], [.int (Int32.ofInt (v185))], M183) _
                    refine w_adv (n := 2) (F' := (69, [(7, .int (Int32.ofInt (v185))), (6, .int (Int32.ofInt ((I_32 2117)))), (0, .ref 38), (1, .int (Int32.ofInt (b))), (2, .int (Int32.ofInt (v18))), (3, .int (Int32.ofInt (y32_3))), (4, .int (Int32.ofInt (y32_4))), (5, .int (Int32.ofInt (y32_5)))], [.ref 38], M183)) rfl ?_
                    refine w_gf (v := .ref 33) hR184a rfl rfl rfl rfl ?_
                    refine w_call (cm := 118) (as := [(0, .ref 33)]) (rest := []) (o := some (5, 33)) rfl (w_fitR hR184a rfl) (c_snext hR184a) (fun r210 M211 q212 => ?_)
                    rcases q212 with ⟨e213, e214⟩
                    rw [e213, e214]
                    show w_W _ _ _ (75, [(7, .int (Int32.ofInt (v185))), (6, .int (Int32.ofInt ((I_32 2117)))), (0, .ref 38), (1, .int (Int32.ofInt (b))), (2, .int (Int32.ofInt (v18))), (3, .int (Int32.ofInt (y32_3))), (4, .int (Int32.ofInt (y32_4))), (5, .int (Int32.ofInt (y32_5)))], [.int (Int32.ofInt ((I184a 2117)))], M183) _
                    refine w_adv (n := 3) (F' := (80, [(8, .int (Int32.ofInt ((I184a 2117)))), (7, .int (Int32.ofInt (v185))), (6, .int (Int32.ofInt ((I_32 2117)))), (0, .ref 38), (1, .int (Int32.ofInt (b))), (2, .int (Int32.ofInt (v18))), (3, .int (Int32.ofInt (y32_3))), (4, .int (Int32.ofInt (y32_4))), (5, .int (Int32.ofInt (y32_5)))], [.int (Int32.ofInt (26)), .ref 38], M183)) rfl ?_
                    refine w_call (cm := 105) (as := [(0, .ref 38), (1, .int (Int32.ofInt (26)))]) (rest := []) (o := some (4, 38)) rfl (w_fitR hR184a rfl) (c_need (26) hR184a (show 4 ≤ d by omega) ⟨by omega, by omega⟩ (show l ≤ 100000 by first | assumption | omega) (show -1 ≤ (I184a 2436) ∧ ((I184a 2437) = 0 ∨ (I184a 2436) < (I184a 773)) ∧ (I184a 773) ≤ 1501 ∧ 1 ≤ 26 by first | assumption | omega)) (fun r215 M216 q217 => ?_)
                    rcases q217 with ⟨zt218, zk219, zv220, e221, hR217a, f222, f223⟩ | ⟨t224, I217b, A217b, B217b, C217b, e225, hR217b, f226, f227, f228⟩
                    · rw [e221]
                      replace hR217a : w_Rep w_TC fr X u l (w_up (w_up (w_up (w_up I184a 2436 ((I184a 2436) + 1)) 2441 (zt218)) 2437 (zk219)) 2438 (zv220)) A184a B184a C184a M216 := hR217a
                      replace f222 : ((I184a 2436) + 1 < (I184a 773) ∨ zk219 = 0) := f222
                      replace f223 : (I184a 2437) = 26 := f223
                      show w_W _ _ _ (83, [(8, .int (Int32.ofInt ((I184a 2117)))), (7, .int (Int32.ofInt (v185))), (6, .int (Int32.ofInt ((I_32 2117)))), (0, .ref 38), (1, .int (Int32.ofInt (b))), (2, .int (Int32.ofInt (v18))), (3, .int (Int32.ofInt (y32_3))), (4, .int (Int32.ofInt (y32_4))), (5, .int (Int32.ofInt (y32_5)))], [], M216) _
                      refine w_adv (n := 1) (F' := (84, [(8, .int (Int32.ofInt ((I184a 2117)))), (7, .int (Int32.ofInt (v185))), (6, .int (Int32.ofInt ((I_32 2117)))), (0, .ref 38), (1, .int (Int32.ofInt (b))), (2, .int (Int32.ofInt (v18))), (3, .int (Int32.ofInt (y32_3))), (4, .int (Int32.ofInt (y32_4))), (5, .int (Int32.ofInt (y32_5)))], [.ref 38], M216)) rfl ?_
                      refine w_gf (v := .ref 26) hR217a rfl rfl rfl rfl ?_
                      refine w_adv (n := 2) (F' := (90, [(8, .int (Int32.ofInt ((I184a 2117)))), (7, .int (Int32.ofInt (v185))), (6, .int (Int32.ofInt ((I_32 2117)))), (0, .ref 38), (1, .int (Int32.ofInt (b))), (2, .int (Int32.ofInt (v18))), (3, .int (Int32.ofInt (y32_3))), (4, .int (Int32.ofInt (y32_4))), (5, .int (Int32.ofInt (y32_5)))], [.ref 38, .int (Int32.ofInt (y32_4)), .ref 26], M216)) rfl ?_
                      refine w_gf (v := .ref 26) hR217a rfl rfl rfl rfl ?_
                      refine w_adv (n := 4) (F' := (99, [(8, .int (Int32.ofInt ((I184a 2117)))), (7, .int (Int32.ofInt (v185))), (6, .int (Int32.ofInt ((I_32 2117)))), (0, .ref 38), (1, .int (Int32.ofInt (b))), (2, .int (Int32.ofInt (v18))), (3, .int (Int32.ofInt (y32_3))), (4, .int (Int32.ofInt (y32_4))), (5, .int (Int32.ofInt (y32_5)))], [.int (Int32.ofInt (b)), .ref 38, .int (Int32.ofInt (v185)), .int (Int32.ofInt (16)), .ref 26, .int (Int32.ofInt (y32_4)), .ref 26], M216)) rfl ?_
                      refine w_call (cm := 88) (as := [(0, .ref 38), (1, .int (Int32.ofInt (b)))]) (rest := [.int (Int32.ofInt (v185)), .int (Int32.ofInt (16)), .ref 26, .int (Int32.ofInt (y32_4)), .ref 26]) (o := some (4, 38)) rfl (w_fitR hR217a rfl) ((hA d (Nat.lt_succ_self d)).2 (b) hR217a (show 10 * (24 - (I184a 2439)) + 15 ≤ (d : Int) by omega) ⟨by omega, by omega⟩ (show l ≤ 100000 by first | assumption | omega) (show (0 ≤ (I184a 2436) + 1 ∧ (I184a 2436) + 1 ≤ (I184a 773) ∧ (I184a 773) ≤ 1501 ∧ (zk219 = 0 ∨ (I184a 2436) + 1 < (I184a 773))) ∧ (0 ≤ (I184a 2439) ∧ (I184a 2439) ≤ 24 ∧ 0 ≤ (I184a 2117)) ∧ 0 ≤ (I184a 1670) ∧ (I184a 1670) ≤ 2 * ((I184a 2436) + 1) + 1 by (repeat' apply And.intro) <;> first | assumption | omega)) (fun r229 M230 q231 => ?_)
                      rcases q231 with ⟨v232, I231a, A231a, B231a, C231a, e233, ⟨r234, r235⟩, hR231a, f236, f237, f238, f239, f240⟩ | ⟨t241, I231b, A231b, B231b, C231b, e242, hR231b, f243, f244, f245⟩
                      · rw [e233]
                        replace hR231a : w_Rep w_TC fr X u l I231a A231a B231a C231a M230 := hR231a
                        replace f236 : c_fi c_ps (w_up (w_up (w_up (w_up I184a 2436 ((I184a 2436) + 1)) 2441 (zt218)) 2437 (zk219)) 2438 (zv220)) I231a := f236
                        replace f237 : c_fa c_pa A184a A231a := f237
                        replace f238 : (0 ≤ (I231a 2436) ∧ (I231a 2436) ≤ (I231a 773) ∧ ((I231a 2437) = 0 ∨ (I231a 2436) < (I231a 773))) ∧ ((I231a 773) = (I184a 773) ∧ (I231a 2439) = (I184a 2439) ∧ 0 ≤ (I231a 2117)) ∧ ((I184a 2436) + 1) + 1 ≤ (I231a 2436) ∧ (I231a 1670) + 0 ≤ (I184a 1670) + 2 * ((I231a 2436) - ((I184a 2436) + 1)) ∧ (I184a 1670) ≤ (I231a 1670) := f238
                        obtain ⟨⟨n246, n247, n248⟩, ⟨n249, n250, n251⟩, n252, n253, n254⟩ := id f238
                        clear f238
                        replace f239 : c_agl A184a A231a (I184a 1670) := f239
                        replace f240 : c_Bd A231a (c_W A231a (c_r (I184a 2439) 4)) v232 (I184a 1670) (I231a 1670) := f240
                        have k255 : c_Wn A231a (c_r (I 2439) 0) v18 (I 1670) (I17a 1670) := c_Wn_agl k207 f239 (show 0 ≤ (I 1670) by omega) (show (I17a 1670) ≤ (I184a 1670) by omega)
                        clear k207
                        have k256 : c_Chq c_P2 A231a (c_r (I 2439) 0) y32_3 y32_4 (I17a 1670) (I_32 1670) := c_Chq_agl c_P2_fam k208 f239 (show 0 ≤ (I17a 1670) by omega) (show (I_32 1670) ≤ (I184a 1670) by omega)
                        clear k208
                        have g257 : c_agl A A231a (I 1670) := c_agl_trans g209 f239 (show (I 1670) ≤ (I184a 1670) by omega)
                        have k258 : c_Bd A231a (c_W A231a (c_r (I 2439) 0)) v232 (I184a 1670) (I231a 1670) := c_Bd_up f240 (show c_r (I184a 2439) 4 ≤ c_r (I 2439) 0 by unfold c_r; omega)
                        obtain ⟨b259, b260, -⟩ := id k258
                        show w_W _ _ _ (102, [(8, .int (Int32.ofInt ((I184a 2117)))), (7, .int (Int32.ofInt (v185))), (6, .int (Int32.ofInt ((I_32 2117)))), (0, .ref 38), (1, .int (Int32.ofInt (b))), (2, .int (Int32.ofInt (v18))), (3, .int (Int32.ofInt (y32_3))), (4, .int (Int32.ofInt (y32_4))), (5, .int (Int32.ofInt (y32_5)))], [.int (Int32.ofInt (v232)), .int (Int32.ofInt (v185)), .int (Int32.ofInt (16)), .ref 26, .int (Int32.ofInt (y32_4)), .ref 26], M230) _
                        refine w_adv (n := 1) (F' := (103, [(8, .int (Int32.ofInt ((I184a 2117)))), (7, .int (Int32.ofInt (v185))), (6, .int (Int32.ofInt ((I_32 2117)))), (0, .ref 38), (1, .int (Int32.ofInt (b))), (2, .int (Int32.ofInt (v18))), (3, .int (Int32.ofInt (y32_3))), (4, .int (Int32.ofInt (y32_4))), (5, .int (Int32.ofInt (y32_5)))], [.int (Int32.ofInt ((-1))), .int (Int32.ofInt (v232)), .int (Int32.ofInt (v185)), .int (Int32.ofInt (16)), .ref 26, .int (Int32.ofInt (y32_4)), .ref 26], M230)) rfl ?_
                        refine w_call (cm := 94) (as := [(0, .ref 26), (1, .int (Int32.ofInt (16))), (2, .int (Int32.ofInt (v185))), (3, .int (Int32.ofInt (v232))), (4, .int (Int32.ofInt ((-1))))]) (rest := [.int (Int32.ofInt (y32_4)), .ref 26]) (o := some (8, 26)) rfl (w_fitR hR231a rfl) (c_mkn (16) (v185) (v232) ((-1)) hR231a (show 2 ≤ d by omega) ⟨by omega, by omega⟩ ⟨by omega, by omega⟩ ⟨by omega, by omega⟩ ⟨by omega, by omega⟩ (show 0 ≤ (I231a 1670) ∧ (I231a 1670) < 3016 by first | assumption | omega)) (fun r261 M262 q263 => ?_)
                        rcases q263 with ⟨A264, e265, hR263a, f266, f267⟩
                        rw [e265]
                        replace hR263a : w_Rep w_TC fr X u l (w_up I231a 1670 ((I231a 1670) + 1)) A264 B231a C231a M262 := hR263a
                        replace f266 : c_fa c_pa A231a A264 := f266
                        replace f267 : c_mk A231a A264 (I231a 1670) 16 v185 v232 (-1) := f267
                        have k268 := c_P2_mk (i := (c_r (I 2439) 0)) f267 (show 0 ≤ (I184a 1670) by omega) (c_BdW_win k258 (show (I184a 1670) ≤ (I184a 1670) by omega) (show (I231a 1670) ≤ (I231a 1670) by omega))
                        have k269 : c_Wn A264 (c_r (I 2439) 0) v18 (I 1670) (I17a 1670) := c_Wn_agl k255 f267.1 (show 0 ≤ (I 1670) by omega) (show (I17a 1670) ≤ (I231a 1670) by omega)
                        clear k255
                        have k270 : c_Chq c_P2 A264 (c_r (I 2439) 0) y32_3 y32_4 (I17a 1670) (I_32 1670) := c_Chq_agl c_P2_fam k256 f267.1 (show 0 ≤ (I17a 1670) by omega) (show (I_32 1670) ≤ (I231a 1670) by omega)
                        clear k256
                        have k271 : c_Bd A264 (c_W A264 (c_r (I 2439) 0)) v232 (I184a 1670) (I231a 1670) := c_Bd_agl k258 f267.1 (show 0 ≤ (I184a 1670) by omega) (show (I231a 1670) ≤ (I231a 1670) by omega)
                        clear k258
                        have g272 : c_agl A A264 (I 1670) := c_agl_trans g257 f267.1 (show (I 1670) ≤ (I231a 1670) by omega)
                        show w_W _ _ _ (106, [(8, .int (Int32.ofInt ((I184a 2117)))), (7, .int (Int32.ofInt (v185))), (6, .int (Int32.ofInt ((I_32 2117)))), (0, .ref 38), (1, .int (Int32.ofInt (b))), (2, .int (Int32.ofInt (v18))), (3, .int (Int32.ofInt (y32_3))), (4, .int (Int32.ofInt (y32_4))), (5, .int (Int32.ofInt (y32_5)))], [.int (Int32.ofInt ((I231a 1670))), .int (Int32.ofInt (y32_4)), .ref 26], M262) _
                        refine w_call (cm := 106) (as := [(0, .ref 26), (1, .int (Int32.ofInt (y32_4))), (2, .int (Int32.ofInt ((I231a 1670))))]) (rest := []) (o := some (8, 26)) rfl (w_fitR hR263a rfl) (c_chn (y32_4) ((I231a 1670)) hR263a (show 2 ≤ d by omega) ⟨by omega, by omega⟩ ⟨by omega, by omega⟩) (fun r273 M274 q275 => ?_)
                        rcases q275 with ⟨A276, e277, hR275a, f278, f279⟩
                        rw [e277]
                        replace hR275a : w_Rep w_TC fr X u l (w_up I231a 1670 ((I231a 1670) + 1)) A276 B231a C231a M274 := hR275a
                        replace f278 : c_fa c_pa A264 A276 := f278
                        replace f279 : c_nxw A264 A276 y32_4 (I231a 1670) := f279
                        have k280 : ∀ f', (y32_3 = -1 ∧ f' = (I231a 1670) ∨ y32_3 ≠ -1 ∧ f' = y32_3) → c_Chq c_P2 A276 (c_r (I 2439) 0) f' (I231a 1670) (I17a 1670) ((I231a 1670) + 1) := c_Chq_app c_P2_fam k270 (show (I_32 1670) ≤ (I184a 1670) by omega) f279 (show 0 ≤ (I17a 1670) by omega) (show (I_32 1670) ≤ 3016 by omega) (show (I184a 1670) ≤ (I231a 1670) ∧ (I231a 1670) < ((I231a 1670) + 1) by omega) k268.1 k268.2 c_P2_win
                        have g281 : c_agl A264 A276 (I17a 1670) := c_agl_nxw f279 (c_Chq_l k270)
                        have k282 : c_Wn A276 (c_r (I 2439) 0) v18 (I 1670) (I17a 1670) := c_Wn_agl k269 g281 (show 0 ≤ (I 1670) by omega) (show (I17a 1670) ≤ (I17a 1670) by omega)
                        clear k269
                        have k283 : c_Bd A276 (c_W A276 (c_r (I 2439) 0)) v232 (I184a 1670) (I231a 1670) := c_Bd_agl k271 g281 (show 0 ≤ (I184a 1670) by omega) (show (I231a 1670) ≤ (I17a 1670) by omega)
                        clear k271
                        have g284 : c_agl A A276 (I 1670) := c_agl_trans g272 g281 (show (I 1670) ≤ (I17a 1670) by omega)
                        show w_W _ _ _ (109, [(8, .int (Int32.ofInt ((I184a 2117)))), (7, .int (Int32.ofInt (v185))), (6, .int (Int32.ofInt ((I_32 2117)))), (0, .ref 38), (1, .int (Int32.ofInt (b))), (2, .int (Int32.ofInt (v18))), (3, .int (Int32.ofInt (y32_3))), (4, .int (Int32.ofInt (y32_4))), (5, .int (Int32.ofInt (y32_5)))], [.int (Int32.ofInt ((I231a 1670)))], M274) _
                        refine w_adv (n := 3) (F' := (113, [(4, .int (Int32.ofInt ((I231a 1670)))), (8, .int (Int32.ofInt ((I184a 2117)))), (7, .int (Int32.ofInt (v185))), (6, .int (Int32.ofInt ((I_32 2117)))), (0, .ref 38), (1, .int (Int32.ofInt (b))), (2, .int (Int32.ofInt (v18))), (3, .int (Int32.ofInt (y32_3))), (5, .int (Int32.ofInt (y32_5)))], [.int (Int32.ofInt ((-1))), .int (Int32.ofInt (y32_3))], M274)) rfl ?_
                        refine w_br2 (a := y32_3) (b := (-1)) rfl rfl ⟨by omega, by omega⟩ ⟨by omega, by omega⟩ (fun h285 => ?_) (fun h285 => ?_)
                        · have h285 : ¬ y32_3 = (-1) := h285
                          show w_W _ _ _ (121, [(4, .int (Int32.ofInt ((I231a 1670)))), (8, .int (Int32.ofInt ((I184a 2117)))), (7, .int (Int32.ofInt (v185))), (6, .int (Int32.ofInt ((I_32 2117)))), (0, .ref 38), (1, .int (Int32.ofInt (b))), (2, .int (Int32.ofInt (v18))), (3, .int (Int32.ofInt (y32_3))), (5, .int (Int32.ofInt (y32_5)))], [], M274) _
                          refine w_adv (n := 3) (F' := (124, [(3, .int (Int32.ofInt (y32_3))), (4, .int (Int32.ofInt ((I231a 1670)))), (8, .int (Int32.ofInt ((I184a 2117)))), (7, .int (Int32.ofInt (v185))), (6, .int (Int32.ofInt ((I_32 2117)))), (0, .ref 38), (1, .int (Int32.ofInt (b))), (2, .int (Int32.ofInt (v18))), (5, .int (Int32.ofInt (y32_5)))], [.ref 38], M274)) rfl ?_
                          refine w_gf (v := .ref 33) hR275a rfl rfl rfl rfl ?_
                          refine w_adv (n := 2) (F' := (131, [(3, .int (Int32.ofInt (y32_3))), (4, .int (Int32.ofInt ((I231a 1670)))), (8, .int (Int32.ofInt ((I184a 2117)))), (7, .int (Int32.ofInt (v185))), (6, .int (Int32.ofInt ((I_32 2117)))), (0, .ref 38), (1, .int (Int32.ofInt (b))), (2, .int (Int32.ofInt (v18))), (5, .int (Int32.ofInt (y32_5)))], [.int (Int32.ofInt ((I184a 2117))), .int (Int32.ofInt ((I_32 2117))), .ref 33], M274)) rfl ?_
                          refine w_call (cm := 121) (as := [(0, .ref 33), (1, .int (Int32.ofInt ((I_32 2117)))), (2, .int (Int32.ofInt ((I184a 2117))))]) (rest := []) (o := some (5, 33)) rfl (w_fitR hR275a rfl) (c_lv ((I_32 2117)) ((I184a 2117)) hR275a (show 1 ≤ d by omega) ⟨by omega, by omega⟩ ⟨by omega, by omega⟩ (show -5 ≤ (I_32 2117) ∧ -5 ≤ (I184a 2117) by first | assumption | omega)) (fun r286 M287 q288 => ?_)
                          rcases q288 with ⟨A289, e290, hR288a, f291, f292⟩
                          rw [e290]
                          replace hR288a : w_Rep w_TC fr X u l (w_up I231a 1670 ((I231a 1670) + 1)) A289 B231a C231a M287 := hR288a
                          replace f291 : c_fa c_pa A276 A289 := f291
                          replace f292 : c_ags A276 A289 := f292
                          have k293 : c_Wn A289 (c_r (I 2439) 0) v18 (I 1670) (I17a 1670) := c_Wn_agl k282 (c_ags_l f292 ((I231a 1670) + 1)) (show 0 ≤ (I 1670) by omega) (show (I17a 1670) ≤ ((I231a 1670) + 1) by omega)
                          clear k282
                          have k294 : c_Bd A289 (c_W A289 (c_r (I 2439) 0)) v232 (I184a 1670) (I231a 1670) := c_Bd_agl k283 (c_ags_l f292 ((I231a 1670) + 1)) (show 0 ≤ (I184a 1670) by omega) (show (I231a 1670) ≤ ((I231a 1670) + 1) by omega)
                          clear k283
                          have k295 : ∀ f', (y32_3 = -1 ∧ f' = (I231a 1670) ∨ y32_3 ≠ -1 ∧ f' = y32_3) → c_Chq c_P2 A289 (c_r (I 2439) 0) f' (I231a 1670) (I17a 1670) ((I231a 1670) + 1) := fun f' h => c_Chq_agl c_P2_fam (k280 f' h) (c_ags_l f292 ((I231a 1670) + 1)) (show 0 ≤ (I17a 1670) by omega) (show ((I231a 1670) + 1) ≤ ((I231a 1670) + 1) by omega)
                          clear k280
                          have g296 : c_agl A A289 (I 1670) := c_agl_trans g284 (c_ags_l f292 ((I231a 1670) + 1)) (show (I 1670) ≤ ((I231a 1670) + 1) by omega)
                          show w_W _ _ _ (134, [(3, .int (Int32.ofInt (y32_3))), (4, .int (Int32.ofInt ((I231a 1670)))), (8, .int (Int32.ofInt ((I184a 2117)))), (7, .int (Int32.ofInt (v185))), (6, .int (Int32.ofInt ((I_32 2117)))), (0, .ref 38), (1, .int (Int32.ofInt (b))), (2, .int (Int32.ofInt (v18))), (5, .int (Int32.ofInt (y32_5)))], [], M287) _
                          refine w_inc (nL := 9) (a := y32_5) rfl rfl rfl (by decide) ?_
                          refine w_adv (n := 1) (F' := (32, [(5, .int (Int32.ofInt (y32_5 + 1))), (3, .int (Int32.ofInt (y32_3))), (4, .int (Int32.ofInt ((I231a 1670)))), (8, .int (Int32.ofInt ((I184a 2117)))), (7, .int (Int32.ofInt (v185))), (6, .int (Int32.ofInt ((I_32 2117)))), (0, .ref 38), (1, .int (Int32.ofInt (b))), (2, .int (Int32.ofInt (v18)))], [], M287)) rfl ?_
                          refine w_ls (ls := [(0, .ref 38), (1, .int (Int32.ofInt (b))), (2, .int (Int32.ofInt (v18))), (3, .int (Int32.ofInt (y32_3))), (4, .int (Int32.ofInt ((I231a 1670)))), (5, .int (Int32.ofInt (y32_5 + 1)))]) (show List.Nodup [0, 1, 2, 3, 4, 5] by decide) (show List.Nodup [5, 3, 4, 8, 7, 6, 0, 1, 2] by decide) (List.forall_mem_cons.mpr ⟨(List.Mem.tail _ (List.Mem.tail _ (List.Mem.tail _ (List.Mem.tail _ (List.Mem.tail _ (List.Mem.tail _ (List.Mem.head _))))))), (List.forall_mem_cons.mpr ⟨(List.Mem.tail _ (List.Mem.tail _ (List.Mem.tail _ (List.Mem.tail _ (List.Mem.tail _ (List.Mem.tail _ (List.Mem.tail _ (List.Mem.head _)))))))), (List.forall_mem_cons.mpr ⟨(List.Mem.tail _ (List.Mem.tail _ (List.Mem.tail _ (List.Mem.tail _ (List.Mem.tail _ (List.Mem.tail _ (List.Mem.tail _ (List.Mem.tail _ (List.Mem.head _))))))))), (List.forall_mem_cons.mpr ⟨(List.Mem.tail _ (List.Mem.head _)), (List.forall_mem_cons.mpr ⟨(List.Mem.tail _ (List.Mem.tail _ (List.Mem.head _))), (List.forall_mem_cons.mpr ⟨(List.Mem.head _), (fun _ h => by cases h)⟩)⟩)⟩)⟩)⟩)⟩) ?_
                          exact ih32  (y32_3) ((I231a 1670)) (y32_5 + 1) (w_up I231a 1670 ((I231a 1670) + 1)) A289 B231a C231a M287 hR288a ⟨by omega, by omega⟩ ⟨by omega, by omega⟩ ⟨by omega, by omega⟩ (show c_fi c_ps I (w_up I231a 1670 ((I231a 1670) + 1)) by exact (c_fi_up (c_fi_trans (c_fi_up (c_fi_up (c_fi_up (c_fi_up (c_fi_trans (c_fi_up (c_fi_up (c_fi_up (c_fi_up hi32_0 rfl) rfl) rfl) rfl) f189) rfl) rfl) rfl) rfl) f236) rfl)) (show c_fa c_pa A A289 by exact (c_fa_trans (c_fa_trans (c_fa_trans (c_fa_trans (c_fa_trans hi32_1 f190) f237) f266) f278) f291)) (show (0 ≤ (I231a 2436) ∧ (I231a 2436) ≤ (I231a 773) ∧ ((I231a 2437) = 0 ∨ (I231a 2436) < (I231a 773))) ∧ ((I231a 773) = (I 773) ∧ (I231a 2439) = (I 2439) + 1 ∧ 0 ≤ (I231a 2117)) ∧ (I 2436) + 1 ≤ (I231a 2436) ∧ ((I231a 1670) + 1) + 2 ≤ (I 1670) + 2 * ((I231a 2436) - (I 2436)) ∧ (I 1670) ≤ (I231a 1670) + 1 by (repeat' apply And.intro) <;> first | assumption | omega) (show c_agl A A289 (I 1670) by exact g296) (show c_Wn A289 (c_r (I 2439) 0) v18 (I 1670) (I17a 1670) by exact k293) (show c_Chq c_P2 A289 (c_r (I 2439) 0) y32_3 (I231a 1670) (I17a 1670) ((I231a 1670) + 1) by exact k295 _ (by omega)) (show 0 ≤ (y32_5 + 1) ∧ (y32_5 + 1) ≤ 1500 by omega) (show 1500 - (y32_5 + 1) < (fu32 : Int) by omega)
                        · have h285 : ¬ (¬ y32_3 = (-1)) := h285
                          show w_W _ _ _ (116, [(4, .int (Int32.ofInt ((I231a 1670)))), (8, .int (Int32.ofInt ((I184a 2117)))), (7, .int (Int32.ofInt (v185))), (6, .int (Int32.ofInt ((I_32 2117)))), (0, .ref 38), (1, .int (Int32.ofInt (b))), (2, .int (Int32.ofInt (v18))), (3, .int (Int32.ofInt (y32_3))), (5, .int (Int32.ofInt (y32_5)))], [], M274) _
                          refine w_adv (n := 4) (F' := (124, [(3, .int (Int32.ofInt ((I231a 1670)))), (4, .int (Int32.ofInt ((I231a 1670)))), (8, .int (Int32.ofInt ((I184a 2117)))), (7, .int (Int32.ofInt (v185))), (6, .int (Int32.ofInt ((I_32 2117)))), (0, .ref 38), (1, .int (Int32.ofInt (b))), (2, .int (Int32.ofInt (v18))), (5, .int (Int32.ofInt (y32_5)))], [.ref 38], M274)) rfl ?_
                          refine w_gf (v := .ref 33) hR275a rfl rfl rfl rfl ?_
                          refine w_adv (n := 2) (F' := (131, [(3, .int (Int32.ofInt ((I231a 1670)))), (4, .int (Int32.ofInt ((I231a 1670)))), (8, .int (Int32.ofInt ((I184a 2117)))), (7, .int (Int32.ofInt (v185))), (6, .int (Int32.ofInt ((I_32 2117)))), (0, .ref 38), (1, .int (Int32.ofInt (b))), (2, .int (Int32.ofInt (v18))), (5, .int (Int32.ofInt (y32_5)))], [.int (Int32.ofInt ((I184a 2117))), .int (Int32.ofInt ((I_32 2117))), .ref 33], M274)) rfl ?_
                          refine w_call (cm := 121) (as := [(0, .ref 33), (1, .int (Int32.ofInt ((I_32 2117)))), (2, .int (Int32.ofInt ((I184a 2117))))]) (rest := []) (o := some (5, 33)) rfl (w_fitR hR275a rfl) (c_lv ((I_32 2117)) ((I184a 2117)) hR275a (show 1 ≤ d by omega) ⟨by omega, by omega⟩ ⟨by omega, by omega⟩ (show -5 ≤ (I_32 2117) ∧ -5 ≤ (I184a 2117) by first | assumption | omega)) (fun r297 M298 q299 => ?_)
                          rcases q299 with ⟨A300, e301, hR299a, f302, f303⟩
                          rw [e301]
                          replace hR299a : w_Rep w_TC fr X u l (w_up I231a 1670 ((I231a 1670) + 1)) A300 B231a C231a M298 := hR299a
                          replace f302 : c_fa c_pa A276 A300 := f302
                          replace f303 : c_ags A276 A300 := f303
                          have k304 : c_Wn A300 (c_r (I 2439) 0) v18 (I 1670) (I17a 1670) := c_Wn_agl k282 (c_ags_l f303 ((I231a 1670) + 1)) (show 0 ≤ (I 1670) by omega) (show (I17a 1670) ≤ ((I231a 1670) + 1) by omega)
                          clear k282
                          have k305 : c_Bd A300 (c_W A300 (c_r (I 2439) 0)) v232 (I184a 1670) (I231a 1670) := c_Bd_agl k283 (c_ags_l f303 ((I231a 1670) + 1)) (show 0 ≤ (I184a 1670) by omega) (show (I231a 1670) ≤ ((I231a 1670) + 1) by omega)
                          clear k283
                          have k306 : ∀ f', (y32_3 = -1 ∧ f' = (I231a 1670) ∨ y32_3 ≠ -1 ∧ f' = y32_3) → c_Chq c_P2 A300 (c_r (I 2439) 0) f' (I231a 1670) (I17a 1670) ((I231a 1670) + 1) := fun f' h => c_Chq_agl c_P2_fam (k280 f' h) (c_ags_l f303 ((I231a 1670) + 1)) (show 0 ≤ (I17a 1670) by omega) (show ((I231a 1670) + 1) ≤ ((I231a 1670) + 1) by omega)
                          clear k280
                          have g307 : c_agl A A300 (I 1670) := c_agl_trans g284 (c_ags_l f303 ((I231a 1670) + 1)) (show (I 1670) ≤ ((I231a 1670) + 1) by omega)
                          show w_W _ _ _ (134, [(3, .int (Int32.ofInt ((I231a 1670)))), (4, .int (Int32.ofInt ((I231a 1670)))), (8, .int (Int32.ofInt ((I184a 2117)))), (7, .int (Int32.ofInt (v185))), (6, .int (Int32.ofInt ((I_32 2117)))), (0, .ref 38), (1, .int (Int32.ofInt (b))), (2, .int (Int32.ofInt (v18))), (5, .int (Int32.ofInt (y32_5)))], [], M298) _
                          refine w_inc (nL := 9) (a := y32_5) rfl rfl rfl (by decide) ?_
                          refine w_adv (n := 1) (F' := (32, [(5, .int (Int32.ofInt (y32_5 + 1))), (3, .int (Int32.ofInt ((I231a 1670)))), (4, .int (Int32.ofInt ((I231a 1670)))), (8, .int (Int32.ofInt ((I184a 2117)))), (7, .int (Int32.ofInt (v185))), (6, .int (Int32.ofInt ((I_32 2117)))), (0, .ref 38), (1, .int (Int32.ofInt (b))), (2, .int (Int32.ofInt (v18)))], [], M298)) rfl ?_
                          refine w_ls (ls := [(0, .ref 38), (1, .int (Int32.ofInt (b))), (2, .int (Int32.ofInt (v18))), (3, .int (Int32.ofInt ((I231a 1670)))), (4, .int (Int32.ofInt ((I231a 1670)))), (5, .int (Int32.ofInt (y32_5 + 1)))]) (show List.Nodup [0, 1, 2, 3, 4, 5] by decide) (show List.Nodup [5, 3, 4, 8, 7, 6, 0, 1, 2] by decide) (List.forall_mem_cons.mpr ⟨(List.Mem.tail _ (List.Mem.tail _ (List.Mem.tail _ (List.Mem.tail _ (List.Mem.tail _ (List.Mem.tail _ (List.Mem.head _))))))), (List.forall_mem_cons.mpr ⟨(List.Mem.tail _ (List.Mem.tail _ (List.Mem.tail _ (List.Mem.tail _ (List.Mem.tail _ (List.Mem.tail _ (List.Mem.tail _ (List.Mem.head _)))))))), (List.forall_mem_cons.mpr ⟨(List.Mem.tail _ (List.Mem.tail _ (List.Mem.tail _ (List.Mem.tail _ (List.Mem.tail _ (List.Mem.tail _ (List.Mem.tail _ (List.Mem.tail _ (List.Mem.head _))))))))), (List.forall_mem_cons.mpr ⟨(List.Mem.tail _ (List.Mem.head _)), (List.forall_mem_cons.mpr ⟨(List.Mem.tail _ (List.Mem.tail _ (List.Mem.head _))), (List.forall_mem_cons.mpr ⟨(List.Mem.head _), (fun _ h => by cases h)⟩)⟩)⟩)⟩)⟩)⟩) ?_
                          exact ih32  ((I231a 1670)) ((I231a 1670)) (y32_5 + 1) (w_up I231a 1670 ((I231a 1670) + 1)) A300 B231a C231a M298 hR299a ⟨by omega, by omega⟩ ⟨by omega, by omega⟩ ⟨by omega, by omega⟩ (show c_fi c_ps I (w_up I231a 1670 ((I231a 1670) + 1)) by exact (c_fi_up (c_fi_trans (c_fi_up (c_fi_up (c_fi_up (c_fi_up (c_fi_trans (c_fi_up (c_fi_up (c_fi_up (c_fi_up hi32_0 rfl) rfl) rfl) rfl) f189) rfl) rfl) rfl) rfl) f236) rfl)) (show c_fa c_pa A A300 by exact (c_fa_trans (c_fa_trans (c_fa_trans (c_fa_trans (c_fa_trans hi32_1 f190) f237) f266) f278) f302)) (show (0 ≤ (I231a 2436) ∧ (I231a 2436) ≤ (I231a 773) ∧ ((I231a 2437) = 0 ∨ (I231a 2436) < (I231a 773))) ∧ ((I231a 773) = (I 773) ∧ (I231a 2439) = (I 2439) + 1 ∧ 0 ≤ (I231a 2117)) ∧ (I 2436) + 1 ≤ (I231a 2436) ∧ ((I231a 1670) + 1) + 2 ≤ (I 1670) + 2 * ((I231a 2436) - (I 2436)) ∧ (I 1670) ≤ (I231a 1670) + 1 by (repeat' apply And.intro) <;> first | assumption | omega) (show c_agl A A300 (I 1670) by exact g307) (show c_Wn A300 (c_r (I 2439) 0) v18 (I 1670) (I17a 1670) by exact k304) (show c_Chq c_P2 A300 (c_r (I 2439) 0) (I231a 1670) (I231a 1670) (I17a 1670) ((I231a 1670) + 1) by exact k306 _ (by omega)) (show 0 ≤ (y32_5 + 1) ∧ (y32_5 + 1) ≤ 1500 by omega) (show 1500 - (y32_5 + 1) < (fu32 : Int) by omega)
                      · rw [e242]
                        replace hR231b : w_Rep w_TC fr X (u + 6) (l + 64) I231b A231b B231b C231b M230 := hR231b
                        replace f243 : c_fi c_ps (w_up (w_up (w_up (w_up I184a 2436 ((I184a 2436) + 1)) 2441 (zt218)) 2437 (zk219)) 2438 (zv220)) I231b := f243
                        replace f244 : c_fa c_pa A184a A231b := f244
                        replace f245 : M230.1[t241]? = some (.inr (11, [])) := f245
                        exact Or.inr (⟨t241, I231b, A231b, B231b, C231b, rfl, hR231b, (show c_fi c_ps I I231b by exact (c_fi_trans (c_fi_up (c_fi_up (c_fi_up (c_fi_up (c_fi_trans (c_fi_up (c_fi_up (c_fi_up (c_fi_up hi32_0 rfl) rfl) rfl) rfl) f189) rfl) rfl) rfl) rfl) f243)), (show c_fa c_pa A A231b by exact (c_fa_trans (c_fa_trans hi32_1 f190) f244)), (show M230.1[t241]? = some (.inr (11, [])) by exact f245)⟩)
                    · rw [e225]
                      replace hR217b : w_Rep w_TC fr X (u + 6) (l + 64) I217b A217b B217b C217b M216 := hR217b
                      replace f226 : c_fi c_ps I184a I217b := f226
                      replace f227 : c_fa c_pa A184a A217b := f227
                      replace f228 : M216.1[t224]? = some (.inr (11, [])) := f228
                      exact Or.inr (⟨t224, I217b, A217b, B217b, C217b, rfl, hR217b, (show c_fi c_ps I I217b by exact (c_fi_trans (c_fi_trans (c_fi_up (c_fi_up (c_fi_up (c_fi_up hi32_0 rfl) rfl) rfl) rfl) f189) f226)), (show c_fa c_pa A A217b by exact (c_fa_trans (c_fa_trans hi32_1 f190) f227)), (show M216.1[t224]? = some (.inr (11, [])) by exact f228)⟩)
                  · rw [e194]
                    replace hR184b : w_Rep w_TC fr X (u + 6) (l + 64) I184b A184b B184b C184b M183 := hR184b
                    replace f195 : c_fi c_ps (w_up (w_up (w_up (w_up I_32 2436 ((I_32 2436) + 1)) 2441 (zt167)) 2437 (zk168)) 2438 (zv169)) I184b := f195
                    replace f196 : c_fa c_pa A_32 A184b := f196
                    replace f197 : M183.1[t193]? = some (.inr (11, [])) := f197
                    exact Or.inr (⟨t193, I184b, A184b, B184b, C184b, rfl, hR184b, (show c_fi c_ps I I184b by exact (c_fi_trans (c_fi_up (c_fi_up (c_fi_up (c_fi_up hi32_0 rfl) rfl) rfl) rfl) f195)), (show c_fa c_pa A A184b by exact (c_fa_trans hi32_1 f196)), (show M183.1[t193]? = some (.inr (11, [])) by exact f197)⟩)
                · rw [e173]
                  replace hR166b : w_Rep w_TC fr X (u + 6) (l + 64) I166b A166b B166b C166b M165 := hR166b
                  replace f174 : c_fi c_ps I_32 I166b := f174
                  replace f175 : c_fa c_pa A_32 A166b := f175
                  replace f176 : M165.1[t172]? = some (.inr (11, [])) := f176
                  exact Or.inr (⟨t172, I166b, A166b, B166b, C166b, rfl, hR166b, (show c_fi c_ps I I166b by exact (c_fi_trans hi32_0 f174)), (show c_fa c_pa A A166b by exact (c_fa_trans hi32_1 f175)), (show M165.1[t172]? = some (.inr (11, [])) by exact f176)⟩)
        refine w_ls (ls := [(0, .ref 38), (1, .int (Int32.ofInt (b))), (2, .int (Int32.ofInt (v18))), (3, .int (Int32.ofInt ((-1)))), (4, .int (Int32.ofInt ((-1)))), (5, .int (Int32.ofInt (0)))]) (show List.Nodup [0, 1, 2, 3, 4, 5] by decide) (show List.Nodup [5, 4, 3, 2, 0, 1] by decide) (List.forall_mem_cons.mpr ⟨(List.Mem.tail _ (List.Mem.tail _ (List.Mem.tail _ (List.Mem.tail _ (List.Mem.head _))))), (List.forall_mem_cons.mpr ⟨(List.Mem.tail _ (List.Mem.tail _ (List.Mem.tail _ (List.Mem.tail _ (List.Mem.tail _ (List.Mem.head _)))))), (List.forall_mem_cons.mpr ⟨(List.Mem.tail _ (List.Mem.tail _ (List.Mem.tail _ (List.Mem.head _)))), (List.forall_mem_cons.mpr ⟨(List.Mem.tail _ (List.Mem.tail _ (List.Mem.head _))), (List.forall_mem_cons.mpr ⟨(List.Mem.tail _ (List.Mem.head _)), (List.forall_mem_cons.mpr ⟨(List.Mem.head _), (fun _ h => by cases h)⟩)⟩)⟩)⟩)⟩)⟩) ?_
        exact lp32 ((1500 - 0 : Int).toNat + 1)  ((-1)) ((-1)) (0) I17a A17a B17a C17a M16 hR17a ⟨by omega, by omega⟩ ⟨by omega, by omega⟩ ⟨by omega, by omega⟩ (show c_fi c_ps I I17a by exact (c_fi_trans (c_fi_up (c_fi_up (c_fi_up (c_fi_up (c_fi_up c_fi_refl rfl) rfl) rfl) rfl) rfl) f22)) (show c_fa c_pa A A17a by exact f23) (show (0 ≤ (I17a 2436) ∧ (I17a 2436) ≤ (I17a 773) ∧ ((I17a 2437) = 0 ∨ (I17a 2436) < (I17a 773))) ∧ ((I17a 773) = (I 773) ∧ (I17a 2439) = (I 2439) + 1 ∧ 0 ≤ (I17a 2117)) ∧ (I 2436) + 1 ≤ (I17a 2436) ∧ (I17a 1670) + 2 ≤ (I 1670) + 2 * ((I17a 2436) - (I 2436)) ∧ (I 1670) ≤ (I17a 1670) by (repeat' apply And.intro) <;> first | assumption | omega) (show c_agl A A17a (I 1670) by exact g41) (show c_Wn A17a (c_r (I 2439) 0) v18 (I 1670) (I17a 1670) by exact k42) (show c_Chq c_P2 A17a (c_r (I 2439) 0) (((-1) : Int)) (((-1) : Int)) (I17a 1670) (I17a 1670) by exact c_Chq_nil (show (I17a 1670) ≤ (I17a 1670) by omega)) (show 0 ≤ (0 : Int) ∧ (0 : Int) ≤ 1500 by omega) (show 1500 - 0 < (((1500 - 0 : Int).toNat + 1 : Nat) : Int) by omega)
      · have h47 : ¬ ((I17a 2437) = 29) := h47
        show w_W _ _ _ (18, [(2, .int (Int32.ofInt (v18))), (0, .ref 38), (1, .int (Int32.ofInt (b)))], [], M16) _
        refine w_adv (n := 2) (F' := (20, [(2, .int (Int32.ofInt (v18))), (0, .ref 38), (1, .int (Int32.ofInt (b)))], [.int (Int32.ofInt (1)), .ref 38], M16)) rfl ?_
        refine w_call (cm := 100) (as := [(0, .ref 38), (1, .int (Int32.ofInt (1)))]) (rest := []) (o := some (4, 38)) rfl (w_fitR hR17a rfl) (c_fail (1) hR17a ⟨by omega, by omega⟩ (show l ≤ 100000 by first | assumption | omega) (show 1 ≤ 1 ∧ 1 ≤ 7 by first | assumption | omega)) (fun r308 M309 q310 => ?_)
        rcases q310 with ⟨t311, I310a, A310a, B310a, C310a, e312, hR310a, f313, f314, f315⟩
        rw [e312]
        replace hR310a : w_Rep w_TC fr X (u + 6) (l + 64) I310a A310a B310a C310a M309 := hR310a
        replace f313 : c_fi c_ps I17a I310a := f313
        replace f314 : c_fa c_pa A17a A310a := f314
        replace f315 : M309.1[t311]? = some (.inr (11, [])) := f315
        exact Or.inr (⟨t311, I310a, A310a, B310a, C310a, rfl, hR310a, (show c_fi c_ps I I310a by exact (c_fi_trans (c_fi_trans (c_fi_up (c_fi_up (c_fi_up (c_fi_up (c_fi_up c_fi_refl rfl) rfl) rfl) rfl) rfl) f22) f313)), (show c_fa c_pa A A310a by exact (c_fa_trans f23 f314)), (show M309.1[t311]? = some (.inr (11, [])) by exact f315)⟩)
    · rw [e28]
      replace hR17b : w_Rep w_TC fr X (u + 6) (l + 64) I17b A17b B17b C17b M16 := hR17b
      replace f29 : c_fi c_ps (w_up (w_up (w_up (w_up (w_up I 2436 ((I 2436) + 1)) 2441 (zt4)) 2437 (zk5)) 2438 (zv6)) 2439 ((I 2439) + 1)) I17b := f29
      replace f30 : c_fa c_pa A A17b := f30
      replace f31 : M16.1[t27]? = some (.inr (11, [])) := f31
      skip
      exact Or.inr (⟨t27, I17b, A17b, B17b, C17b, rfl, hR17b, (show c_fi c_ps I I17b by exact (c_fi_trans (c_fi_up (c_fi_up (c_fi_up (c_fi_up (c_fi_up c_fi_refl rfl) rfl) rfl) rfl) rfl) f29)), (show c_fa c_pa A A17b by exact f30), (show M16.1[t27]? = some (.inr (11, [])) by exact f31)⟩)
  · rw [e11]
    replace hR3b : w_Rep w_TC fr X (u + 6) (l + 64) I3b A3b B3b C3b M2 := hR3b
    replace f12 : c_fi c_ps I I3b := f12
    replace f13 : c_fa c_pa A A3b := f13
    replace f14 : M2.1[t10]? = some (.inr (11, [])) := f14
    exact Or.inr (⟨t10, I3b, A3b, B3b, C3b, rfl, hR3b, (show c_fi c_ps I I3b by exact f12), (show c_fa c_pa A A3b by exact f13), (show M2.1[t10]? = some (.inr (11, [])) by exact f14)⟩)
