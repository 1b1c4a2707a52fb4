/-! PARSER of the class: blocks. -/
/-! c_block -/
set_option maxHeartbeats 100000000 in
set_option maxRecDepth 100000 in
theorem c_block {L : Nat} {xs : Nat → Int32} {d : Nat} {fr : Nat → Bool} {X : Nat → Option (q_C (Nat → Int32))} {u l : Nat} {I : Nat → Int} {A : Nat → Int → Int} {B C : Nat → Nat} {M : w_M} (hA : c_ALL L xs d) (b : Int) (hR : w_Rep w_TC fr X u l I A B C M) (hd : 10 * (24 - (I 2439)) + 15 ≤ (d : Int)) (r_b : w_in b) (hl : l ≤ 100000) (hNU : (0 ≤ (I 2436) ∧ (I 2436) ≤ (I 773) ∧ (I 773) ≤ 1501 ∧ ((I 2437) = 0 ∨ (I 2436) < (I 773))) ∧ (0 ≤ (I 2439) ∧ (I 2439) ≤ 24 ∧ 0 ≤ (I 2117)) ∧ 0 ≤ (I 1670) ∧ (I 1670) ≤ 2 * (I 2436) + 1) : w_W (z_P L xs) d 88 (0, [(0, .ref 38), (1, .int (Int32.ofInt (b)))], [], M) (c_block_Q fr X u l I A B C M b) := by
  obtain ⟨ra_b, rb_b⟩ := r_b
  obtain ⟨d, rfl⟩ : ∃ d0, d = d0 + 1 := ⟨d - 1, by omega⟩
  refine w_adv (n := 1) (F' := (1, [(0, .ref 38), (1, .int (Int32.ofInt (b)))], [.int (Int32.ofInt (b))], M)) rfl ?_
  refine w_br1 (a := b) rfl rfl ⟨by omega, by omega⟩ (fun h1 => ?_) (fun h1 => ?_)
  · have h1 : b = 0 := h1
    show w_W _ _ _ (29, [(0, .ref 38), (1, .int (Int32.ofInt (b)))], [], M) _
    refine w_adv (n := 1) (F' := (30, [(0, .ref 38), (1, .int (Int32.ofInt (b)))], [.int (Int32.ofInt (b))], M)) rfl ?_
    refine w_br1 (a := b) rfl rfl ⟨by omega, by omega⟩ (fun h2 => ?_) (fun h2 => ?_)
    · have h2 : b = 0 := h2
      show w_W _ _ _ (37, [(0, .ref 38), (1, .int (Int32.ofInt (b)))], [], M) _
      refine w_adv (n := 1) (F' := (38, [(0, .ref 38), (1, .int (Int32.ofInt (b)))], [.ref 38], M)) rfl ?_
      refine w_call (cm := 133) (as := [(0, .ref 38)]) (rest := []) (o := some (4, 38)) rfl (w_fitR hR rfl) (c_oneItem (c_ALL_dn hA) hR (show 10 * (24 - (I 2439)) + 14 ≤ (d : Int) by omega) (show l ≤ 100000 by first | assumption | omega) (show (0 ≤ (I 2436) ∧ (I 2436) ≤ (I 773) ∧ (I 773) ≤ 1501 ∧ ((I 2437) = 0 ∨ (I 2436) < (I 773))) ∧ (0 ≤ (I 2439) ∧ (I 2439) ≤ 24 ∧ 0 ≤ (I 2117)) ∧ 0 ≤ (I 1670) ∧ (I 1670) ≤ 2 * (I 2436) + 1 by (repeat' apply And.intro) <;> first | assumption | omega)) (fun r3 M4 q5 => ?_)
      rcases q5 with ⟨v6, I5a, A5a, B5a, C5a, e7, ⟨r8, r9⟩, hR5a, f10, f11, f12, f13, f14⟩ | ⟨t15, I5b, A5b, B5b, C5b, e16, hR5b, f17, f18, f19⟩
      · rw [e7]
        replace hR5a : w_Rep w_TC fr X u l I5a A5a B5a C5a M4 := hR5a
        replace f10 : c_fi c_ps I I5a := f10
        replace f11 : c_fa c_pa A A5a := f11
        replace f12 : (0 ≤ (I5a 2436) ∧ (I5a 2436) ≤ (I5a 773) ∧ ((I5a 2437) = 0 ∨ (I5a 2436) < (I5a 773))) ∧ ((I5a 773) = (I 773) ∧ (I5a 2439) = (I 2439) ∧ 0 ≤ (I5a 2117)) ∧ (I 2436) + 1 ≤ (I5a 2436) ∧ (I5a 1670) + 1 ≤ (I 1670) + 2 * ((I5a 2436) - (I 2436)) ∧ (I 1670) ≤ (I5a 1670) := f12
        obtain ⟨⟨n20, n21, n22⟩, ⟨n23, n24, n25⟩, n26, n27, n28⟩ := id f12
        clear f12
        replace f13 : c_agl A A5a (I 1670) := f13
        replace f14 : c_Wn A5a (c_r (I 2439) 4) v6 (I 1670) (I5a 1670) := f14
        have g29 : c_agl A A5a (I 1670) := c_agl_trans c_agl_refl f13 (show (I 1670) ≤ (I 1670) by omega)
        have k30 : c_Wn A5a (c_r (I 2439) 4) v6 (I 1670) (I5a 1670) := c_Wn_up f14 (show c_r (I 2439) 4 ≤ c_r (I 2439) 4 by unfold c_r; omega)
        obtain ⟨b31, b32⟩ := c_W_in k30.1
        show w_W _ _ _ (41, [(0, .ref 38), (1, .int (Int32.ofInt (b)))], [.int (Int32.ofInt (v6))], M4) _
        refine w_adv (n := 5) (F' := (47, [(4, .int (Int32.ofInt (0))), (3, .int (Int32.ofInt (v6))), (2, .int (Int32.ofInt (v6))), (0, .ref 38), (1, .int (Int32.ofInt (b)))], [], M4)) rfl ?_
        have lp47 : ∀ fu47 : Nat, ∀ (y47_3 : Int) (y47_4 : Int) (I_47 : Nat → Int) (A_47 : Nat → Int → Int) (B_47 C_47 : Nat → Nat) (M_47 : w_M) (hR_47 : w_Rep w_TC fr X u l I_47 A_47 B_47 C_47 M_47), w_in y47_3 → w_in y47_4 → c_fi c_ps I I_47 → c_fa c_pa A A_47 → (0 ≤ (I_47 2436) ∧ (I_47 2436) ≤ (I_47 773) ∧ ((I_47 2437) = 0 ∨ (I_47 2436) < (I_47 773))) ∧ ((I_47 773) = (I 773) ∧ ((b = 0 ∧ (I_47 2439) = (I 2439)) ∨ (¬ b = 0 ∧ (I_47 2439) = (I 2439) + 1)) ∧ 0 ≤ (I_47 2117)) ∧ (I 2436) + 1 ≤ (I_47 2436) ∧ (I_47 1670) + 1 ≤ (I 1670) + 2 * ((I_47 2436) - (I 2436)) ∧ (I 1670) ≤ (I_47 1670) → c_agl A A_47 (I 1670) → c_Chq c_P0 A_47 (c_r (I 2439) 4) v6 y47_3 (I 1670) (I_47 1670) → 0 ≤ y47_4 ∧ y47_4 ≤ 1500 → 1500 - y47_4 < (fu47 : Int) → w_W (z_P L xs) (d + 1) 88 (47, [(0, .ref 38), (1, .int (Int32.ofInt (b))), (2, .int (Int32.ofInt (v6))), (3, .int (Int32.ofInt (y47_3))), (4, .int (Int32.ofInt (y47_4)))], [], M_47) (c_block_Q fr X u l I A B C M b) := by
          intro fu47
          induction fu47 with
          | zero =>
            intro y47_3 y47_4 I_47 A_47 B_47 C_47 M_47 hR_47 ⟨ra_y47_3, rb_y47_3⟩ ⟨ra_y47_4, rb_y47_4⟩ hi47_0 hi47_1 hi47_2 hi47_3 hi47_4 hi47_5 hn47
            exfalso
            omega
          | succ fu47 ih47 =>
            intro y47_3 y47_4 I_47 A_47 B_47 C_47 M_47 hR_47 ⟨ra_y47_3, rb_y47_3⟩ ⟨ra_y47_4, rb_y47_4⟩ hi47_0 hi47_1 hi47_2 hi47_3 hi47_4 hi47_5 hn47
            refine w_adv (n := 2) (F' := (52, [(0, .ref 38), (1, .int (Int32.ofInt (b))), (2, .int (Int32.ofInt (v6))), (3, .int (Int32.ofInt (y47_3))), (4, .int (Int32.ofInt (y47_4)))], [.int (Int32.ofInt (1500)), .int (Int32.ofInt (y47_4))], M_47)) rfl ?_
            refine w_br2 (a := y47_4) (b := 1500) rfl rfl ⟨by omega, by omega⟩ ⟨by omega, by omega⟩ (fun h33 => ?_) (fun h33 => ?_)
            · have h33 : y47_4 ≥ 1500 := h33
              show w_W _ _ _ (84, [(0, .ref 38), (1, .int (Int32.ofInt (b))), (2, .int (Int32.ofInt (v6))), (3, .int (Int32.ofInt (y47_3))), (4, .int (Int32.ofInt (y47_4)))], [], M_47) _
              refine w_adv (n := 1) (F' := (85, [(0, .ref 38), (1, .int (Int32.ofInt (b))), (2, .int (Int32.ofInt (v6))), (3, .int (Int32.ofInt (y47_3))), (4, .int (Int32.ofInt (y47_4)))], [.int (Int32.ofInt (b))], M_47)) rfl ?_
              refine w_br1 (a := b) rfl rfl ⟨by omega, by omega⟩ (fun h34 => ?_) (fun h34 => ?_)
              · have h34 : ¬ b = 0 := h34
                show w_W _ _ _ (101, [(0, .ref 38), (1, .int (Int32.ofInt (b))), (2, .int (Int32.ofInt (v6))), (3, .int (Int32.ofInt (y47_3))), (4, .int (Int32.ofInt (y47_4)))], [], M_47) _
                refine w_adv (n := 2) (F' := (104, [(0, .ref 38), (1, .int (Int32.ofInt (b))), (2, .int (Int32.ofInt (v6))), (3, .int (Int32.ofInt (y47_3))), (4, .int (Int32.ofInt (y47_4)))], [.int (Int32.ofInt (23)), .ref 38], M_47)) rfl ?_
                refine w_call (cm := 113) (as := [(0, .ref 38), (1, .int (Int32.ofInt (23)))]) (rest := []) (o := some (4, 38)) rfl (w_fitR hR_47 rfl) (c_close (23) hR_47 (show 4 ≤ d by omega) ⟨by omega, by omega⟩ (show l ≤ 100000 by first | assumption | omega) (show -1 ≤ (I_47 2436) ∧ ((I_47 2437) = 0 ∨ (I_47 2436) < (I_47 773)) ∧ (I_47 773) ≤ 1501 ∧ 1 ≤ 23 by first | assumption | omega) (show 0 ≤ (I_47 2439) ∧ (I_47 2439) ≤ 24 by first | assumption | omega)) (fun r35 M36 q37 => ?_)
                rcases q37 with ⟨zt38, zk39, zv40, e41, hR37a, f42, f43⟩ | ⟨t44, I37b, A37b, B37b, C37b, e45, hR37b, f46, f47, f48⟩
                · rw [e41]
                  replace hR37a : w_Rep w_TC fr X u l (w_up (w_up (w_up (w_up (w_up I_47 2436 ((I_47 2436) + 1)) 2441 (zt38)) 2437 (zk39)) 2438 (zv40)) 2439 ((I_47 2439) - 1)) A_47 B_47 C_47 M36 := hR37a
                  replace f42 : ((I_47 2436) + 1 < (I_47 773) ∨ zk39 = 0) := f42
                  replace f43 : (I_47 2437) = 23 := f43
                  show w_W _ _ _ (107, [(0, .ref 38), (1, .int (Int32.ofInt (b))), (2, .int (Int32.ofInt (v6))), (3, .int (Int32.ofInt (y47_3))), (4, .int (Int32.ofInt (y47_4)))], [], M36) _
                  refine w_adv (n := 1) (F' := (108, [(0, .ref 38), (1, .int (Int32.ofInt (b))), (2, .int (Int32.ofInt (v6))), (3, .int (Int32.ofInt (y47_3))), (4, .int (Int32.ofInt (y47_4)))], [.ref 38], M36)) rfl ?_
                  refine w_gf (v := .ref 26) hR37a rfl rfl rfl rfl ?_
                  refine w_adv (n := 3) (F' := (115, [(0, .ref 38), (1, .int (Int32.ofInt (b))), (2, .int (Int32.ofInt (v6))), (3, .int (Int32.ofInt (y47_3))), (4, .int (Int32.ofInt (y47_4)))], [.ref 38, .int (Int32.ofInt (v6)), .int (Int32.ofInt (25)), .ref 26], M36)) rfl ?_
                  refine w_call (cm := 89) (as := [(0, .ref 38)]) (rest := [.int (Int32.ofInt (v6)), .int (Int32.ofInt (25)), .ref 26]) (o := some (4, 38)) rfl (w_fitR hR37a rfl) ((hA d (Nat.lt_succ_self d)).1 hR37a (show 10 * (24 - ((I_47 2439) - 1)) + 13 ≤ (d : Int) by omega) (show l ≤ 100000 by first | assumption | omega) (show (0 ≤ (I_47 2436) + 1 ∧ (I_47 2436) + 1 ≤ (I_47 773) ∧ (I_47 773) ≤ 1501 ∧ (zk39 = 0 ∨ (I_47 2436) + 1 < (I_47 773))) ∧ (0 ≤ (I_47 2439) - 1 ∧ (I_47 2439) - 1 ≤ 24 ∧ 0 ≤ (I_47 2117)) ∧ 0 ≤ (I_47 1670) ∧ (I_47 1670) ≤ 2 * ((I_47 2436) + 1) + 1 by (repeat' apply And.intro) <;> first | assumption | omega)) (fun r49 M50 q51 => ?_)
                  rcases q51 with ⟨v52, I51a, A51a, B51a, C51a, e53, ⟨r54, r55⟩, hR51a, f56, f57, f58, f59, f60⟩ | ⟨t61, I51b, A51b, B51b, C51b, e62, hR51b, f63, f64, f65⟩
                  · rw [e53]
                    replace hR51a : w_Rep w_TC fr X u l I51a A51a B51a C51a M50 := hR51a
                    replace f56 : c_fi c_ps (w_up (w_up (w_up (w_up (w_up I_47 2436 ((I_47 2436) + 1)) 2441 (zt38)) 2437 (zk39)) 2438 (zv40)) 2439 ((I_47 2439) - 1)) I51a := f56
                    replace f57 : c_fa c_pa A_47 A51a := f57
                    replace f58 : (0 ≤ (I51a 2436) ∧ (I51a 2436) ≤ (I51a 773) ∧ ((I51a 2437) = 0 ∨ (I51a 2436) < (I51a 773))) ∧ ((I51a 773) = (I_47 773) ∧ (I51a 2439) = (I_47 2439) - 1 ∧ 0 ≤ (I51a 2117)) ∧ ((I_47 2436) + 1) + 1 ≤ (I51a 2436) ∧ (I51a 1670) + 1 ≤ (I_47 1670) + 2 * ((I51a 2436) - ((I_47 2436) + 1)) ∧ (I_47 1670) ≤ (I51a 1670) := f58
                    obtain ⟨⟨n66, n67, n68⟩, ⟨n69, n70, n71⟩, n72, n73, n74⟩ := id f58
                    clear f58
                    replace f59 : c_agl A_47 A51a (I_47 1670) := f59
                    replace f60 : c_Wn A51a (c_r ((I_47 2439) - 1) 3) v52 (I_47 1670) (I51a 1670) := f60
                    have k75 : c_Chq c_P0 A51a (c_r (I 2439) 4) v6 y47_3 (I 1670) (I_47 1670) := c_Chq_agl c_P0_fam hi47_4 f59 (show 0 ≤ (I 1670) by omega) (show (I_47 1670) ≤ (I_47 1670) by omega)
                    clear hi47_4
                    have g76 : c_agl A A51a (I 1670) := c_agl_trans hi47_3 f59 (show (I 1670) ≤ (I_47 1670) by omega)
                    have k77 : c_Wn A51a (c_r (I 2439) 4) v52 (I_47 1670) (I51a 1670) := c_Wn_up f60 (show c_r ((I_47 2439) - 1) 3 ≤ c_r (I 2439) 4 by unfold c_r; omega)
                    obtain ⟨b78, b79⟩ := c_W_in k77.1
                    show w_W _ _ _ (118, [(0, .ref 38), (1, .int (Int32.ofInt (b))), (2, .int (Int32.ofInt (v6))), (3, .int (Int32.ofInt (y47_3))), (4, .int (Int32.ofInt (y47_4)))], [.int (Int32.ofInt (v52)), .int (Int32.ofInt (v6)), .int (Int32.ofInt (25)), .ref 26], M50) _
                    refine w_adv (n := 1) (F' := (119, [(0, .ref 38), (1, .int (Int32.ofInt (b))), (2, .int (Int32.ofInt (v6))), (3, .int (Int32.ofInt (y47_3))), (4, .int (Int32.ofInt (y47_4)))], [.int (Int32.ofInt ((-1))), .int (Int32.ofInt (v52)), .int (Int32.ofInt (v6)), .int (Int32.ofInt (25)), .ref 26], M50)) rfl ?_
                    refine w_call (cm := 94) (as := [(0, .ref 26), (1, .int (Int32.ofInt (25))), (2, .int (Int32.ofInt (v6))), (3, .int (Int32.ofInt (v52))), (4, .int (Int32.ofInt ((-1))))]) (rest := []) (o := some (8, 26)) rfl (w_fitR hR51a rfl) (c_mkn (25) (v6) (v52) ((-1)) hR51a (show 2 ≤ d by omega) ⟨by omega, by omega⟩ ⟨by omega, by omega⟩ ⟨by omega, by omega⟩ ⟨by omega, by omega⟩ (show 0 ≤ (I51a 1670) ∧ (I51a 1670) < 3016 by first | assumption | omega)) (fun r80 M81 q82 => ?_)
                    rcases q82 with ⟨A83, e84, hR82a, f85, f86⟩
                    rw [e84]
                    replace hR82a : w_Rep w_TC fr X u l (w_up I51a 1670 ((I51a 1670) + 1)) A83 B51a C51a M81 := hR82a
                    replace f85 : c_fa c_pa A51a A83 := f85
                    replace f86 : c_mk A51a A83 (I51a 1670) 25 v6 v52 (-1) := f86
                    have k87 : c_Bd A83 (c_W A83 (c_r (I 2439) 4)) (I51a 1670) (I 1670) ((I51a 1670) + 1) := c_Bd_mk f86 (show 0 ≤ (I 1670) by omega) ((c_Chq_end k75)) (show (I_47 1670) ≤ (I51a 1670) by omega) (Or.inr (c_Wn_win k77 (show (I_47 1670) ≤ (I_47 1670) by omega) (show (I51a 1670) ≤ (I51a 1670) by omega)).1)
                    have k88 : c_Chq c_P0 A83 (c_r (I 2439) 4) v6 y47_3 (I 1670) (I_47 1670) := c_Chq_agl c_P0_fam k75 f86.1 (show 0 ≤ (I 1670) by omega) (show (I_47 1670) ≤ (I51a 1670) by omega)
                    clear k75
                    have k89 : c_Wn A83 (c_r (I 2439) 4) v52 (I_47 1670) (I51a 1670) := c_Wn_agl k77 f86.1 (show 0 ≤ (I_47 1670) by omega) (show (I51a 1670) ≤ (I51a 1670) by omega)
                    clear k77
                    have g90 : c_agl A A83 (I 1670) := c_agl_trans g76 f86.1 (show (I 1670) ≤ (I51a 1670) by omega)
                    show w_W _ _ _ (122, [(0, .ref 38), (1, .int (Int32.ofInt (b))), (2, .int (Int32.ofInt (v6))), (3, .int (Int32.ofInt (y47_3))), (4, .int (Int32.ofInt (y47_4)))], [.int (Int32.ofInt ((I51a 1670)))], M81) _
                    refine w_fin (r := .inl (some ((I51a 1670)))) (M' := M81) rfl ?_
                    exact Or.inl ⟨(I51a 1670), (w_up I51a 1670 ((I51a 1670) + 1)), A83, B51a, C51a, rfl, ⟨by omega, by omega⟩, hR82a, (show c_fi c_ps I (w_up I51a 1670 ((I51a 1670) + 1)) by exact (c_fi_up (c_fi_trans (c_fi_up (c_fi_up (c_fi_up (c_fi_up (c_fi_up hi47_0 rfl) rfl) rfl) rfl) rfl) f56) rfl)), (show c_fa c_pa A A83 by exact (c_fa_trans (c_fa_trans hi47_1 f57) f85)), (show (0 ≤ (I51a 2436) ∧ (I51a 2436) ≤ (I51a 773) ∧ ((I51a 2437) = 0 ∨ (I51a 2436) < (I51a 773))) ∧ ((I51a 773) = (I 773) ∧ (I51a 2439) = (I 2439) ∧ 0 ≤ (I51a 2117)) ∧ (I 2436) + 1 ≤ (I51a 2436) ∧ ((I51a 1670) + 1) + 0 ≤ (I 1670) + 2 * ((I51a 2436) - (I 2436)) ∧ (I 1670) ≤ (I51a 1670) + 1 by (repeat' apply And.intro) <;> first | assumption | omega), (show c_agl A A83 (I 1670) by exact g90), (show c_Bd A83 (c_W A83 (c_r (I 2439) 4)) (I51a 1670) (I 1670) ((I51a 1670) + 1) by exact c_BdW_win k87 (show (I 1670) ≤ (I 1670) by omega) (show ((I51a 1670) + 1) ≤ ((I51a 1670) + 1) by omega))⟩
                  · rw [e62]
                    replace hR51b : w_Rep w_TC fr X (u + 6) (l + 64) I51b A51b B51b C51b M50 := hR51b
                    replace f63 : c_fi c_ps (w_up (w_up (w_up (w_up (w_up I_47 2436 ((I_47 2436) + 1)) 2441 (zt38)) 2437 (zk39)) 2438 (zv40)) 2439 ((I_47 2439) - 1)) I51b := f63
                    replace f64 : c_fa c_pa A_47 A51b := f64
                    replace f65 : M50.1[t61]? = some (.inr (11, [])) := f65
                    exact Or.inr (⟨t61, I51b, A51b, B51b, C51b, rfl, hR51b, (show c_fi c_ps I I51b by exact (c_fi_trans (c_fi_up (c_fi_up (c_fi_up (c_fi_up (c_fi_up hi47_0 rfl) rfl) rfl) rfl) rfl) f63)), (show c_fa c_pa A A51b by exact (c_fa_trans hi47_1 f64)), (show M50.1[t61]? = some (.inr (11, [])) by exact f65)⟩)
                · rw [e45]
                  replace hR37b : w_Rep w_TC fr X (u + 6) (l + 64) I37b A37b B37b C37b M36 := hR37b
                  replace f46 : c_fi c_ps I_47 I37b := f46
                  replace f47 : c_fa c_pa A_47 A37b := f47
                  replace f48 : M36.1[t44]? = some (.inr (11, [])) := f48
                  exact Or.inr (⟨t44, I37b, A37b, B37b, C37b, rfl, hR37b, (show c_fi c_ps I I37b by exact (c_fi_trans hi47_0 f46)), (show c_fa c_pa A A37b by exact (c_fa_trans hi47_1 f47)), (show M36.1[t44]? = some (.inr (11, [])) by exact f48)⟩)
              · have h34 : ¬ (¬ b = 0) := h34
                show w_W _ _ _ (88, [(0, .ref 38), (1, .int (Int32.ofInt (b))), (2, .int (Int32.ofInt (v6))), (3, .int (Int32.ofInt (y47_3))), (4, .int (Int32.ofInt (y47_4)))], [], M_47) _
                refine w_adv (n := 1) (F' := (89, [(0, .ref 38), (1, .int (Int32.ofInt (b))), (2, .int (Int32.ofInt (v6))), (3, .int (Int32.ofInt (y47_3))), (4, .int (Int32.ofInt (y47_4)))], [.ref 38], M_47)) rfl ?_
                refine w_gf (v := .ref 26) hR_47 rfl rfl rfl rfl ?_
                refine w_adv (n := 4) (F' := (97, [(0, .ref 38), (1, .int (Int32.ofInt (b))), (2, .int (Int32.ofInt (v6))), (3, .int (Int32.ofInt (y47_3))), (4, .int (Int32.ofInt (y47_4)))], [.int (Int32.ofInt ((-1))), .int (Int32.ofInt ((-1))), .int (Int32.ofInt (v6)), .int (Int32.ofInt (25)), .ref 26], M_47)) rfl ?_
                refine w_call (cm := 94) (as := [(0, .ref 26), (1, .int (Int32.ofInt (25))), (2, .int (Int32.ofInt (v6))), (3, .int (Int32.ofInt ((-1)))), (4, .int (Int32.ofInt ((-1))))]) (rest := []) (o := some (8, 26)) rfl (w_fitR hR_47 rfl) (c_mkn (25) (v6) ((-1)) ((-1)) hR_47 (show 2 ≤ d by omega) ⟨by omega, by omega⟩ ⟨by omega, by omega⟩ ⟨by omega, by omega⟩ ⟨by omega, by omega⟩ (show 0 ≤ (I_47 1670) ∧ (I_47 1670) < 3016 by first | assumption | omega)) (fun r91 M92 q93 => ?_)
                rcases q93 with ⟨A94, e95, hR93a, f96, f97⟩
                rw [e95]
                replace hR93a : w_Rep w_TC fr X u l (w_up I_47 1670 ((I_47 1670) + 1)) A94 B_47 C_47 M92 := hR93a
                replace f96 : c_fa c_pa A_47 A94 := f96
                replace f97 : c_mk A_47 A94 (I_47 1670) 25 v6 (-1) (-1) := f97
                have k98 : c_Bd A94 (c_W A94 (c_r (I 2439) 4)) (I_47 1670) (I 1670) ((I_47 1670) + 1) := c_Bd_mk f97 (show 0 ≤ (I 1670) by omega) ((c_Chq_end hi47_4)) (show (I_47 1670) ≤ (I_47 1670) by omega) (Or.inl rfl)
                have k99 : c_Chq c_P0 A94 (c_r (I 2439) 4) v6 y47_3 (I 1670) (I_47 1670) := c_Chq_agl c_P0_fam hi47_4 f97.1 (show 0 ≤ (I 1670) by omega) (show (I_47 1670) ≤ (I_47 1670) by omega)
                clear hi47_4
                have g100 : c_agl A A94 (I 1670) := c_agl_trans hi47_3 f97.1 (show (I 1670) ≤ (I_47 1670) by omega)
                show w_W _ _ _ (100, [(0, .ref 38), (1, .int (Int32.ofInt (b))), (2, .int (Int32.ofInt (v6))), (3, .int (Int32.ofInt (y47_3))), (4, .int (Int32.ofInt (y47_4)))], [.int (Int32.ofInt ((I_47 1670)))], M92) _
                refine w_fin (r := .inl (some ((I_47 1670)))) (M' := M92) rfl ?_
                exact Or.inl ⟨(I_47 1670), (w_up I_47 1670 ((I_47 1670) + 1)), A94, B_47, C_47, rfl, ⟨by omega, by omega⟩, hR93a, (show c_fi c_ps I (w_up I_47 1670 ((I_47 1670) + 1)) by exact (c_fi_up hi47_0 rfl)), (show c_fa c_pa A A94 by exact (c_fa_trans hi47_1 f96)), (show (0 ≤ (I_47 2436) ∧ (I_47 2436) ≤ (I_47 773) ∧ ((I_47 2437) = 0 ∨ (I_47 2436) < (I_47 773))) ∧ ((I_47 773) = (I 773) ∧ (I_47 2439) = (I 2439) ∧ 0 ≤ (I_47 2117)) ∧ (I 2436) + 1 ≤ (I_47 2436) ∧ ((I_47 1670) + 1) + 0 ≤ (I 1670) + 2 * ((I_47 2436) - (I 2436)) ∧ (I 1670) ≤ (I_47 1670) + 1 by (repeat' apply And.intro) <;> first | assumption | omega), (show c_agl A A94 (I 1670) by exact g100), (show c_Bd A94 (c_W A94 (c_r (I 2439) 4)) (I_47 1670) (I 1670) ((I_47 1670) + 1) by exact c_BdW_win k98 (show (I 1670) ≤ (I 1670) by omega) (show ((I_47 1670) + 1) ≤ ((I_47 1670) + 1) by omega))⟩
            · have h33 : ¬ (y47_4 ≥ 1500) := h33
              show w_W _ _ _ (55, [(0, .ref 38), (1, .int (Int32.ofInt (b))), (2, .int (Int32.ofInt (v6))), (3, .int (Int32.ofInt (y47_3))), (4, .int (Int32.ofInt (y47_4)))], [], M_47) _
              refine w_adv (n := 1) (F' := (56, [(0, .ref 38), (1, .int (Int32.ofInt (b))), (2, .int (Int32.ofInt (v6))), (3, .int (Int32.ofInt (y47_3))), (4, .int (Int32.ofInt (y47_4)))], [.ref 38], M_47)) rfl ?_
              refine w_gf (v := .int (Int32.ofInt ((I_47 2437)))) hR_47 rfl rfl rfl rfl ?_
              obtain ⟨r101, r102⟩ : -2147483648 ≤ (I_47 2437) ∧ (I_47 2437) ≤ 2147483647 := hR_47.ri 2437
              refine w_call (cm := 136) (as := [(0, .int (Int32.ofInt ((I_47 2437))))]) (rest := []) (o := none) rfl (trivial) (c_beginsItem ((I_47 2437)) hR_47 (show 2 ≤ d by omega) ⟨by omega, by omega⟩) (fun r103 M104 q105 => ?_)
              rcases q105 with ⟨e106, e107, f108⟩ | ⟨e109, e110⟩
              · rw [e106, e107]
                replace f108 : ¬ (I_47 2437) = 0 := f108
                show w_W _ _ _ (62, [(0, .ref 38), (1, .int (Int32.ofInt (b))), (2, .int (Int32.ofInt (v6))), (3, .int (Int32.ofInt (y47_3))), (4, .int (Int32.ofInt (y47_4)))], [.int (Int32.ofInt (1))], M_47) _
                refine w_adv (n := 2) (F' := (66, [(0, .ref 38), (1, .int (Int32.ofInt (b))), (2, .int (Int32.ofInt (v6))), (3, .int (Int32.ofInt (y47_3))), (4, .int (Int32.ofInt (y47_4)))], [.ref 38], M_47)) rfl ?_
                refine w_gf (v := .ref 26) hR_47 rfl rfl rfl rfl ?_
                refine w_adv (n := 2) (F' := (71, [(0, .ref 38), (1, .int (Int32.ofInt (b))), (2, .int (Int32.ofInt (v6))), (3, .int (Int32.ofInt (y47_3))), (4, .int (Int32.ofInt (y47_4)))], [.ref 38, .int (Int32.ofInt (y47_3)), .ref 26], M_47)) rfl ?_
                refine w_call (cm := 133) (as := [(0, .ref 38)]) (rest := [.int (Int32.ofInt (y47_3)), .ref 26]) (o := some (4, 38)) rfl (w_fitR hR_47 rfl) (c_oneItem (c_ALL_dn hA) hR_47 (show 10 * (24 - (I_47 2439)) + 14 ≤ (d : Int) by omega) (show l ≤ 100000 by first | assumption | omega) (show (0 ≤ (I_47 2436) ∧ (I_47 2436) ≤ (I_47 773) ∧ (I_47 773) ≤ 1501 ∧ ((I_47 2437) = 0 ∨ (I_47 2436) < (I_47 773))) ∧ (0 ≤ (I_47 2439) ∧ (I_47 2439) ≤ 24 ∧ 0 ≤ (I_47 2117)) ∧ 0 ≤ (I_47 1670) ∧ (I_47 1670) ≤ 2 * (I_47 2436) + 1 by (repeat' apply And.intro) <;> first | assumption | omega)) (fun r111 M112 q113 => ?_)
                rcases q113 with ⟨v114, I113a, A113a, B113a, C113a, e115, ⟨r116, r117⟩, hR113a, f118, f119, f120, f121, f122⟩ | ⟨t123, I113b, A113b, B113b, C113b, e124, hR113b, f125, f126, f127⟩
                · rw [e115]
                  replace hR113a : w_Rep w_TC fr X u l I113a A113a B113a C113a M112 := hR113a
                  replace f118 : c_fi c_ps I_47 I113a := f118
                  replace f119 : c_fa c_pa A_47 A113a := f119
                  replace f120 : (0 ≤ (I113a 2436) ∧ (I113a 2436) ≤ (I113a 773) ∧ ((I113a 2437) = 0 ∨ (I113a 2436) < (I113a 773))) ∧ ((I113a 773) = (I_47 773) ∧ (I113a 2439) = (I_47 2439) ∧ 0 ≤ (I113a 2117)) ∧ (I_47 2436) + 1 ≤ (I113a 2436) ∧ (I113a 1670) + 1 ≤ (I_47 1670) + 2 * ((I113a 2436) - (I_47 2436)) ∧ (I_47 1670) ≤ (I113a 1670) := f120
                  obtain ⟨⟨n128, n129, n130⟩, ⟨n131, n132, n133⟩, n134, n135, n136⟩ := id f120
                  clear f120
                  replace f121 : c_agl A_47 A113a (I_47 1670) := f121
                  replace f122 : c_Wn A113a (c_r (I_47 2439) 4) v114 (I_47 1670) (I113a 1670) := f122
                  have k137 : c_Chq c_P0 A113a (c_r (I 2439) 4) v6 y47_3 (I 1670) (I_47 1670) := c_Chq_agl c_P0_fam hi47_4 f121 (show 0 ≤ (I 1670) by omega) (show (I_47 1670) ≤ (I_47 1670) by omega)
                  clear hi47_4
                  have g138 : c_agl A A113a (I 1670) := c_agl_trans hi47_3 f121 (show (I 1670) ≤ (I_47 1670) by omega)
                  have k139 : c_Wn A113a (c_r (I 2439) 4) v114 (I_47 1670) (I113a 1670) := c_Wn_up f122 (show c_r (I_47 2439) 4 ≤ c_r (I 2439) 4 by unfold c_r; omega)
                  obtain ⟨b140, b141⟩ := c_W_in k139.1
                  show w_W _ _ _ (74, [(0, .ref 38), (1, .int (Int32.ofInt (b))), (2, .int (Int32.ofInt (v6))), (3, .int (Int32.ofInt (y47_3))), (4, .int (Int32.ofInt (y47_4)))], [.int (Int32.ofInt (v114)), .int (Int32.ofInt (y47_3)), .ref 26], M112) _
                  refine w_call (cm := 106) (as := [(0, .ref 26), (1, .int (Int32.ofInt (y47_3))), (2, .int (Int32.ofInt (v114)))]) (rest := []) (o := some (8, 26)) rfl (w_fitR hR113a rfl) (c_chn (y47_3) (v114) hR113a (show 2 ≤ d by omega) ⟨by omega, by omega⟩ ⟨by omega, by omega⟩) (fun r142 M143 q144 => ?_)
                  rcases q144 with ⟨A145, e146, hR144a, f147, f148⟩
                  rw [e146]
                  replace hR144a : w_Rep w_TC fr X u l I113a A145 B113a C113a M143 := hR144a
                  replace f147 : c_fa c_pa A113a A145 := f147
                  replace f148 : c_nxw A113a A145 y47_3 v114 := f148
                  have k149 : ∀ f', (v6 = -1 ∧ f' = v114 ∨ v6 ≠ -1 ∧ f' = v6) → c_Chq c_P0 A145 (c_r (I 2439) 4) f' v114 (I 1670) (I113a 1670) := c_Chq_app c_P0_fam k137 (show (I_47 1670) ≤ (I_47 1670) by omega) f148 (show 0 ≤ (I 1670) by omega) (show (I_47 1670) ≤ 3016 by omega) (show (I_47 1670) ≤ v114 ∧ v114 < (I113a 1670) by omega) k139.1 k139.2 c_P0_win
                  have g150 : c_agl A113a A145 (I 1670) := c_agl_nxw f148 (c_Chq_l k137)
                  have g151 : c_agl A A145 (I 1670) := c_agl_trans g138 g150 (show (I 1670) ≤ (I 1670) by omega)
                  show w_W _ _ _ (77, [(0, .ref 38), (1, .int (Int32.ofInt (b))), (2, .int (Int32.ofInt (v6))), (3, .int (Int32.ofInt (y47_3))), (4, .int (Int32.ofInt (y47_4)))], [.int (Int32.ofInt (v114))], M143) _
                  refine w_adv (n := 1) (F' := (78, [(3, .int (Int32.ofInt (v114))), (0, .ref 38), (1, .int (Int32.ofInt (b))), (2, .int (Int32.ofInt (v6))), (4, .int (Int32.ofInt (y47_4)))], [], M143)) rfl ?_
                  refine w_inc (nL := 5) (a := y47_4) rfl rfl rfl (by decide) ?_
                  refine w_adv (n := 1) (F' := (47, [(4, .int (Int32.ofInt (y47_4 + 1))), (3, .int (Int32.ofInt (v114))), (0, .ref 38), (1, .int (Int32.ofInt (b))), (2, .int (Int32.ofInt (v6)))], [], M143)) rfl ?_
                  refine w_ls (ls := [(0, .ref 38), (1, .int (Int32.ofInt (b))), (2, .int (Int32.ofInt (v6))), (3, .int (Int32.ofInt (v114))), (4, .int (Int32.ofInt (y47_4 + 1)))]) (show List.Nodup [0, 1, 2, 3, 4] by decide) (show List.Nodup [4, 3, 0, 1, 2] by decide) (List.forall_mem_cons.mpr ⟨(List.Mem.tail _ (List.Mem.tail _ (List.Mem.head _))), (List.forall_mem_cons.mpr ⟨(List.Mem.tail _ (List.Mem.tail _ (List.Mem.tail _ (List.Mem.head _)))), (List.forall_mem_cons.mpr ⟨(List.Mem.tail _ (List.Mem.tail _ (List.Mem.tail _ (List.Mem.tail _ (List.Mem.head _))))), (List.forall_mem_cons.mpr ⟨(List.Mem.tail _ (List.Mem.head _)), (List.forall_mem_cons.mpr ⟨(List.Mem.head _), (fun _ h => by cases h)⟩)⟩)⟩)⟩)⟩) ?_
                  exact ih47  (v114) (y47_4 + 1) I113a A145 B113a C113a M143 hR144a ⟨by omega, by omega⟩ ⟨by omega, by omega⟩ (show c_fi c_ps I I113a by exact (c_fi_trans hi47_0 f118)) (show c_fa c_pa A A145 by exact (c_fa_trans (c_fa_trans hi47_1 f119) f147)) (show (0 ≤ (I113a 2436) ∧ (I113a 2436) ≤ (I113a 773) ∧ ((I113a 2437) = 0 ∨ (I113a 2436) < (I113a 773))) ∧ ((I113a 773) = (I 773) ∧ ((b = 0 ∧ (I113a 2439) = (I 2439)) ∨ (¬ b = 0 ∧ (I113a 2439) = (I 2439) + 1)) ∧ 0 ≤ (I113a 2117)) ∧ (I 2436) + 1 ≤ (I113a 2436) ∧ (I113a 1670) + 1 ≤ (I 1670) + 2 * ((I113a 2436) - (I 2436)) ∧ (I 1670) ≤ (I113a 1670) by (repeat' apply And.intro) <;> first | assumption | omega) (show c_agl A A145 (I 1670) by exact g151) (show c_Chq c_P0 A145 (c_r (I 2439) 4) v6 v114 (I 1670) (I113a 1670) by exact k149 _ (by omega)) (show 0 ≤ (y47_4 + 1) ∧ (y47_4 + 1) ≤ 1500 by omega) (show 1500 - (y47_4 + 1) < (fu47 : Int) by omega)
                · rw [e124]
                  replace hR113b : w_Rep w_TC fr X (u + 6) (l + 64) I113b A113b B113b C113b M112 := hR113b
                  replace f125 : c_fi c_ps I_47 I113b := f125
                  replace f126 : c_fa c_pa A_47 A113b := f126
                  replace f127 : M112.1[t123]? = some (.inr (11, [])) := f127
                  exact Or.inr (⟨t123, I113b, A113b, B113b, C113b, rfl, hR113b, (show c_fi c_ps I I113b by exact (c_fi_trans hi47_0 f125)), (show c_fa c_pa A A113b by exact (c_fa_trans hi47_1 f126)), (show M112.1[t123]? = some (.inr (11, [])) by exact f127)⟩)
              · rw [e109, e110]
                show w_W _ _ _ (62, [(0, .ref 38), (1, .int (Int32.ofInt (b))), (2, .int (Int32.ofInt (v6))), (3, .int (Int32.ofInt (y47_3))), (4, .int (Int32.ofInt (y47_4)))], [.int (Int32.ofInt (0))], M_47) _
                refine w_adv (n := 2) (F' := (85, [(0, .ref 38), (1, .int (Int32.ofInt (b))), (2, .int (Int32.ofInt (v6))), (3, .int (Int32.ofInt (y47_3))), (4, .int (Int32.ofInt (y47_4)))], [.int (Int32.ofInt (b))], M_47)) rfl ?_
                refine w_br1 (a := b) rfl rfl ⟨by omega, by omega⟩ (fun h152 => ?_) (fun h152 => ?_)
                · have h152 : ¬ b = 0 := h152
                  show w_W _ _ _ (101, [(0, .ref 38), (1, .int (Int32.ofInt (b))), (2, .int (Int32.ofInt (v6))), (3, .int (Int32.ofInt (y47_3))), (4, .int (Int32.ofInt (y47_4)))], [], M_47) _
                  refine w_adv (n := 2) (F' := (104, [(0, .ref 38), (1, .int (Int32.ofInt (b))), (2, .int (Int32.ofInt (v6))), (3, .int (Int32.ofInt (y47_3))), (4, .int (Int32.ofInt (y47_4)))], [.int (Int32.ofInt (23)), .ref 38], M_47)) rfl ?_
                  refine w_call (cm := 113) (as := [(0, .ref 38), (1, .int (Int32.ofInt (23)))]) (rest := []) (o := some (4, 38)) rfl (w_fitR hR_47 rfl) (c_close (23) hR_47 (show 4 ≤ d by omega) ⟨by omega, by omega⟩ (show l ≤ 100000 by first | assumption | omega) (show -1 ≤ (I_47 2436) ∧ ((I_47 2437) = 0 ∨ (I_47 2436) < (I_47 773)) ∧ (I_47 773) ≤ 1501 ∧ 1 ≤ 23 by first | assumption | omega) (show 0 ≤ (I_47 2439) ∧ (I_47 2439) ≤ 24 by first | assumption | omega)) (fun r153 M154 q155 => ?_)
                  rcases q155 with ⟨zt156, zk157, zv158, e159, hR155a, f160, f161⟩ | ⟨t162, I155b, A155b, B155b, C155b, e163, hR155b, f164, f165, f166⟩
                  · rw [e159]
                    replace hR155a : w_Rep w_TC fr X u l (w_up (w_up (w_up (w_up (w_up I_47 2436 ((I_47 2436) + 1)) 2441 (zt156)) 2437 (zk157)) 2438 (zv158)) 2439 ((I_47 2439) - 1)) A_47 B_47 C_47 M154 := hR155a
                    replace f160 : ((I_47 2436) + 1 < (I_47 773) ∨ zk157 = 0) := f160
                    replace f161 : (I_47 2437) = 23 := f161
                    show w_W _ _ _ (107, [(0, .ref 38), (1, .int (Int32.ofInt (b))), (2, .int (Int32.ofInt (v6))), (3, .int (Int32.ofInt (y47_3))), (4, .int (Int32.ofInt (y47_4)))], [], M154) _
                    refine w_adv (n := 1) (F' := (108, [(0, .ref 38), (1, .int (Int32.ofInt (b))), (2, .int (Int32.ofInt (v6))), (3, .int (Int32.ofInt (y47_3))), (4, .int (Int32.ofInt (y47_4)))], [.ref 38], M154)) rfl ?_
                    refine w_gf (v := .ref 26) hR155a rfl rfl rfl rfl ?_
                    refine w_adv (n := 3) (F' := (115, [(0, .ref 38), (1, .int (Int32.ofInt (b))), (2, .int (Int32.ofInt (v6))), (3, .int (Int32.ofInt (y47_3))), (4, .int (Int32.ofInt (y47_4)))], [.ref 38, .int (Int32.ofInt (v6)), .int (Int32.ofInt (25)), .ref 26], M154)) rfl ?_
                    refine w_call (cm := 89) (as := [(0, .ref 38)]) (rest := [.int (Int32.ofInt (v6)), .int (Int32.ofInt (25)), .ref 26]) (o := some (4, 38)) rfl (w_fitR hR155a rfl) ((hA d (Nat.lt_succ_self d)).1 hR155a (show 10 * (24 - ((I_47 2439) - 1)) + 13 ≤ (d : Int) by omega) (show l ≤ 100000 by first | assumption | omega) (show (0 ≤ (I_47 2436) + 1 ∧ (I_47 2436) + 1 ≤ (I_47 773) ∧ (I_47 773) ≤ 1501 ∧ (zk157 = 0 ∨ (I_47 2436) + 1 < (I_47 773))) ∧ (0 ≤ (I_47 2439) - 1 ∧ (I_47 2439) - 1 ≤ 24 ∧ 0 ≤ (I_47 2117)) ∧ 0 ≤ (I_47 1670) ∧ (I_47 1670) ≤ 2 * ((I_47 2436) + 1) + 1 by (repeat' apply And.intro) <;> first | assumption | omega)) (fun r167 M168 q169 => ?_)
                    rcases q169 with ⟨v170, I169a, A169a, B169a, C169a, e171, ⟨r172, r173⟩, hR169a, f174, f175, f176, f177, f178⟩ | ⟨t179, I169b, A169b, B169b, C169b, e180, hR169b, f181, f182, f183⟩
                    · rw [e171]
                      replace hR169a : w_Rep w_TC fr X u l I169a A169a B169a C169a M168 := hR169a
                      replace f174 : c_fi c_ps (w_up (w_up (w_up (w_up (w_up I_47 2436 ((I_47 2436) + 1)) 2441 (zt156)) 2437 (zk157)) 2438 (zv158)) 2439 ((I_47 2439) - 1)) I169a := f174
                      replace f175 : c_fa c_pa A_47 A169a := f175
                      replace f176 : (0 ≤ (I169a 2436) ∧ (I169a 2436) ≤ (I169a 773) ∧ ((I169a 2437) = 0 ∨ (I169a 2436) < (I169a 773))) ∧ ((I169a 773) = (I_47 773) ∧ (I169a 2439) = (I_47 2439) - 1 ∧ 0 ≤ (I169a 2117)) ∧ ((I_47 2436) + 1) + 1 ≤ (I169a 2436) ∧ (I169a 1670) + 1 ≤ (I_47 1670) + 2 * ((I169a 2436) - ((I_47 2436) + 1)) ∧ (I_47 1670) ≤ (I169a 1670) := f176
                      obtain ⟨⟨n184, n185, n186⟩, ⟨n187, n188, n189⟩, n190, n191, n192⟩ := id f176
                      clear f176
                      replace f177 : c_agl A_47 A169a (I_47 1670) := f177
                      replace f178 : c_Wn A169a (c_r ((I_47 2439) - 1) 3) v170 (I_47 1670) (I169a 1670) := f178
                      have k193 : c_Chq c_P0 A169a (c_r (I 2439) 4) v6 y47_3 (I 1670) (I_47 1670) := c_Chq_agl c_P0_fam hi47_4 f177 (show 0 ≤ (I 1670) by omega) (show (I_47 1670) ≤ (I_47 1670) by omega)
                      clear hi47_4
                      have g194 : c_agl A A169a (I 1670) := c_agl_trans hi47_3 f177 (show (I 1670) ≤ (I_47 1670) by omega)
                      have k195 : c_Wn A169a (c_r (I 2439) 4) v170 (I_47 1670) (I169a 1670) := c_Wn_up f178 (show c_r ((I_47 2439) - 1) 3 ≤ c_r (I 2439) 4 by unfold c_r; omega)
                      obtain ⟨b196, b197⟩ := c_W_in k195.1
                      show w_W _ _ _ (118, [(0, .ref 38), (1, .int (Int32.ofInt (b))), (2, .int (Int32.ofInt (v6))), (3, .int (Int32.ofInt (y47_3))), (4, .int (Int32.ofInt (y47_4)))], [.int (Int32.ofInt (v170)), .int (Int32.ofInt (v6)), .int (Int32.ofInt (25)), .ref 26], M168) _
                      refine w_adv (n := 1) (F' := (119, [(0, .ref 38), (1, .int (Int32.ofInt (b))), (2, .int (Int32.ofInt (v6))), (3, .int (Int32.ofInt (y47_3))), (4, .int (Int32.ofInt (y47_4)))], [.int (Int32.ofInt ((-1))), .int (Int32.ofInt (v170)), .int (Int32.ofInt (v6)), .int (Int32.ofInt (25)), .ref 26], M168)) rfl ?_
                      refine w_call (cm := 94) (as := [(0, .ref 26), (1, .int (Int32.ofInt (25))), (2, .int (Int32.ofInt (v6))), (3, .int (Int32.ofInt (v170))), (4, .int (Int32.ofInt ((-1))))]) (rest := []) (o := some (8, 26)) rfl (w_fitR hR169a rfl) (c_mkn (25) (v6) (v170) ((-1)) hR169a (show 2 ≤ d by omega) ⟨by omega, by omega⟩ ⟨by omega, by omega⟩ ⟨by omega, by omega⟩ ⟨by omega, by omega⟩ (show 0 ≤ (I169a 1670) ∧ (I169a 1670) < 3016 by first | assumption | omega)) (fun r198 M199 q200 => ?_)
                      rcases q200 with ⟨A201, e202, hR200a, f203, f204⟩
                      rw [e202]
                      replace hR200a : w_Rep w_TC fr X u l (w_up I169a 1670 ((I169a 1670) + 1)) A201 B169a C169a M199 := hR200a
                      replace f203 : c_fa c_pa A169a A201 := f203
                      replace f204 : c_mk A169a A201 (I169a 1670) 25 v6 v170 (-1) := f204
                      have k205 : c_Bd A201 (c_W A201 (c_r (I 2439) 4)) (I169a 1670) (I 1670) ((I169a 1670) + 1) := c_Bd_mk f204 (show 0 ≤ (I 1670) by omega) ((c_Chq_end k193)) (show (I_47 1670) ≤ (I169a 1670) by omega) (Or.inr (c_Wn_win k195 (show (I_47 1670) ≤ (I_47 1670) by omega) (show (I169a 1670) ≤ (I169a 1670) by omega)).1)
                      have k206 : c_Chq c_P0 A201 (c_r (I 2439) 4) v6 y47_3 (I 1670) (I_47 1670) := c_Chq_agl c_P0_fam k193 f204.1 (show 0 ≤ (I 1670) by omega) (show (I_47 1670) ≤ (I169a 1670) by omega)
                      clear k193
                      have k207 : c_Wn A201 (c_r (I 2439) 4) v170 (I_47 1670) (I169a 1670) := c_Wn_agl k195 f204.1 (show 0 ≤ (I_47 1670) by omega) (show (I169a 1670) ≤ (I169a 1670) by omega)
                      clear k195
                      have g208 : c_agl A A201 (I 1670) := c_agl_trans g194 f204.1 (show (I 1670) ≤ (I169a 1670) by omega)
                      show w_W _ _ _ (122, [(0, .ref 38), (1, .int (Int32.ofInt (b))), (2, .int (Int32.ofInt (v6))), (3, .int (Int32.ofInt (y47_3))), (4, .int (Int32.ofInt (y47_4)))], [.int (Int32.ofInt ((I169a 1670)))], M199) _
                      refine w_fin (r := .inl (some ((I169a 1670)))) (M' := M199) rfl ?_
                      exact Or.inl ⟨(I169a 1670), (w_up I169a 1670 ((I169a 1670) + 1)), A201, B169a, C169a, rfl, ⟨by omega, by omega⟩, hR200a, (show c_fi c_ps I (w_up I169a 1670 ((I169a 1670) + 1)) by exact (c_fi_up (c_fi_trans (c_fi_up (c_fi_up (c_fi_up (c_fi_up (c_fi_up hi47_0 rfl) rfl) rfl) rfl) rfl) f174) rfl)), (show c_fa c_pa A A201 by exact (c_fa_trans (c_fa_trans hi47_1 f175) f203)), (show (0 ≤ (I169a 2436) ∧ (I169a 2436) ≤ (I169a 773) ∧ ((I169a 2437) = 0 ∨ (I169a 2436) < (I169a 773))) ∧ ((I169a 773) = (I 773) ∧ (I169a 2439) = (I 2439) ∧ 0 ≤ (I169a 2117)) ∧ (I 2436) + 1 ≤ (I169a 2436) ∧ ((I169a 1670) + 1) + 0 ≤ (I 1670) + 2 * ((I169a 2436) - (I 2436)) ∧ (I 1670) ≤ (I169a 1670) + 1 by (repeat' apply And.intro) <;> first | assumption | omega), (show c_agl A A201 (I 1670) by exact g208), (show c_Bd A201 (c_W A201 (c_r (I 2439) 4)) (I169a 1670) (I 1670) ((I169a 1670) + 1) by exact c_BdW_win k205 (show (I 1670) ≤ (I 1670) by omega) (show ((I169a 1670) + 1) ≤ ((I169a 1670) + 1) by omega))⟩
                    · rw [e180]
                      replace hR169b : w_Rep w_TC fr X (u + 6) (l + 64) I169b A169b B169b C169b M168 := hR169b
                      replace f181 : c_fi c_ps (w_up (w_up (w_up (w_up (w_up I_47 2436 ((I_47 2436) + 1)) 2441 (zt156)) 2437 (zk157)) 2438 (zv158)) 2439 ((I_47 2439) - 1)) I169b := f181
                      replace f182 : c_fa c_pa A_47 A169b := f182
                      replace f183 : M168.1[t179]? = some (.inr (11, [])) := f183
                      exact Or.inr (⟨t179, I169b, A169b, B169b, C169b, rfl, hR169b, (show c_fi c_ps I I169b by exact (c_fi_trans (c_fi_up (c_fi_up (c_fi_up (c_fi_up (c_fi_up hi47_0 rfl) rfl) rfl) rfl) rfl) f181)), (show c_fa c_pa A A169b by exact (c_fa_trans hi47_1 f182)), (show M168.1[t179]? = some (.inr (11, [])) by exact f183)⟩)
                  · rw [e163]
                    replace hR155b : w_Rep w_TC fr X (u + 6) (l + 64) I155b A155b B155b C155b M154 := hR155b
                    replace f164 : c_fi c_ps I_47 I155b := f164
                    replace f165 : c_fa c_pa A_47 A155b := f165
                    replace f166 : M154.1[t162]? = some (.inr (11, [])) := f166
                    exact Or.inr (⟨t162, I155b, A155b, B155b, C155b, rfl, hR155b, (show c_fi c_ps I I155b by exact (c_fi_trans hi47_0 f164)), (show c_fa c_pa A A155b by exact (c_fa_trans hi47_1 f165)), (show M154.1[t162]? = some (.inr (11, [])) by exact f166)⟩)
                · have h152 : ¬ (¬ b = 0) := h152
                  show w_W _ _ _ (88, [(0, .ref 38), (1, .int (Int32.ofInt (b))), (2, .int (Int32.ofInt (v6))), (3, .int (Int32.ofInt (y47_3))), (4, .int (Int32.ofInt (y47_4)))], [], M_47) _
                  refine w_adv (n := 1) (F' := (89, [(0, .ref 38), (1, .int (Int32.ofInt (b))), (2, .int (Int32.ofInt (v6))), (3, .int (Int32.ofInt (y47_3))), (4, .int (Int32.ofInt (y47_4)))], [.ref 38], M_47)) rfl ?_
                  refine w_gf (v := .ref 26) hR_47 rfl rfl rfl rfl ?_
                  refine w_adv (n := 4) (F' := (97, [(0, .ref 38), (1, .int (Int32.ofInt (b))), (2, .int (Int32.ofInt (v6))), (3, .int (Int32.ofInt (y47_3))), (4, .int (Int32.ofInt (y47_4)))], [.int (Int32.ofInt ((-1))), .int (Int32.ofInt ((-1))), .int (Int32.ofInt (v6)), .int (Int32.ofInt (25)), .ref 26], M_47)) rfl ?_
                  refine w_call (cm := 94) (as := [(0, .ref 26), (1, .int (Int32.ofInt (25))), (2, .int (Int32.ofInt (v6))), (3, .int (Int32.ofInt ((-1)))), (4, .int (Int32.ofInt ((-1))))]) (rest := []) (o := some (8, 26)) rfl (w_fitR hR_47 rfl) (c_mkn (25) (v6) ((-1)) ((-1)) hR_47 (show 2 ≤ d by omega) ⟨by omega, by omega⟩ ⟨by omega, by omega⟩ ⟨by omega, by omega⟩ ⟨by omega, by omega⟩ (show 0 ≤ (I_47 1670) ∧ (I_47 1670) < 3016 by first | assumption | omega)) (fun r209 M210 q211 => ?_)
                  rcases q211 with ⟨A212, e213, hR211a, f214, f215⟩
                  rw [e213]
                  replace hR211a : w_Rep w_TC fr X u l (w_up I_47 1670 ((I_47 1670) + 1)) A212 B_47 C_47 M210 := hR211a
                  replace f214 : c_fa c_pa A_47 A212 := f214
                  replace f215 : c_mk A_47 A212 (I_47 1670) 25 v6 (-1) (-1) := f215
                  have k216 : c_Bd A212 (c_W A212 (c_r (I 2439) 4)) (I_47 1670) (I 1670) ((I_47 1670) + 1) := c_Bd_mk f215 (show 0 ≤ (I 1670) by omega) ((c_Chq_end hi47_4)) (show (I_47 1670) ≤ (I_47 1670) by omega) (Or.inl rfl)
                  have k217 : c_Chq c_P0 A212 (c_r (I 2439) 4) v6 y47_3 (I 1670) (I_47 1670) := c_Chq_agl c_P0_fam hi47_4 f215.1 (show 0 ≤ (I 1670) by omega) (show (I_47 1670) ≤ (I_47 1670) by omega)
                  clear hi47_4
                  have g218 : c_agl A A212 (I 1670) := c_agl_trans hi47_3 f215.1 (show (I 1670) ≤ (I_47 1670) by omega)
                  show w_W _ _ _ (100, [(0, .ref 38), (1, .int (Int32.ofInt (b))), (2, .int (Int32.ofInt (v6))), (3, .int (Int32.ofInt (y47_3))), (4, .int (Int32.ofInt (y47_4)))], [.int (Int32.ofInt ((I_47 1670)))], M210) _
                  refine w_fin (r := .inl (some ((I_47 1670)))) (M' := M210) rfl ?_
                  exact Or.inl ⟨(I_47 1670), (w_up I_47 1670 ((I_47 1670) + 1)), A212, B_47, C_47, rfl, ⟨by omega, by omega⟩, hR211a, (show c_fi c_ps I (w_up I_47 1670 ((I_47 1670) + 1)) by exact (c_fi_up hi47_0 rfl)), (show c_fa c_pa A A212 by exact (c_fa_trans hi47_1 f214)), (show (0 ≤ (I_47 2436) ∧ (I_47 2436) ≤ (I_47 773) ∧ ((I_47 2437) = 0 ∨ (I_47 2436) < (I_47 773))) ∧ ((I_47 773) = (I 773) ∧ (I_47 2439) = (I 2439) ∧ 0 ≤ (I_47 2117)) ∧ (I 2436) + 1 ≤ (I_47 2436) ∧ ((I_47 1670) + 1) + 0 ≤ (I 1670) + 2 * ((I_47 2436) - (I 2436)) ∧ (I 1670) ≤ (I_47 1670) + 1 by (repeat' apply And.intro) <;> first | assumption | omega), (show c_agl A A212 (I 1670) by exact g218), (show c_Bd A212 (c_W A212 (c_r (I 2439) 4)) (I_47 1670) (I 1670) ((I_47 1670) + 1) by exact c_BdW_win k216 (show (I 1670) ≤ (I 1670) by omega) (show ((I_47 1670) + 1) ≤ ((I_47 1670) + 1) by omega))⟩
        refine w_ls (ls := [(0, .ref 38), (1, .int (Int32.ofInt (b))), (2, .int (Int32.ofInt (v6))), (3, .int (Int32.ofInt (v6))), (4, .int (Int32.ofInt (0)))]) (show List.Nodup [0, 1, 2, 3, 4] by decide) (show List.Nodup [4, 3, 2, 0, 1] by decide) (List.forall_mem_cons.mpr ⟨(List.Mem.tail _ (List.Mem.tail _ (List.Mem.tail _ (List.Mem.head _)))), (List.forall_mem_cons.mpr ⟨(List.Mem.tail _ (List.Mem.tail _ (List.Mem.tail _ (List.Mem.tail _ (List.Mem.head _))))), (List.forall_mem_cons.mpr ⟨(List.Mem.tail _ (List.Mem.tail _ (List.Mem.head _))), (List.forall_mem_cons.mpr ⟨(List.Mem.tail _ (List.Mem.head _)), (List.forall_mem_cons.mpr ⟨(List.Mem.head _), (fun _ h => by cases h)⟩)⟩)⟩)⟩)⟩) ?_
        exact lp47 ((1500 - 0 : Int).toNat + 1)  (v6) (0) I5a A5a B5a C5a M4 hR5a ⟨by omega, by omega⟩ ⟨by omega, by omega⟩ (show c_fi c_ps I I5a by exact f10) (show c_fa c_pa A A5a by exact f11) (show (0 ≤ (I5a 2436) ∧ (I5a 2436) ≤ (I5a 773) ∧ ((I5a 2437) = 0 ∨ (I5a 2436) < (I5a 773))) ∧ ((I5a 773) = (I 773) ∧ ((b = 0 ∧ (I5a 2439) = (I 2439)) ∨ (¬ b = 0 ∧ (I5a 2439) = (I 2439) + 1)) ∧ 0 ≤ (I5a 2117)) ∧ (I 2436) + 1 ≤ (I5a 2436) ∧ (I5a 1670) + 1 ≤ (I 1670) + 2 * ((I5a 2436) - (I 2436)) ∧ (I 1670) ≤ (I5a 1670) by (repeat' apply And.intro) <;> first | assumption | omega) (show c_agl A A5a (I 1670) by exact g29) (show c_Chq c_P0 A5a (c_r (I 2439) 4) v6 v6 (I 1670) (I5a 1670) by exact c_Chq_one k30 (show 0 ≤ (I 1670) by omega)) (show 0 ≤ (0 : Int) ∧ (0 : Int) ≤ 1500 by omega) (show 1500 - 0 < (((1500 - 0 : Int).toNat + 1 : Nat) : Int) by omega)
      · rw [e16]
        replace hR5b : w_Rep w_TC fr X (u + 6) (l + 64) I5b A5b B5b C5b M4 := hR5b
        replace f17 : c_fi c_ps I I5b := f17
        replace f18 : c_fa c_pa A A5b := f18
        replace f19 : M4.1[t15]? = some (.inr (11, [])) := f19
        exact Or.inr (⟨t15, I5b, A5b, B5b, C5b, rfl, hR5b, (show c_fi c_ps I I5b by exact f17), (show c_fa c_pa A A5b by exact f18), (show M4.1[t15]? = some (.inr (11, [])) by exact f19)⟩)
    · have h2 : ¬ (b = 0) := h2
      exfalso; omega
  · have h1 : ¬ (b = 0) := h1
    show w_W _ _ _ (4, [(0, .ref 38), (1, .int (Int32.ofInt (b)))], [], M) _
    refine w_adv (n := 1) (F' := (5, [(0, .ref 38), (1, .int (Int32.ofInt (b)))], [.ref 38], M)) rfl ?_
    refine w_gf (v := .int (Int32.ofInt ((I 2437)))) hR rfl rfl rfl rfl ?_
    obtain ⟨r219, r220⟩ : -2147483648 ≤ (I 2437) ∧ (I 2437) ≤ 2147483647 := hR.ri 2437
    refine w_adv (n := 1) (F' := (10, [(0, .ref 38), (1, .int (Int32.ofInt (b)))], [.int (Int32.ofInt (30)), .int (Int32.ofInt ((I 2437)))], M)) rfl ?_
    refine w_br2 (a := (I 2437)) (b := 30) rfl rfl ⟨by omega, by omega⟩ ⟨by omega, by omega⟩ (fun h221 => ?_) (fun h221 => ?_)
    · have h221 : (I 2437) = 30 := h221
      show w_W _ _ _ (29, [(0, .ref 38), (1, .int (Int32.ofInt (b)))], [], M) _
      refine w_adv (n := 1) (F' := (30, [(0, .ref 38), (1, .int (Int32.ofInt (b)))], [.int (Int32.ofInt (b))], M)) rfl ?_
      refine w_br1 (a := b) rfl rfl ⟨by omega, by omega⟩ (fun h222 => ?_) (fun h222 => ?_)
      · have h222 : b = 0 := h222
        exfalso; omega
      · have h222 : ¬ (b = 0) := h222
        show w_W _ _ _ (33, [(0, .ref 38), (1, .int (Int32.ofInt (b)))], [], M) _
        refine w_adv (n := 1) (F' := (34, [(0, .ref 38), (1, .int (Int32.ofInt (b)))], [.ref 38], M)) rfl ?_
        refine w_call (cm := 99) (as := [(0, .ref 38)]) (rest := []) (o := some (4, 38)) rfl (w_fitR hR rfl) (c_open hR (show 4 ≤ d by omega) (show l ≤ 100000 by first | assumption | omega) (show -1 ≤ (I 2436) ∧ (I 2436) < (I 773) ∧ (I 773) ≤ 1501 by first | assumption | omega) (show 0 ≤ (I 2439) ∧ (I 2439) ≤ 24 by first | assumption | omega)) (fun r223 M224 q225 => ?_)
        rcases q225 with ⟨zt226, zk227, zv228, e229, hR225a, f230, f231⟩ | ⟨t232, I225b, A225b, B225b, C225b, e233, hR225b, f234, f235, f236⟩
        · rw [e229]
          replace hR225a : w_Rep w_TC fr X u l (w_up (w_up (w_up (w_up (w_up I 2436 ((I 2436) + 1)) 2441 (zt226)) 2437 (zk227)) 2438 (zv228)) 2439 ((I 2439) + 1)) A B C M224 := hR225a
          replace f230 : ((I 2436) + 1 < (I 773) ∨ zk227 = 0) := f230
          replace f231 : (I 2439) < 24 := f231
          show w_W _ _ _ (37, [(0, .ref 38), (1, .int (Int32.ofInt (b)))], [], M224) _
          refine w_adv (n := 1) (F' := (38, [(0, .ref 38), (1, .int (Int32.ofInt (b)))], [.ref 38], M224)) rfl ?_
          refine w_call (cm := 133) (as := [(0, .ref 38)]) (rest := []) (o := some (4, 38)) rfl (w_fitR hR225a rfl) (c_oneItem (c_ALL_dn hA) hR225a (show 10 * (24 - ((I 2439) + 1)) + 14 ≤ (d : Int) by omega) (show l ≤ 100000 by first | assumption | omega) (show (0 ≤ (I 2436) + 1 ∧ (I 2436) + 1 ≤ (I 773) ∧ (I 773) ≤ 1501 ∧ (zk227 = 0 ∨ (I 2436) + 1 < (I 773))) ∧ (0 ≤ (I 2439) + 1 ∧ (I 2439) + 1 ≤ 24 ∧ 0 ≤ (I 2117)) ∧ 0 ≤ (I 1670) ∧ (I 1670) ≤ 2 * ((I 2436) + 1) + 1 by (repeat' apply And.intro) <;> first | assumption | omega)) (fun r237 M238 q239 => ?_)
          rcases q239 with ⟨v240, I239a, A239a, B239a, C239a, e241, ⟨r242, r243⟩, hR239a, f244, f245, f246, f247, f248⟩ | ⟨t249, I239b, A239b, B239b, C239b, e250, hR239b, f251, f252, f253⟩
          · rw [e241]
            replace hR239a : w_Rep w_TC fr X u l I239a A239a B239a C239a M238 := hR239a
            replace f244 : c_fi c_ps (w_up (w_up (w_up (w_up (w_up I 2436 ((I 2436) + 1)) 2441 (zt226)) 2437 (zk227)) 2438 (zv228)) 2439 ((I 2439) + 1)) I239a := f244
            replace f245 : c_fa c_pa A A239a := f245
            replace f246 : (0 ≤ (I239a 2436) ∧ (I239a 2436) ≤ (I239a 773) ∧ ((I239a 2437) = 0 ∨ (I239a 2436) < (I239a 773))) ∧ ((I239a 773) = (I 773) ∧ (I239a 2439) = (I 2439) + 1 ∧ 0 ≤ (I239a 2117)) ∧ ((I 2436) + 1) + 1 ≤ (I239a 2436) ∧ (I239a 1670) + 1 ≤ (I 1670) + 2 * ((I239a 2436) - ((I 2436) + 1)) ∧ (I 1670) ≤ (I239a 1670) := f246
            obtain ⟨⟨n254, n255, n256⟩, ⟨n257, n258, n259⟩, n260, n261, n262⟩ := id f246
            clear f246
            replace f247 : c_agl A A239a (I 1670) := f247
            replace f248 : c_Wn A239a (c_r ((I 2439) + 1) 4) v240 (I 1670) (I239a 1670) := f248
            have g263 : c_agl A A239a (I 1670) := c_agl_trans c_agl_refl f247 (show (I 1670) ≤ (I 1670) by omega)
            have k264 : c_Wn A239a (c_r (I 2439) 4) v240 (I 1670) (I239a 1670) := c_Wn_up f248 (show c_r ((I 2439) + 1) 4 ≤ c_r (I 2439) 4 by unfold c_r; omega)
            obtain ⟨b265, b266⟩ := c_W_in k264.1
            show w_W _ _ _ (41, [(0, .ref 38), (1, .int (Int32.ofInt (b)))], [.int (Int32.ofInt (v240))], M238) _
            refine w_adv (n := 5) (F' := (47, [(4, .int (Int32.ofInt (0))), (3, .int (Int32.ofInt (v240))), (2, .int (Int32.ofInt (v240))), (0, .ref 38), (1, .int (Int32.ofInt (b)))], [], M238)) rfl ?_
            have lp47 : ∀ fu47 : Nat, ∀ (y47_3 : Int) (y47_4 : Int) (I_47 : Nat → Int) (A_47 : Nat → Int → Int) (B_47 C_47 : Nat → Nat) (M_47 : w_M) (hR_47 : w_Rep w_TC fr X u l I_47 A_47 B_47 C_47 M_47), w_in y47_3 → w_in y47_4 → c_fi c_ps I I_47 → c_fa c_pa A A_47 → (0 ≤ (I_47 2436) ∧ (I_47 2436) ≤ (I_47 773) ∧ ((I_47 2437) = 0 ∨ (I_47 2436) < (I_47 773))) ∧ ((I_47 773) = (I 773) ∧ ((b = 0 ∧ (I_47 2439) = (I 2439)) ∨ (¬ b = 0 ∧ (I_47 2439) = (I 2439) + 1)) ∧ 0 ≤ (I_47 2117)) ∧ (I 2436) + 1 ≤ (I_47 2436) ∧ (I_47 1670) + 1 ≤ (I 1670) + 2 * ((I_47 2436) - (I 2436)) ∧ (I 1670) ≤ (I_47 1670) → c_agl A A_47 (I 1670) → c_Chq c_P0 A_47 (c_r (I 2439) 4) v240 y47_3 (I 1670) (I_47 1670) → 0 ≤ y47_4 ∧ y47_4 ≤ 1500 → 1500 - y47_4 < (fu47 : Int) → w_W (z_P L xs) (d + 1) 88 (47, [(0, .ref 38), (1, .int (Int32.ofInt (b))), (2, .int (Int32.ofInt (v240))), (3, .int (Int32.ofInt (y47_3))), (4, .int (Int32.ofInt (y47_4)))], [], M_47) (c_block_Q fr X u l I A B C M b) := by
              intro fu47
              induction fu47 with
              | zero =>
                intro y47_3 y47_4 I_47 A_47 B_47 C_47 M_47 hR_47 ⟨ra_y47_3, rb_y47_3⟩ ⟨ra_y47_4, rb_y47_4⟩ hi47_0 hi47_1 hi47_2 hi47_3 hi47_4 hi47_5 hn47
                exfalso
                omega
              | succ fu47 ih47 =>
                intro y47_3 y47_4 I_47 A_47 B_47 C_47 M_47 hR_47 ⟨ra_y47_3, rb_y47_3⟩ ⟨ra_y47_4, rb_y47_4⟩ hi47_0 hi47_1 hi47_2 hi47_3 hi47_4 hi47_5 hn47
                refine w_adv (n := 2) (F' := (52, [(0, .ref 38), (1, .int (Int32.ofInt (b))), (2, .int (Int32.ofInt (v240))), (3, .int (Int32.ofInt (y47_3))), (4, .int (Int32.ofInt (y47_4)))], [.int (Int32.ofInt (1500)), .int (Int32.ofInt (y47_4))], M_47)) rfl ?_
                refine w_br2 (a := y47_4) (b := 1500) rfl rfl ⟨by omega, by omega⟩ ⟨by omega, by omega⟩ (fun h267 => ?_) (fun h267 => ?_)
                · have h267 : y47_4 ≥ 1500 := h267
                  show w_W _ _ _ (84, [(0, .ref 38), (1, .int (Int32.ofInt (b))), (2, .int (Int32.ofInt (v240))), (3, .int (Int32.ofInt (y47_3))), (4, .int (Int32.ofInt (y47_4)))], [], M_47) _
                  refine w_adv (n := 1) (F' := (85, [(0, .ref 38), (1, .int (Int32.ofInt (b))), (2, .int (Int32.ofInt (v240))), (3, .int (Int32.ofInt (y47_3))), (4, .int (Int32.ofInt (y47_4)))], [.int (Int32.ofInt (b))], M_47)) rfl ?_
                  refine w_br1 (a := b) rfl rfl ⟨by omega, by omega⟩ (fun h268 => ?_) (fun h268 => ?_)
                  · have h268 : ¬ b = 0 := h268
                    show w_W _ _ _ (101, [(0, .ref 38), (1, .int (Int32.ofInt (b))), (2, .int (Int32.ofInt (v240))), (3, .int (Int32.ofInt (y47_3))), (4, .int (Int32.ofInt (y47_4)))], [], M_47) _
                    refine w_adv (n := 2) (F' := (104, [(0, .ref 38), (1, .int (Int32.ofInt (b))), (2, .int (Int32.ofInt (v240))), (3, .int (Int32.ofInt (y47_3))), (4, .int (Int32.ofInt (y47_4)))], [.int (Int32.ofInt (23)), .ref 38], M_47)) rfl ?_
                    refine w_call (cm := 113) (as := [(0, .ref 38), (1, .int (Int32.ofInt (23)))]) (rest := []) (o := some (4, 38)) rfl (w_fitR hR_47 rfl) (c_close (23) hR_47 (show 4 ≤ d by omega) ⟨by omega, by omega⟩ (show l ≤ 100000 by first | assumption | omega) (show -1 ≤ (I_47 2436) ∧ ((I_47 2437) = 0 ∨ (I_47 2436) < (I_47 773)) ∧ (I_47 773) ≤ 1501 ∧ 1 ≤ 23 by first | assumption | omega) (show 0 ≤ (I_47 2439) ∧ (I_47 2439) ≤ 24 by first | assumption | omega)) (fun r269 M270 q271 => ?_)
                    rcases q271 with ⟨zt272, zk273, zv274, e275, hR271a, f276, f277⟩ | ⟨t278, I271b, A271b, B271b, C271b, e279, hR271b, f280, f281, f282⟩
                    · rw [e275]
                      replace hR271a : w_Rep w_TC fr X u l (w_up (w_up (w_up (w_up (w_up I_47 2436 ((I_47 2436) + 1)) 2441 (zt272)) 2437 (zk273)) 2438 (zv274)) 2439 ((I_47 2439) - 1)) A_47 B_47 C_47 M270 := hR271a
                      replace f276 : ((I_47 2436) + 1 < (I_47 773) ∨ zk273 = 0) := f276
                      replace f277 : (I_47 2437) = 23 := f277
                      show w_W _ _ _ (107, [(0, .ref 38), (1, .int (Int32.ofInt (b))), (2, .int (Int32.ofInt (v240))), (3, .int (Int32.ofInt (y47_3))), (4, .int (Int32.ofInt (y47_4)))], [], M270) _
                      refine w_adv (n := 1) (F' := (108, [(0, .ref 38), (1, .int (Int32.ofInt (b))), (2, .int (Int32.ofInt (v240))), (3, .int (Int32.ofInt (y47_3))), (4, .int (Int32.ofInt (y47_4)))], [.ref 38], M270)) rfl ?_
                      refine w_gf (v := .ref 26) hR271a rfl rfl rfl rfl ?_
                      refine w_adv (n := 3) (F' := (115, [(0, .ref 38), (1, .int (Int32.ofInt (b))), (2, .int (Int32.ofInt (v240))), (3, .int (Int32.ofInt (y47_3))), (4, .int (Int32.ofInt (y47_4)))], [.ref 38, .int (Int32.ofInt (v240)), .int (Int32.ofInt (25)), .ref 26], M270)) rfl ?_
                      refine w_call (cm := 89) (as := [(0, .ref 38)]) (rest := [.int (Int32.ofInt (v240)), .int (Int32.ofInt (25)), .ref 26]) (o := some (4, 38)) rfl (w_fitR hR271a rfl) ((hA d (Nat.lt_succ_self d)).1 hR271a (show 10 * (24 - ((I_47 2439) - 1)) + 13 ≤ (d : Int) by omega) (show l ≤ 100000 by first | assumption | omega) (show (0 ≤ (I_47 2436) + 1 ∧ (I_47 2436) + 1 ≤ (I_47 773) ∧ (I_47 773) ≤ 1501 ∧ (zk273 = 0 ∨ (I_47 2436) + 1 < (I_47 773))) ∧ (0 ≤ (I_47 2439) - 1 ∧ (I_47 2439) - 1 ≤ 24 ∧ 0 ≤ (I_47 2117)) ∧ 0 ≤ (I_47 1670) ∧ (I_47 1670) ≤ 2 * ((I_47 2436) + 1) + 1 by (repeat' apply And.intro) <;> first | assumption | omega)) (fun r283 M284 q285 => ?_)
                      rcases q285 with ⟨v286, I285a, A285a, B285a, C285a, e287, ⟨r288, r289⟩, hR285a, f290, f291, f292, f293, f294⟩ | ⟨t295, I285b, A285b, B285b, C285b, e296, hR285b, f297, f298, f299⟩
                      · rw [e287]
                        replace hR285a : w_Rep w_TC fr X u l I285a A285a B285a C285a M284 := hR285a
                        replace f290 : c_fi c_ps (w_up (w_up (w_up (w_up (w_up I_47 2436 ((I_47 2436) + 1)) 2441 (zt272)) 2437 (zk273)) 2438 (zv274)) 2439 ((I_47 2439) - 1)) I285a := f290
                        replace f291 : c_fa c_pa A_47 A285a := f291
                        replace f292 : (0 ≤ (I285a 2436) ∧ (I285a 2436) ≤ (I285a 773) ∧ ((I285a 2437) = 0 ∨ (I285a 2436) < (I285a 773))) ∧ ((I285a 773) = (I_47 773) ∧ (I285a 2439) = (I_47 2439) - 1 ∧ 0 ≤ (I285a 2117)) ∧ ((I_47 2436) + 1) + 1 ≤ (I285a 2436) ∧ (I285a 1670) + 1 ≤ (I_47 1670) + 2 * ((I285a 2436) - ((I_47 2436) + 1)) ∧ (I_47 1670) ≤ (I285a 1670) := f292
                        obtain ⟨⟨n300, n301, n302⟩, ⟨n303, n304, n305⟩, n306, n307, n308⟩ := id f292
                        clear f292
                        replace f293 : c_agl A_47 A285a (I_47 1670) := f293
                        replace f294 : c_Wn A285a (c_r ((I_47 2439) - 1) 3) v286 (I_47 1670) (I285a 1670) := f294
                        have k309 : c_Chq c_P0 A285a (c_r (I 2439) 4) v240 y47_3 (I 1670) (I_47 1670) := c_Chq_agl c_P0_fam hi47_4 f293 (show 0 ≤ (I 1670) by omega) (show (I_47 1670) ≤ (I_47 1670) by omega)
                        clear hi47_4
                        have g310 : c_agl A A285a (I 1670) := c_agl_trans hi47_3 f293 (show (I 1670) ≤ (I_47 1670) by omega)
                        have k311 : c_Wn A285a (c_r (I 2439) 4) v286 (I_47 1670) (I285a 1670) := c_Wn_up f294 (show c_r ((I_47 2439) - 1) 3 ≤ c_r (I 2439) 4 by unfold c_r; omega)
                        obtain ⟨b312, b313⟩ := c_W_in k311.1
                        show w_W _ _ _ (118, [(0, .ref 38), (1, .int (Int32.ofInt (b))), (2, .int (Int32.ofInt (v240))), (3, .int (Int32.ofInt (y47_3))), (4, .int (Int32.ofInt (y47_4)))], [.int (Int32.ofInt (v286)), .int (Int32.ofInt (v240)), .int (Int32.ofInt (25)), .ref 26], M284) _
                        refine w_adv (n := 1) (F' := (119, [(0, .ref 38), (1, .int (Int32.ofInt (b))), (2, .int (Int32.ofInt (v240))), (3, .int (Int32.ofInt (y47_3))), (4, .int (Int32.ofInt (y47_4)))], [.int (Int32.ofInt ((-1))), .int (Int32.ofInt (v286)), .int (Int32.ofInt (v240)), .int (Int32.ofInt (25)), .ref 26], M284)) rfl ?_
                        refine w_call (cm := 94) (as := [(0, .ref 26), (1, .int (Int32.ofInt (25))), (2, .int (Int32.ofInt (v240))), (3, .int (Int32.ofInt (v286))), (4, .int (Int32.ofInt ((-1))))]) (rest := []) (o := some (8, 26)) rfl (w_fitR hR285a rfl) (c_mkn (25) (v240) (v286) ((-1)) hR285a (show 2 ≤ d by omega) ⟨by omega, by omega⟩ ⟨by omega, by omega⟩ ⟨by omega, by omega⟩ ⟨by omega, by omega⟩ (show 0 ≤ (I285a 1670) ∧ (I285a 1670) < 3016 by first | assumption | omega)) (fun r314 M315 q316 => ?_)
                        rcases q316 with ⟨A317, e318, hR316a, f319, f320⟩
                        rw [e318]
                        replace hR316a : w_Rep w_TC fr X u l (w_up I285a 1670 ((I285a 1670) + 1)) A317 B285a C285a M315 := hR316a
                        replace f319 : c_fa c_pa A285a A317 := f319
                        replace f320 : c_mk A285a A317 (I285a 1670) 25 v240 v286 (-1) := f320
                        have k321 : c_Bd A317 (c_W A317 (c_r (I 2439) 4)) (I285a 1670) (I 1670) ((I285a 1670) + 1) := c_Bd_mk f320 (show 0 ≤ (I 1670) by omega) ((c_Chq_end k309)) (show (I_47 1670) ≤ (I285a 1670) by omega) (Or.inr (c_Wn_win k311 (show (I_47 1670) ≤ (I_47 1670) by omega) (show (I285a 1670) ≤ (I285a 1670) by omega)).1)
                        have k322 : c_Chq c_P0 A317 (c_r (I 2439) 4) v240 y47_3 (I 1670) (I_47 1670) := c_Chq_agl c_P0_fam k309 f320.1 (show 0 ≤ (I 1670) by omega) (show (I_47 1670) ≤ (I285a 1670) by omega)
                        clear k309
                        have k323 : c_Wn A317 (c_r (I 2439) 4) v286 (I_47 1670) (I285a 1670) := c_Wn_agl k311 f320.1 (show 0 ≤ (I_47 1670) by omega) (show (I285a 1670) ≤ (I285a 1670) by omega)
                        clear k311
                        have g324 : c_agl A A317 (I 1670) := c_agl_trans g310 f320.1 (show (I 1670) ≤ (I285a 1670) by omega)
                        show w_W _ _ _ (122, [(0, .ref 38), (1, .int (Int32.ofInt (b))), (2, .int (Int32.ofInt (v240))), (3, .int (Int32.ofInt (y47_3))), (4, .int (Int32.ofInt (y47_4)))], [.int (Int32.ofInt ((I285a 1670)))], M315) _
                        refine w_fin (r := .inl (some ((I285a 1670)))) (M' := M315) rfl ?_
                        exact Or.inl ⟨(I285a 1670), (w_up I285a 1670 ((I285a 1670) + 1)), A317, B285a, C285a, rfl, ⟨by omega, by omega⟩, hR316a, (show c_fi c_ps I (w_up I285a 1670 ((I285a 1670) + 1)) by exact (c_fi_up (c_fi_trans (c_fi_up (c_fi_up (c_fi_up (c_fi_up (c_fi_up hi47_0 rfl) rfl) rfl) rfl) rfl) f290) rfl)), (show c_fa c_pa A A317 by exact (c_fa_trans (c_fa_trans hi47_1 f291) f319)), (show (0 ≤ (I285a 2436) ∧ (I285a 2436) ≤ (I285a 773) ∧ ((I285a 2437) = 0 ∨ (I285a 2436) < (I285a 773))) ∧ ((I285a 773) = (I 773) ∧ (I285a 2439) = (I 2439) ∧ 0 ≤ (I285a 2117)) ∧ (I 2436) + 1 ≤ (I285a 2436) ∧ ((I285a 1670) + 1) + 0 ≤ (I 1670) + 2 * ((I285a 2436) - (I 2436)) ∧ (I 1670) ≤ (I285a 1670) + 1 by (repeat' apply And.intro) <;> first | assumption | omega), (show c_agl A A317 (I 1670) by exact g324), (show c_Bd A317 (c_W A317 (c_r (I 2439) 4)) (I285a 1670) (I 1670) ((I285a 1670) + 1) by exact c_BdW_win k321 (show (I 1670) ≤ (I 1670) by omega) (show ((I285a 1670) + 1) ≤ ((I285a 1670) + 1) by omega))⟩
                      · rw [e296]
                        replace hR285b : w_Rep w_TC fr X (u + 6) (l + 64) I285b A285b B285b C285b M284 := hR285b
                        replace f297 : c_fi c_ps (w_up (w_up (w_up (w_up (w_up I_47 2436 ((I_47 2436) + 1)) 2441 (zt272)) 2437 (zk273)) 2438 (zv274)) 2439 ((I_47 2439) - 1)) I285b := f297
                        replace f298 : c_fa c_pa A_47 A285b := f298
                        replace f299 : M284.1[t295]? = some (.inr (11, [])) := f299
                        exact Or.inr (⟨t295, I285b, A285b, B285b, C285b, rfl, hR285b, (show c_fi c_ps I I285b by exact (c_fi_trans (c_fi_up (c_fi_up (c_fi_up (c_fi_up (c_fi_up hi47_0 rfl) rfl) rfl) rfl) rfl) f297)), (show c_fa c_pa A A285b by exact (c_fa_trans hi47_1 f298)), (show M284.1[t295]? = some (.inr (11, [])) by exact f299)⟩)
                    · rw [e279]
                      replace hR271b : w_Rep w_TC fr X (u + 6) (l + 64) I271b A271b B271b C271b M270 := hR271b
                      replace f280 : c_fi c_ps I_47 I271b := f280
                      replace f281 : c_fa c_pa A_47 A271b := f281
                      replace f282 : M270.1[t278]? = some (.inr (11, [])) := f282
                      exact Or.inr (⟨t278, I271b, A271b, B271b, C271b, rfl, hR271b, (show c_fi c_ps I I271b by exact (c_fi_trans hi47_0 f280)), (show c_fa c_pa A A271b by exact (c_fa_trans hi47_1 f281)), (show M270.1[t278]? = some (.inr (11, [])) by exact f282)⟩)
                  · have h268 : ¬ (¬ b = 0) := h268
                    show w_W _ _ _ (88, [(0, .ref 38), (1, .int (Int32.ofInt (b))), (2, .int (Int32.ofInt (v240))), (3, .int (Int32.ofInt (y47_3))), (4, .int (Int32.ofInt (y47_4)))], [], M_47) _
                    refine w_adv (n := 1) (F' := (89, [(0, .ref 38), (1, .int (Int32.ofInt (b))), (2, .int (Int32.ofInt (v240))), (3, .int (Int32.ofInt (y47_3))), (4, .int (Int32.ofInt (y47_4)))], [.ref 38], M_47)) rfl ?_
                    refine w_gf (v := .ref 26) hR_47 rfl rfl rfl rfl ?_
                    refine w_adv (n := 4) (F' := (97, [(0, .ref 38), (1, .int (Int32.ofInt (b))), (2, .int (Int32.ofInt (v240))), (3, .int (Int32.ofInt (y47_3))), (4, .int (Int32.ofInt (y47_4)))], [.int (Int32.ofInt ((-1))), .int (Int32.ofInt ((-1))), .int (Int32.ofInt (v240)), .int (Int32.ofInt (25)), .ref 26], M_47)) rfl ?_
                    refine w_call (cm := 94) (as := [(0, .ref 26), (1, .int (Int32.ofInt (25))), (2, .int (Int32.ofInt (v240))), (3, .int (Int32.ofInt ((-1)))), (4, .int (Int32.ofInt ((-1))))]) (rest := []) (o := some (8, 26)) rfl (w_fitR hR_47 rfl) (c_mkn (25) (v240) ((-1)) ((-1)) hR_47 (show 2 ≤ d by omega) ⟨by omega, by omega⟩ ⟨by omega, by omega⟩ ⟨by omega, by omega⟩ ⟨by omega, by omega⟩ (show 0 ≤ (I_47 1670) ∧ (I_47 1670) < 3016 by first | assumption | omega)) (fun r325 M326 q327 => ?_)
                    rcases q327 with ⟨A328, e329, hR327a, f330, f331⟩
                    rw [e329]
                    replace hR327a : w_Rep w_TC fr X u l (w_up I_47 1670 ((I_47 1670) + 1)) A328 B_47 C_47 M326 := hR327a
                    replace f330 : c_fa c_pa A_47 A328 := f330
                    replace f331 : c_mk A_47 A328 (I_47 1670) 25 v240 (-1) (-1) := f331
                    have k332 : c_Bd A328 (c_W A328 (c_r (I 2439) 4)) (I_47 1670) (I 1670) ((I_47 1670) + 1) := c_Bd_mk f331 (show 0 ≤ (I 1670) by omega) ((c_Chq_end hi47_4)) (show (I_47 1670) ≤ (I_47 1670) by omega) (Or.inl rfl)
                    have k333 : c_Chq c_P0 A328 (c_r (I 2439) 4) v240 y47_3 (I 1670) (I_47 1670) := c_Chq_agl c_P0_fam hi47_4 f331.1 (show 0 ≤ (I 1670) by omega) (show (I_47 1670) ≤ (I_47 1670) by omega)
                    clear hi47_4
                    have g334 : c_agl A A328 (I 1670) := c_agl_trans hi47_3 f331.1 (show (I 1670) ≤ (I_47 1670) by omega)
                    show w_W _ _ _ (100, [(0, .ref 38), (1, .int (Int32.ofInt (b))), (2, .int (Int32.ofInt (v240))), (3, .int (Int32.ofInt (y47_3))), (4, .int (Int32.ofInt (y47_4)))], [.int (Int32.ofInt ((I_47 1670)))], M326) _
                    refine w_fin (r := .inl (some ((I_47 1670)))) (M' := M326) rfl ?_
                    exact Or.inl ⟨(I_47 1670), (w_up I_47 1670 ((I_47 1670) + 1)), A328, B_47, C_47, rfl, ⟨by omega, by omega⟩, hR327a, (show c_fi c_ps I (w_up I_47 1670 ((I_47 1670) + 1)) by exact (c_fi_up hi47_0 rfl)), (show c_fa c_pa A A328 by exact (c_fa_trans hi47_1 f330)), (show (0 ≤ (I_47 2436) ∧ (I_47 2436) ≤ (I_47 773) ∧ ((I_47 2437) = 0 ∨ (I_47 2436) < (I_47 773))) ∧ ((I_47 773) = (I 773) ∧ (I_47 2439) = (I 2439) ∧ 0 ≤ (I_47 2117)) ∧ (I 2436) + 1 ≤ (I_47 2436) ∧ ((I_47 1670) + 1) + 0 ≤ (I 1670) + 2 * ((I_47 2436) - (I 2436)) ∧ (I 1670) ≤ (I_47 1670) + 1 by (repeat' apply And.intro) <;> first | assumption | omega), (show c_agl A A328 (I 1670) by exact g334), (show c_Bd A328 (c_W A328 (c_r (I 2439) 4)) (I_47 1670) (I 1670) ((I_47 1670) + 1) by exact c_BdW_win k332 (show (I 1670) ≤ (I 1670) by omega) (show ((I_47 1670) + 1) ≤ ((I_47 1670) + 1) by omega))⟩
                · have h267 : ¬ (y47_4 ≥ 1500) := h267
                  show w_W _ _ _ (55, [(0, .ref 38), (1, .int (Int32.ofInt (b))), (2, .int (Int32.ofInt (v240))), (3, .int (Int32.ofInt (y47_3))), (4, .int (Int32.ofInt (y47_4)))], [], M_47) _
                  refine w_adv (n := 1) (F' := (56, [(0, .ref 38), (1, .int (Int32.ofInt (b))), (2, .int (Int32.ofInt (v240))), (3, .int (Int32.ofInt (y47_3))), (4, .int (Int32.ofInt (y47_4)))], [.ref 38], M_47)) rfl ?_
                  refine w_gf (v := .int (Int32.ofInt ((I_47 2437)))) hR_47 rfl rfl rfl rfl ?_
                  obtain ⟨r335, r336⟩ : -2147483648 ≤ (I_47 2437) ∧ (I_47 2437) ≤ 2147483647 := hR_47.ri 2437
                  refine w_call (cm := 136) (as := [(0, .int (Int32.ofInt ((I_47 2437))))]) (rest := []) (o := none) rfl (trivial) (c_beginsItem ((I_47 2437)) hR_47 (show 2 ≤ d by omega) ⟨by omega, by omega⟩) (fun r337 M338 q339 => ?_)
                  rcases q339 with ⟨e340, e341, f342⟩ | ⟨e343, e344⟩
                  · rw [e340, e341]
                    replace f342 : ¬ (I_47 2437) = 0 := f342
                    show w_W _ _ _ (62, [(0, .ref 38), (1, .int (Int32.ofInt (b))), (2, .int (Int32.ofInt (v240))), (3, .int (Int32.ofInt (y47_3))), (4, .int (Int32.ofInt (y47_4)))], [.int (Int32.ofInt (1))], M_47) _
                    refine w_adv (n := 2) (F' := (66, [(0, .ref 38), (1, .int (Int32.ofInt (b))), (2, .int (Int32.ofInt (v240))), (3, .int (Int32.ofInt (y47_3))), (4, .int (Int32.ofInt (y47_4)))], [.ref 38], M_47)) rfl ?_
                    refine w_gf (v := .ref 26) hR_47 rfl rfl rfl rfl ?_
                    refine w_adv (n := 2) (F' := (71, [(0, .ref 38), (1, .int (Int32.ofInt (b))), (2, .int (Int32.ofInt (v240))), (3, .int (Int32.ofInt (y47_3))), (4, .int (Int32.ofInt (y47_4)))], [.ref 38, .int (Int32.ofInt (y47_3)), .ref 26], M_47)) rfl ?_
                    refine w_call (cm := 133) (as := [(0, .ref 38)]) (rest := [.int (Int32.ofInt (y47_3)), .ref 26]) (o := some (4, 38)) rfl (w_fitR hR_47 rfl) (c_oneItem (c_ALL_dn hA) hR_47 (show 10 * (24 - (I_47 2439)) + 14 ≤ (d : Int) by omega) (show l ≤ 100000 by first | assumption | omega) (show (0 ≤ (I_47 2436) ∧ (I_47 2436) ≤ (I_47 773) ∧ (I_47 773) ≤ 1501 ∧ ((I_47 2437) = 0 ∨ (I_47 2436) < (I_47 773))) ∧ (0 ≤ (I_47 2439) ∧ (I_47 2439) ≤ 24 ∧ 0 ≤ (I_47 2117)) ∧ 0 ≤ (I_47 1670) ∧ (I_47 1670) ≤ 2 * (I_47 2436) + 1 by (repeat' apply And.intro) <;> first | assumption | omega)) (fun r345 M346 q347 => ?_)
                    rcases q347 with ⟨v348, I347a, A347a, B347a, C347a, e349, ⟨r350, r351⟩, hR347a, f352, f353, f354, f355, f356⟩ | ⟨t357, I347b, A347b, B347b, C347b, e358, hR347b, f359, f360, f361⟩
                    · rw [e349]
                      replace hR347a : w_Rep w_TC fr X u l I347a A347a B347a C347a M346 := hR347a
                      replace f352 : c_fi c_ps I_47 I347a := f352
                      replace f353 : c_fa c_pa A_47 A347a := f353
                      replace f354 : (0 ≤ (I347a 2436) ∧ (I347a 2436) ≤ (I347a 773) ∧ ((I347a 2437) = 0 ∨ (I347a 2436) < (I347a 773))) ∧ ((I347a 773) = (I_47 773) ∧ (I347a 2439) = (I_47 2439) ∧ 0 ≤ (I347a 2117)) ∧ (I_47 2436) + 1 ≤ (I347a 2436) ∧ (I347a 1670) + 1 ≤ (I_47 1670) + 2 * ((I347a 2436) - (I_47 2436)) ∧ (I_47 1670) ≤ (I347a 1670) := f354
                      obtain ⟨⟨n362, n363, n364⟩, ⟨n365, n366, n367⟩, n368, n369, n370⟩ := id f354
                      clear f354
                      replace f355 : c_agl A_47 A347a (I_47 1670) := f355
                      replace f356 : c_Wn A347a (c_r (I_47 2439) 4) v348 (I_47 1670) (I347a 1670) := f356
                      have k371 : c_Chq c_P0 A347a (c_r (I 2439) 4) v240 y47_3 (I 1670) (I_47 1670) := c_Chq_agl c_P0_fam hi47_4 f355 (show 0 ≤ (I 1670) by omega) (show (I_47 1670) ≤ (I_47 1670) by omega)
                      clear hi47_4
                      have g372 : c_agl A A347a (I 1670) := c_agl_trans hi47_3 f355 (show (I 1670) ≤ (I_47 1670) by omega)
                      have k373 : c_Wn A347a (c_r (I 2439) 4) v348 (I_47 1670) (I347a 1670) := c_Wn_up f356 (show c_r (I_47 2439) 4 ≤ c_r (I 2439) 4 by unfold c_r; omega)
                      obtain ⟨b374, b375⟩ := c_W_in k373.1
                      show w_W _ _ _ (74, [(0, .ref 38), (1, .int (Int32.ofInt (b))), (2, .int (Int32.ofInt (v240))), (3, .int (Int32.ofInt (y47_3))), (4, .int (Int32.ofInt (y47_4)))], [.int (Int32.ofInt (v348)), .int (Int32.ofInt (y47_3)), .ref 26], M346) _
                      refine w_call (cm := 106) (as := [(0, .ref 26), (1, .int (Int32.ofInt (y47_3))), (2, .int (Int32.ofInt (v348)))]) (rest := []) (o := some (8, 26)) rfl (w_fitR hR347a rfl) (c_chn (y47_3) (v348) hR347a (show 2 ≤ d by omega) ⟨by omega, by omega⟩ ⟨by omega, by omega⟩) (fun r376 M377 q378 => ?_)
                      rcases q378 with ⟨A379, e380, hR378a, f381, f382⟩
                      rw [e380]
                      replace hR378a : w_Rep w_TC fr X u l I347a A379 B347a C347a M377 := hR378a
                      replace f381 : c_fa c_pa A347a A379 := f381
                      replace f382 : c_nxw A347a A379 y47_3 v348 := f382
                      have k383 : ∀ f', (v240 = -1 ∧ f' = v348 ∨ v240 ≠ -1 ∧ f' = v240) → c_Chq c_P0 A379 (c_r (I 2439) 4) f' v348 (I 1670) (I347a 1670) := c_Chq_app c_P0_fam k371 (show (I_47 1670) ≤ (I_47 1670) by omega) f382 (show 0 ≤ (I 1670) by omega) (show (I_47 1670) ≤ 3016 by omega) (show (I_47 1670) ≤ v348 ∧ v348 < (I347a 1670) by omega) k373.1 k373.2 c_P0_win
                      have g384 : c_agl A347a A379 (I 1670) := c_agl_nxw f382 (c_Chq_l k371)
                      have g385 : c_agl A A379 (I 1670) := c_agl_trans g372 g384 (show (I 1670) ≤ (I 1670) by omega)
                      show w_W _ _ _ (77, [(0, .ref 38), (1, .int (Int32.ofInt (b))), (2, .int (Int32.ofInt (v240))), (3, .int (Int32.ofInt (y47_3))), (4, .int (Int32.ofInt (y47_4)))], [.int (Int32.ofInt (v348))], M377) _
                      refine w_adv (n := 1) (F' := (78, [(3, .int (Int32.ofInt (v348))), (0, .ref 38), (1, .int (Int32.ofInt (b))), (2, .int (Int32.ofInt (v240))), (4, .int (Int32.ofInt (y47_4)))], [], M377)) rfl ?_
                      refine w_inc (nL := 5) (a := y47_4) rfl rfl rfl (by decide) ?_
                      refine w_adv (n := 1) (F' := (47, [(4, .int (Int32.ofInt (y47_4 + 1))), (3, .int (Int32.ofInt (v348))), (0, .ref 38), (1, .int (Int32.ofInt (b))), (2, .int (Int32.ofInt (v240)))], [], M377)) rfl ?_
                      refine w_ls (ls := [(0, .ref 38), (1, .int (Int32.ofInt (b))), (2, .int (Int32.ofInt (v240))), (3, .int (Int32.ofInt (v348))), (4, .int (Int32.ofInt (y47_4 + 1)))]) (show List.Nodup [0, 1, 2, 3, 4] by decide) (show List.Nodup [4, 3, 0, 1, 2] by decide) (List.forall_mem_cons.mpr ⟨(List.Mem.tail _ (List.Mem.tail _ (List.Mem.head _))), (List.forall_mem_cons.mpr ⟨(List.Mem.tail _ (List.Mem.tail _ (List.Mem.tail _ (List.Mem.head _)))), (List.forall_mem_cons.mpr ⟨(List.Mem.tail _ (List.Mem.tail _ (List.Mem.tail _ (List.Mem.tail _ (List.Mem.head _))))), (List.forall_mem_cons.mpr ⟨(List.Mem.tail _ (List.Mem.head _)), (List.forall_mem_cons.mpr ⟨(List.Mem.head _), (fun _ h => by cases h)⟩)⟩)⟩)⟩)⟩) ?_
                      exact ih47  (v348) (y47_4 + 1) I347a A379 B347a C347a M377 hR378a ⟨by omega, by omega⟩ ⟨by omega, by omega⟩ (show c_fi c_ps I I347a by exact (c_fi_trans hi47_0 f352)) (show c_fa c_pa A A379 by exact (c_fa_trans (c_fa_trans hi47_1 f353) f381)) (show (0 ≤ (I347a 2436) ∧ (I347a 2436) ≤ (I347a 773) ∧ ((I347a 2437) = 0 ∨ (I347a 2436) < (I347a 773))) ∧ ((I347a 773) = (I 773) ∧ ((b = 0 ∧ (I347a 2439) = (I 2439)) ∨ (¬ b = 0 ∧ (I347a 2439) = (I 2439) + 1)) ∧ 0 ≤ (I347a 2117)) ∧ (I 2436) + 1 ≤ (I347a 2436) ∧ (I347a 1670) + 1 ≤ (I 1670) + 2 * ((I347a 2436) - (I 2436)) ∧ (I 1670) ≤ (I347a 1670) by (repeat' apply And.intro) <;> first | assumption | omega) (show c_agl A A379 (I 1670) by exact g385) (show c_Chq c_P0 A379 (c_r (I 2439) 4) v240 v348 (I 1670) (I347a 1670) by exact k383 _ (by omega)) (show 0 ≤ (y47_4 + 1) ∧ (y47_4 + 1) ≤ 1500 by omega) (show 1500 - (y47_4 + 1) < (fu47 : Int) by omega)
                    · rw [e358]
                      replace hR347b : w_Rep w_TC fr X (u + 6) (l + 64) I347b A347b B347b C347b M346 := hR347b
                      replace f359 : c_fi c_ps I_47 I347b := f359
                      replace f360 : c_fa c_pa A_47 A347b := f360
                      replace f361 : M346.1[t357]? = some (.inr (11, [])) := f361
                      exact Or.inr (⟨t357, I347b, A347b, B347b, C347b, rfl, hR347b, (show c_fi c_ps I I347b by exact (c_fi_trans hi47_0 f359)), (show c_fa c_pa A A347b by exact (c_fa_trans hi47_1 f360)), (show M346.1[t357]? = some (.inr (11, [])) by exact f361)⟩)
                  · rw [e343, e344]
                    show w_W _ _ _ (62, [(0, .ref 38), (1, .int (Int32.ofInt (b))), (2, .int (Int32.ofInt (v240))), (3, .int (Int32.ofInt (y47_3))), (4, .int (Int32.ofInt (y47_4)))], [.int (Int32.ofInt (0))], M_47) _
                    refine w_adv (n := 2) (F' := (85, [(0, .ref 38), (1, .int (Int32.ofInt (b))), (2, .int (Int32.ofInt (v240))), (3, .int (Int32.ofInt (y47_3))), (4, .int (Int32.ofInt (y47_4)))], [.int (Int32.ofInt (b))], M_47)) rfl ?_
                    refine w_br1 (a := b) rfl rfl ⟨by omega, by omega⟩ (fun h386 => ?_) (fun h386 => ?_)
                    · have h386 : ¬ b = 0 := h386
                      show w_W _ _ _ (101, [(0, .ref 38), (1, .int (Int32.ofInt (b))), (2, .int (Int32.ofInt (v240))), (3, .int (Int32.ofInt (y47_3))), (4, .int (Int32.ofInt (y47_4)))], [], M_47) _
                      refine w_adv (n := 2) (F' := (104, [(0, .ref 38), (1, .int (Int32.ofInt (b))), (2, .int (Int32.ofInt (v240))), (3, .int (Int32.ofInt (y47_3))), (4, .int (Int32.ofInt (y47_4)))], [.int (Int32.ofInt (23)), .ref 38], M_47)) rfl ?_
                      refine w_call (cm := 113) (as := [(0, .ref 38), (1, .int (Int32.ofInt (23)))]) (rest := []) (o := some (4, 38)) rfl (w_fitR hR_47 rfl) (c_close (23) hR_47 (show 4 ≤ d by omega) ⟨by omega, by omega⟩ (show l ≤ 100000 by first | assumption | omega) (show -1 ≤ (I_47 2436) ∧ ((I_47 2437) = 0 ∨ (I_47 2436) < (I_47 773)) ∧ (I_47 773) ≤ 1501 ∧ 1 ≤ 23 by first | assumption | omega) (show 0 ≤ (I_47 2439) ∧ (I_47 2439) ≤ 24 by first | assumption | omega)) (fun r387 M388 q389 => ?_)
                      rcases q389 with ⟨zt390, zk391, zv392, e393, hR389a, f394, f395⟩ | ⟨t396, I389b, A389b, B389b, C389b, e397, hR389b, f398, f399, f400⟩
                      · rw [e393]
                        replace hR389a : w_Rep w_TC fr X u l (w_up (w_up (w_up (w_up (w_up I_47 2436 ((I_47 2436) + 1)) 2441 (zt390)) 2437 (zk391)) 2438 (zv392)) 2439 ((I_47 2439) - 1)) A_47 B_47 C_47 M388 := hR389a
                        replace f394 : ((I_47 2436) + 1 < (I_47 773) ∨ zk391 = 0) := f394
                        replace f395 : (I_47 2437) = 23 := f395
                        show w_W _ _ _ (107, [(0, .ref 38), (1, .int (Int32.ofInt (b))), (2, .int (Int32.ofInt (v240))), (3, .int (Int32.ofInt (y47_3))), (4, .int (Int32.ofInt (y47_4)))], [], M388) _
                        refine w_adv (n := 1) (F' := (108, [(0, .ref 38), (1, .int (Int32.ofInt (b))), (2, .int (Int32.ofInt (v240))), (3, .int (Int32.ofInt (y47_3))), (4, .int (Int32.ofInt (y47_4)))], [.ref 38], M388)) rfl ?_
                        refine w_gf (v := .ref 26) hR389a rfl rfl rfl rfl ?_
                        refine w_adv (n := 3) (F' := (115, [(0, .ref 38), (1, .int (Int32.ofInt (b))), (2, .int (Int32.ofInt (v240))), (3, .int (Int32.ofInt (y47_3))), (4, .int (Int32.ofInt (y47_4)))], [.ref 38, .int (Int32.ofInt (v240)), .int (Int32.ofInt (25)), .ref 26], M388)) rfl ?_
                        refine w_call (cm := 89) (as := [(0, .ref 38)]) (rest := [.int (Int32.ofInt (v240)), .int (Int32.ofInt (25)), .ref 26]) (o := some (4, 38)) rfl (w_fitR hR389a rfl) ((hA d (Nat.lt_succ_self d)).1 hR389a (show 10 * (24 - ((I_47 2439) - 1)) + 13 ≤ (d : Int) by omega) (show l ≤ 100000 by first | assumption | omega) (show (0 ≤ (I_47 2436) + 1 ∧ (I_47 2436) + 1 ≤ (I_47 773) ∧ (I_47 773) ≤ 1501 ∧ (zk391 = 0 ∨ (I_47 2436) + 1 < (I_47 773))) ∧ (0 ≤ (I_47 2439) - 1 ∧ (I_47 2439) - 1 ≤ 24 ∧ 0 ≤ (I_47 2117)) ∧ 0 ≤ (I_47 1670) ∧ (I_47 1670) ≤ 2 * ((I_47 2436) + 1) + 1 by (repeat' apply And.intro) <;> first | assumption | omega)) (fun r401 M402 q403 => ?_)
                        rcases q403 with ⟨v404, I403a, A403a, B403a, C403a, e405, ⟨r406, r407⟩, hR403a, f408, f409, f410, f411, f412⟩ | ⟨t413, I403b, A403b, B403b, C403b, e414, hR403b, f415, f416, f417⟩
                        · rw [e405]
                          replace hR403a : w_Rep w_TC fr X u l I403a A403a B403a C403a M402 := hR403a
                          replace f408 : c_fi c_ps (w_up (w_up (w_up (w_up (w_up I_47 2436 ((I_47 2436) + 1)) 2441 (zt390)) 2437 (zk391)) 2438 (zv392)) 2439 ((I_47 2439) - 1)) I403a := f408
                          replace f409 : c_fa c_pa A_47 A403a := f409
                          replace f410 : (0 ≤ (I403a 2436) ∧ (I403a 2436) ≤ (I403a 773) ∧ ((I403a 2437) = 0 ∨ (I403a 2436) < (I403a 773))) ∧ ((I403a 773) = (I_47 773) ∧ (I403a 2439) = (I_47 2439) - 1 ∧ 0 ≤ (I403a 2117)) ∧ ((I_47 2436) + 1) + 1 ≤ (I403a 2436) ∧ (I403a 1670) + 1 ≤ (I_47 1670) + 2 * ((I403a 2436) - ((I_47 2436) + 1)) ∧ (I_47 1670) ≤ (I403a 1670) := f410
                          obtain ⟨⟨n418, n419, n420⟩, ⟨n421, n422, n423⟩, n424, n425, n426⟩ := id f410
                          clear f410
                          replace f411 : c_agl A_47 A403a (I_47 1670) := f411
                          replace f412 : c_Wn A403a (c_r ((I_47 2439) - 1) 3) v404 (I_47 1670) (I403a 1670) := f412
                          have k427 : c_Chq c_P0 A403a (c_r (I 2439) 4) v240 y47_3 (I 1670) (I_47 1670) := c_Chq_agl c_P0_fam hi47_4 f411 (show 0 ≤ (I 1670) by omega) (show (I_47 1670) ≤ (I_47 1670) by omega)
                          clear hi47_4
                          have g428 : c_agl A A403a (I 1670) := c_agl_trans hi47_3 f411 (show (I 1670) ≤ (I_47 1670) by omega)
                          have k429 : c_Wn A403a (c_r (I 2439) 4) v404 (I_47 1670) (I403a 1670) := c_Wn_up f412 (show c_r ((I_47 2439) - 1) 3 ≤ c_r (I 2439) 4 by unfold c_r; omega)
                          obtain ⟨b430, b431⟩ := c_W_in k429.1
                          show w_W _ _ _ (118, [(0, .ref 38), (1, .int (Int32.ofInt (b))), (2, .int (Int32.ofInt (v240))), (3, .int (Int32.ofInt (y47_3))), (4, .int (Int32.ofInt (y47_4)))], [.int (Int32.ofInt (v404)), .int (Int32.ofInt (v240)), .int (Int32.ofInt (25)), .ref 26], M402) _
                          refine w_adv (n := 1) (F' := (119, [(0, .ref 38), (1, .int (Int32.ofInt (b))), (2, .int (Int32.ofInt (v240))), (3, .int (Int32.ofInt (y47_3))), (4, .int (Int32.ofInt (y47_4)))], [.int (Int32.ofInt ((-1))), .int (Int32.ofInt (v404)), .int (Int32.ofInt (v240)), .int (Int32.ofInt (25)), .ref 26], M402)) rfl ?_
                          refine w_call (cm := 94) (as := [(0, .ref 26), (1, .int (Int32.ofInt (25))), (2, .int (Int32.ofInt (v240))), (3, .int (Int32.ofInt (v404))), (4, .int (Int32.ofInt ((-1))))]) (rest := []) (o := some (8, 26)) rfl (w_fitR hR403a rfl) (c_mkn (25) (v240) (v404) ((-1)) hR403a (show 2 ≤ d by omega) ⟨by omega, by omega⟩ ⟨by omega, by omega⟩ ⟨by omega, by omega⟩ ⟨by omega, by omega⟩ (show 0 ≤ (I403a 1670) ∧ (I403a 1670) < 3016 by first | assumption | omega)) (fun r432 M433 q434 => ?_)
                          rcases q434 with ⟨A435, e436, hR434a, f437, f438⟩
                          rw [e436]
                          replace hR434a : w_Rep w_TC fr X u l (w_up I403a 1670 ((I403a 1670) + 1)) A435 B403a C403a M433 := hR434a
                          replace f437 : c_fa c_pa A403a A435 := f437
                          replace f438 : c_mk A403a A435 (I403a 1670) 25 v240 v404 (-1) := f438
                          have k439 : c_Bd A435 (c_W A435 (c_r (I 2439) 4)) (I403a 1670) (I 1670) ((I403a 1670) + 1) := c_Bd_mk f438 (show 0 ≤ (I 1670) by omega) ((c_Chq_end k427)) (show (I_47 1670) ≤ (I403a 1670) by omega) (Or.inr (c_Wn_win k429 (show (I_47 1670) ≤ (I_47 1670) by omega) (show (I403a 1670) ≤ (I403a 1670) by omega)).1)
                          have k440 : c_Chq c_P0 A435 (c_r (I 2439) 4) v240 y47_3 (I 1670) (I_47 1670) := c_Chq_agl c_P0_fam k427 f438.1 (show 0 ≤ (I 1670) by omega) (show (I_47 1670) ≤ (I403a 1670) by omega)
                          clear k427
                          have k441 : c_Wn A435 (c_r (I 2439) 4) v404 (I_47 1670) (I403a 1670) := c_Wn_agl k429 f438.1 (show 0 ≤ (I_47 1670) by omega) (show (I403a 1670) ≤ (I403a 1670) by omega)
                          clear k429
                          have g442 : c_agl A A435 (I 1670) := c_agl_trans g428 f438.1 (show (I 1670) ≤ (I403a 1670) by omega)
                          show w_W _ _ _ (122, [(0, .ref 38), (1, .int (Int32.ofInt (b))), (2, .int (Int32.ofInt (v240))), (3, .int (Int32.ofInt (y47_3))), (4, .int (Int32.ofInt (y47_4)))], [.int (Int32.ofInt ((I403a 1670)))], M433) _
                          refine w_fin (r := .inl (some ((I403a 1670)))) (M' := M433) rfl ?_
                          exact Or.inl ⟨(I403a 1670), (w_up I403a 1670 ((I403a 1670) + 1)), A435, B403a, C403a, rfl, ⟨by omega, by omega⟩, hR434a, (show c_fi c_ps I (w_up I403a 1670 ((I403a 1670) + 1)) by exact (c_fi_up (c_fi_trans (c_fi_up (c_fi_up (c_fi_up (c_fi_up (c_fi_up hi47_0 rfl) rfl) rfl) rfl) rfl) f408) rfl)), (show c_fa c_pa A A435 by exact (c_fa_trans (c_fa_trans hi47_1 f409) f437)), (show (0 ≤ (I403a 2436) ∧ (I403a 2436) ≤ (I403a 773) ∧ ((I403a 2437) = 0 ∨ (I403a 2436) < (I403a 773))) ∧ ((I403a 773) = (I 773) ∧ (I403a 2439) = (I 2439) ∧ 0 ≤ (I403a 2117)) ∧ (I 2436) + 1 ≤ (I403a 2436) ∧ ((I403a 1670) + 1) + 0 ≤ (I 1670) + 2 * ((I403a 2436) - (I 2436)) ∧ (I 1670) ≤ (I403a 1670) + 1 by (repeat' apply And.intro) <;> first | assumption | omega), (show c_agl A A435 (I 1670) by exact g442), (show c_Bd A435 (c_W A435 (c_r (I 2439) 4)) (I403a 1670) (I 1670) ((I403a 1670) + 1) by exact c_BdW_win k439 (show (I 1670) ≤ (I 1670) by omega) (show ((I403a 1670) + 1) ≤ ((I403a 1670) + 1) by omega))⟩
                        · rw [e414]
                          replace hR403b : w_Rep w_TC fr X (u + 6) (l + 64) I403b A403b B403b C403b M402 := hR403b
                          replace f415 : c_fi c_ps (w_up (w_up (w_up (w_up (w_up I_47 2436 ((I_47 2436) + 1)) 2441 (zt390)) 2437 (zk391)) 2438 (zv392)) 2439 ((I_47 2439) - 1)) I403b := f415
                          replace f416 : c_fa c_pa A_47 A403b := f416
                          replace f417 : M402.1[t413]? = some (.inr (11, [])) := f417
                          exact Or.inr (⟨t413, I403b, A403b, B403b, C403b, rfl, hR403b, (show c_fi c_ps I I403b by exact (c_fi_trans (c_fi_up (c_fi_up (c_fi_up (c_fi_up (c_fi_up hi47_0 rfl) rfl) rfl) rfl) rfl) f415)), (show c_fa c_pa A A403b by exact (c_fa_trans hi47_1 f416)), (show M402.1[t413]? = some (.inr (11, [])) by exact f417)⟩)
                      · rw [e397]
                        replace hR389b : w_Rep w_TC fr X (u + 6) (l + 64) I389b A389b B389b C389b M388 := hR389b
                        replace f398 : c_fi c_ps I_47 I389b := f398
                        replace f399 : c_fa c_pa A_47 A389b := f399
                        replace f400 : M388.1[t396]? = some (.inr (11, [])) := f400
                        exact Or.inr (⟨t396, I389b, A389b, B389b, C389b, rfl, hR389b, (show c_fi c_ps I I389b by exact (c_fi_trans hi47_0 f398)), (show c_fa c_pa A A389b by exact (c_fa_trans hi47_1 f399)), (show M388.1[t396]? = some (.inr (11, [])) by exact f400)⟩)
                    · have h386 : ¬ (¬ b = 0) := h386
                      show w_W _ _ _ (88, [(0, .ref 38), (1, .int (Int32.ofInt (b))), (2, .int (Int32.ofInt (v240))), (3, .int (Int32.ofInt (y47_3))), (4, .int (Int32.ofInt (y47_4)))], [], M_47) _
                      refine w_adv (n := 1) (F' := (89, [(0, .ref 38), (1, .int (Int32.ofInt (b))), (2, .int (Int32.ofInt (v240))), (3, .int (Int32.ofInt (y47_3))), (4, .int (Int32.ofInt (y47_4)))], [.ref 38], M_47)) rfl ?_
                      refine w_gf (v := .ref 26) hR_47 rfl rfl rfl rfl ?_
                      refine w_adv (n := 4) (F' := (97, [(0, .ref 38), (1, .int (Int32.ofInt (b))), (2, .int (Int32.ofInt (v240))), (3, .int (Int32.ofInt (y47_3))), (4, .int (Int32.ofInt (y47_4)))], [.int (Int32.ofInt ((-1))), .int (Int32.ofInt ((-1))), .int (Int32.ofInt (v240)), .int (Int32.ofInt (25)), .ref 26], M_47)) rfl ?_
                      refine w_call (cm := 94) (as := [(0, .ref 26), (1, .int (Int32.ofInt (25))), (2, .int (Int32.ofInt (v240))), (3, .int (Int32.ofInt ((-1)))), (4, .int (Int32.ofInt ((-1))))]) (rest := []) (o := some (8, 26)) rfl (w_fitR hR_47 rfl) (c_mkn (25) (v240) ((-1)) ((-1)) hR_47 (show 2 ≤ d by omega) ⟨by omega, by omega⟩ ⟨by omega, by omega⟩ ⟨by omega, by omega⟩ ⟨by omega, by omega⟩ (show 0 ≤ (I_47 1670) ∧ (I_47 1670) < 3016 by first | assumption | omega)) (fun r443 M444 q445 => ?_)
                      rcases q445 with ⟨A446, e447, hR445a, f448, f449⟩
                      rw [e447]
                      replace hR445a : w_Rep w_TC fr X u l (w_up I_47 1670 ((I_47 1670) + 1)) A446 B_47 C_47 M444 := hR445a
                      replace f448 : c_fa c_pa A_47 A446 := f448
                      replace f449 : c_mk A_47 A446 (I_47 1670) 25 v240 (-1) (-1) := f449
                      have k450 : c_Bd A446 (c_W A446 (c_r (I 2439) 4)) (I_47 1670) (I 1670) ((I_47 1670) + 1) := c_Bd_mk f449 (show 0 ≤ (I 1670) by omega) ((c_Chq_end hi47_4)) (show (I_47 1670) ≤ (I_47 1670) by omega) (Or.inl rfl)
                      have k451 : c_Chq c_P0 A446 (c_r (I 2439) 4) v240 y47_3 (I 1670) (I_47 1670) := c_Chq_agl c_P0_fam hi47_4 f449.1 (show 0 ≤ (I 1670) by omega) (show (I_47 1670) ≤ (I_47 1670) by omega)
                      clear hi47_4
                      have g452 : c_agl A A446 (I 1670) := c_agl_trans hi47_3 f449.1 (show (I 1670) ≤ (I_47 1670) by omega)
                      show w_W _ _ _ (100, [(0, .ref 38), (1, .int (Int32.ofInt (b))), (2, .int (Int32.ofInt (v240))), (3, .int (Int32.ofInt (y47_3))), (4, .int (Int32.ofInt (y47_4)))], [.int (Int32.ofInt ((I_47 1670)))], M444) _
                      refine w_fin (r := .inl (some ((I_47 1670)))) (M' := M444) rfl ?_
                      exact Or.inl ⟨(I_47 1670), (w_up I_47 1670 ((I_47 1670) + 1)), A446, B_47, C_47, rfl, ⟨by omega, by omega⟩, hR445a, (show c_fi c_ps I (w_up I_47 1670 ((I_47 1670) + 1)) by exact (c_fi_up hi47_0 rfl)), (show c_fa c_pa A A446 by exact (c_fa_trans hi47_1 f448)), (show (0 ≤ (I_47 2436) ∧ (I_47 2436) ≤ (I_47 773) ∧ ((I_47 2437) = 0 ∨ (I_47 2436) < (I_47 773))) ∧ ((I_47 773) = (I 773) ∧ (I_47 2439) = (I 2439) ∧ 0 ≤ (I_47 2117)) ∧ (I 2436) + 1 ≤ (I_47 2436) ∧ ((I_47 1670) + 1) + 0 ≤ (I 1670) + 2 * ((I_47 2436) - (I 2436)) ∧ (I 1670) ≤ (I_47 1670) + 1 by (repeat' apply And.intro) <;> first | assumption | omega), (show c_agl A A446 (I 1670) by exact g452), (show c_Bd A446 (c_W A446 (c_r (I 2439) 4)) (I_47 1670) (I 1670) ((I_47 1670) + 1) by exact c_BdW_win k450 (show (I 1670) ≤ (I 1670) by omega) (show ((I_47 1670) + 1) ≤ ((I_47 1670) + 1) by omega))⟩
            refine w_ls (ls := [(0, .ref 38), (1, .int (Int32.ofInt (b))), (2, .int (Int32.ofInt (v240))), (3, .int (Int32.ofInt (v240))), (4, .int (Int32.ofInt (0)))]) (show List.Nodup [0, 1, 2, 3, 4] by decide) (show List.Nodup [4, 3, 2, 0, 1] by decide) (List.forall_mem_cons.mpr ⟨(List.Mem.tail _ (List.Mem.tail _ (List.Mem.tail _ (List.Mem.head _)))), (List.forall_mem_cons.mpr ⟨(List.Mem.tail _ (List.Mem.tail _ (List.Mem.tail _ (List.Mem.tail _ (List.Mem.head _))))), (List.forall_mem_cons.mpr ⟨(List.Mem.tail _ (List.Mem.tail _ (List.Mem.head _))), (List.forall_mem_cons.mpr ⟨(List.Mem.tail _ (List.Mem.head _)), (List.forall_mem_cons.mpr ⟨(List.Mem.head _), (fun _ h => by cases h)⟩)⟩)⟩)⟩)⟩) ?_
            exact lp47 ((1500 - 0 : Int).toNat + 1)  (v240) (0) I239a A239a B239a C239a M238 hR239a ⟨by omega, by omega⟩ ⟨by omega, by omega⟩ (show c_fi c_ps I I239a by exact (c_fi_trans (c_fi_up (c_fi_up (c_fi_up (c_fi_up (c_fi_up c_fi_refl rfl) rfl) rfl) rfl) rfl) f244)) (show c_fa c_pa A A239a by exact f245) (show (0 ≤ (I239a 2436) ∧ (I239a 2436) ≤ (I239a 773) ∧ ((I239a 2437) = 0 ∨ (I239a 2436) < (I239a 773))) ∧ ((I239a 773) = (I 773) ∧ ((b = 0 ∧ (I239a 2439) = (I 2439)) ∨ (¬ b = 0 ∧ (I239a 2439) = (I 2439) + 1)) ∧ 0 ≤ (I239a 2117)) ∧ (I 2436) + 1 ≤ (I239a 2436) ∧ (I239a 1670) + 1 ≤ (I 1670) + 2 * ((I239a 2436) - (I 2436)) ∧ (I 1670) ≤ (I239a 1670) by (repeat' apply And.intro) <;> first | assumption | omega) (show c_agl A A239a (I 1670) by exact g263) (show c_Chq c_P0 A239a (c_r (I 2439) 4) v240 v240 (I 1670) (I239a 1670) by exact c_Chq_one k264 (show 0 ≤ (I 1670) by omega)) (show 0 ≤ (0 : Int) ∧ (0 : Int) ≤ 1500 by omega) (show 1500 - 0 < (((1500 - 0 : Int).toNat + 1 : Nat) : Int) by omega)
          · rw [e250]
            replace hR239b : w_Rep w_TC fr X (u + 6) (l + 64) I239b A239b B239b C239b M238 := hR239b
            replace f251 : c_fi c_ps (w_up (w_up (w_up (w_up (w_up I 2436 ((I 2436) + 1)) 2441 (zt226)) 2437 (zk227)) 2438 (zv228)) 2439 ((I 2439) + 1)) I239b := f251
            replace f252 : c_fa c_pa A A239b := f252
            replace f253 : M238.1[t249]? = some (.inr (11, [])) := f253
            exact Or.inr (⟨t249, I239b, A239b, B239b, C239b, rfl, hR239b, (show c_fi c_ps I I239b by exact (c_fi_trans (c_fi_up (c_fi_up (c_fi_up (c_fi_up (c_fi_up c_fi_refl rfl) rfl) rfl) rfl) rfl) f251)), (show c_fa c_pa A A239b by exact f252), (show M238.1[t249]? = some (.inr (11, [])) by exact f253)⟩)
        · rw [e233]
          replace hR225b : w_Rep w_TC fr X (u + 6) (l + 64) I225b A225b B225b C225b M224 := hR225b
          replace f234 : c_fi c_ps I I225b := f234
          replace f235 : c_fa c_pa A A225b := f235
          replace f236 : M224.1[t232]? = some (.inr (11, [])) := f236
          exact Or.inr (⟨t232, I225b, A225b, B225b, C225b, rfl, hR225b, (show c_fi c_ps I I225b by exact f234), (show c_fa c_pa A A225b by exact f235), (show M224.1[t232]? = some (.inr (11, [])) by exact f236)⟩)
    · have h221 : ¬ ((I 2437) = 30) := h221
      show w_W _ _ _ (13, [(0, .ref 38), (1, .int (Int32.ofInt (b)))], [], M) _
      refine w_adv (n := 1) (F' := (14, [(0, .ref 38), (1, .int (Int32.ofInt (b)))], [.ref 38], M)) rfl ?_
      refine w_gf (v := .ref 26) hR rfl rfl rfl rfl ?_
      refine w_adv (n := 3) (F' := (21, [(0, .ref 38), (1, .int (Int32.ofInt (b)))], [.ref 38, .int (Int32.ofInt ((-1))), .int (Int32.ofInt (25)), .ref 26], M)) rfl ?_
      refine w_call (cm := 89) (as := [(0, .ref 38)]) (rest := [.int (Int32.ofInt ((-1))), .int (Int32.ofInt (25)), .ref 26]) (o := some (4, 38)) rfl (w_fitR hR rfl) ((hA d (Nat.lt_succ_self d)).1 hR (show 10 * (24 - (I 2439)) + 13 ≤ (d : Int) by omega) (show l ≤ 100000 by first | assumption | omega) (show (0 ≤ (I 2436) ∧ (I 2436) ≤ (I 773) ∧ (I 773) ≤ 1501 ∧ ((I 2437) = 0 ∨ (I 2436) < (I 773))) ∧ (0 ≤ (I 2439) ∧ (I 2439) ≤ 24 ∧ 0 ≤ (I 2117)) ∧ 0 ≤ (I 1670) ∧ (I 1670) ≤ 2 * (I 2436) + 1 by (repeat' apply And.intro) <;> first | assumption | omega)) (fun r453 M454 q455 => ?_)
      rcases q455 with ⟨v456, I455a, A455a, B455a, C455a, e457, ⟨r458, r459⟩, hR455a, f460, f461, f462, f463, f464⟩ | ⟨t465, I455b, A455b, B455b, C455b, e466, hR455b, f467, f468, f469⟩
      · rw [e457]
        replace hR455a : w_Rep w_TC fr X u l I455a A455a B455a C455a M454 := hR455a
        replace f460 : c_fi c_ps I I455a := f460
        replace f461 : c_fa c_pa A A455a := f461
        replace f462 : (0 ≤ (I455a 2436) ∧ (I455a 2436) ≤ (I455a 773) ∧ ((I455a 2437) = 0 ∨ (I455a 2436) < (I455a 773))) ∧ ((I455a 773) = (I 773) ∧ (I455a 2439) = (I 2439) ∧ 0 ≤ (I455a 2117)) ∧ (I 2436) + 1 ≤ (I455a 2436) ∧ (I455a 1670) + 1 ≤ (I 1670) + 2 * ((I455a 2436) - (I 2436)) ∧ (I 1670) ≤ (I455a 1670) := f462
        obtain ⟨⟨n470, n471, n472⟩, ⟨n473, n474, n475⟩, n476, n477, n478⟩ := id f462
        clear f462
        replace f463 : c_agl A A455a (I 1670) := f463
        replace f464 : c_Wn A455a (c_r (I 2439) 3) v456 (I 1670) (I455a 1670) := f464
        have g479 : c_agl A A455a (I 1670) := c_agl_trans c_agl_refl f463 (show (I 1670) ≤ (I 1670) by omega)
        have k480 : c_Wn A455a (c_r (I 2439) 4) v456 (I 1670) (I455a 1670) := c_Wn_up f464 (show c_r (I 2439) 3 ≤ c_r (I 2439) 4 by unfold c_r; omega)
        obtain ⟨b481, b482⟩ := c_W_in k480.1
        show w_W _ _ _ (24, [(0, .ref 38), (1, .int (Int32.ofInt (b)))], [.int (Int32.ofInt (v456)), .int (Int32.ofInt ((-1))), .int (Int32.ofInt (25)), .ref 26], M454) _
        refine w_adv (n := 1) (F' := (25, [(0, .ref 38), (1, .int (Int32.ofInt (b)))], [.int (Int32.ofInt ((-1))), .int (Int32.ofInt (v456)), .int (Int32.ofInt ((-1))), .int (Int32.ofInt (25)), .ref 26], M454)) rfl ?_
        refine w_call (cm := 94) (as := [(0, .ref 26), (1, .int (Int32.ofInt (25))), (2, .int (Int32.ofInt ((-1)))), (3, .int (Int32.ofInt (v456))), (4, .int (Int32.ofInt ((-1))))]) (rest := []) (o := some (8, 26)) rfl (w_fitR hR455a rfl) (c_mkn (25) ((-1)) (v456) ((-1)) hR455a (show 2 ≤ d by omega) ⟨by omega, by omega⟩ ⟨by omega, by omega⟩ ⟨by omega, by omega⟩ ⟨by omega, by omega⟩ (show 0 ≤ (I455a 1670) ∧ (I455a 1670) < 3016 by first | assumption | omega)) (fun r483 M484 q485 => ?_)
        rcases q485 with ⟨A486, e487, hR485a, f488, f489⟩
        rw [e487]
        replace hR485a : w_Rep w_TC fr X u l (w_up I455a 1670 ((I455a 1670) + 1)) A486 B455a C455a M484 := hR485a
        replace f488 : c_fa c_pa A455a A486 := f488
        replace f489 : c_mk A455a A486 (I455a 1670) 25 (-1) v456 (-1) := f489
        have k490 : c_Bd A486 (c_W A486 (c_r (I 2439) 4)) (I455a 1670) (I 1670) ((I455a 1670) + 1) := c_Bd_mk f489 (show 0 ≤ (I 1670) by omega) (.nil (show (I 1670) ≤ (I 1670) by omega)) (show (I 1670) ≤ (I455a 1670) by omega) (Or.inr (c_Wn_win k480 (show (I 1670) ≤ (I 1670) by omega) (show (I455a 1670) ≤ (I455a 1670) by omega)).1)
        have k491 : c_Wn A486 (c_r (I 2439) 4) v456 (I 1670) (I455a 1670) := c_Wn_agl k480 f489.1 (show 0 ≤ (I 1670) by omega) (show (I455a 1670) ≤ (I455a 1670) by omega)
        clear k480
        have g492 : c_agl A A486 (I 1670) := c_agl_trans g479 f489.1 (show (I 1670) ≤ (I455a 1670) by omega)
        show w_W _ _ _ (28, [(0, .ref 38), (1, .int (Int32.ofInt (b)))], [.int (Int32.ofInt ((I455a 1670)))], M484) _
        refine w_fin (r := .inl (some ((I455a 1670)))) (M' := M484) rfl ?_
        exact Or.inl ⟨(I455a 1670), (w_up I455a 1670 ((I455a 1670) + 1)), A486, B455a, C455a, rfl, ⟨by omega, by omega⟩, hR485a, (show c_fi c_ps I (w_up I455a 1670 ((I455a 1670) + 1)) by exact (c_fi_up f460 rfl)), (show c_fa c_pa A A486 by exact (c_fa_trans f461 f488)), (show (0 ≤ (I455a 2436) ∧ (I455a 2436) ≤ (I455a 773) ∧ ((I455a 2437) = 0 ∨ (I455a 2436) < (I455a 773))) ∧ ((I455a 773) = (I 773) ∧ (I455a 2439) = (I 2439) ∧ 0 ≤ (I455a 2117)) ∧ (I 2436) + 1 ≤ (I455a 2436) ∧ ((I455a 1670) + 1) + 0 ≤ (I 1670) + 2 * ((I455a 2436) - (I 2436)) ∧ (I 1670) ≤ (I455a 1670) + 1 by (repeat' apply And.intro) <;> first | assumption | omega), (show c_agl A A486 (I 1670) by exact g492), (show c_Bd A486 (c_W A486 (c_r (I 2439) 4)) (I455a 1670) (I 1670) ((I455a 1670) + 1) by exact c_BdW_win k490 (show (I 1670) ≤ (I 1670) by omega) (show ((I455a 1670) + 1) ≤ ((I455a 1670) + 1) by omega))⟩
      · rw [e466]
        replace hR455b : w_Rep w_TC fr X (u + 6) (l + 64) I455b A455b B455b C455b M454 := hR455b
        replace f467 : c_fi c_ps I I455b := f467
        replace f468 : c_fa c_pa A A455b := f468
        replace f469 : M454.1[t465]? = some (.inr (11, [])) := f469
        exact Or.inr (⟨t465, I455b, A455b, B455b, C455b, rfl, hR455b, (show c_fi c_ps I I455b by exact f467), (show c_fa c_pa A A455b by exact f468), (show M454.1[t465]? = some (.inr (11, [])) by exact f469)⟩)
theorem c_all (L : Nat) (xs : Nat → Int32) : ∀ d, c_ALL L xs d
  | 0 => fun _ h => absurd h (Nat.not_lt_zero _)
  | d + 1 => fun d' h => by
    by_cases e : d' < d
    · exact c_all L xs d d' e
    · have e2 : d' = d := by omega
      subst e2
      exact ⟨c_exp (c_all L xs d'), c_block (c_all L xs d')⟩
