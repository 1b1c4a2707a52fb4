/-! PARSER of the class: blocks. -/
/-! c_block -/
set_option maxHeartbeats 100000000 in
set_option maxRecDepth 100000 in
theorem c_block {L : Nat} {xs : Nat → Int32} {d : Nat} {fr : Nat → Bool} {X : Nat → Option (q_C (Nat → Int32))} {u l : Nat} {I : Nat → Int} {A : Nat → Int → Int} {B C : Nat → Nat} {M : w_M} (hA : c_ALL L xs d) (b : Int) (hR : w_Rep w_TC fr X u l I A B C M) (hd : 10 * (24 - (I 2439)) + 15 ≤ (d : Int)) (r_b : w_in b) (hl : l ≤ 7000000) (hNU : (0 ≤ (I 2436) ∧ (I 2436) ≤ (I 773) ∧ (I 773) ≤ 1501 ∧ ((I 2437) = 0 ∨ (I 2436) < (I 773))) ∧ (0 ≤ (I 2439) ∧ (I 2439) ≤ 24 ∧ 0 ≤ (I 2117)) ∧ 0 ≤ (I 1670) ∧ (I 1670) ≤ 2 * (I 2436) + 1) : w_W (z_P L xs) d 88 (0, [(0, .ref 38), (1, .int (Int32.ofInt (b)))], [], M) (c_block_Q fr X u l I A B C M b) := by
  obtain ⟨ra_b, rb_b⟩ := r_b
  obtain ⟨d, rfl⟩ : ∃ d0, d = d0 + 1 := ⟨d - 1, by omega⟩
  refine w_adv (n := 1) (F' := (1, [(0, .ref 38), (1, .int (Int32.ofInt (b)))], [.int (Int32.ofInt (b))], M)) rfl ?_
  refine w_br1 (a := b) rfl rfl ⟨by omega, by omega⟩ (fun h1 => ?_) (fun h1 => ?_)
  · have h1 : b = 0 := h1
    show w_W _ _ _ (29, [(0, .ref 38), (1, .int (Int32.ofInt (b)))], [], M) _
    refine w_adv (n := 1) (F' := (30, [(0, .ref 38), (1, .int (Int32.ofInt (b)))], [.int (Int32.ofInt (b))], M)) rfl ?_
    refine w_br1 (a := b) rfl rfl ⟨by omega, by omega⟩ (fun h2 => ?_) (fun h2 => ?_)
    · have h2 : b = 0 := h2
      show w_W _ _ _ (37, [(0, .ref 38), (1, .int (Int32.ofInt (b)))], [], M) _
      refine w_adv (n := 1) (F' := (38, [(0, .ref 38), (1, .int (Int32.ofInt (b)))], [.ref 38], M)) rfl ?_
      refine w_call (cm := 133) (as := [(0, .ref 38)]) (rest := []) (o := some (4, 38)) rfl (w_fitR hR rfl) (c_oneItem (c_ALL_dn hA) hR (show 10 * (24 - (I 2439)) + 14 ≤ (d : Int) by omega) (show l ≤ 7000000 by first | assumption | omega) (show (0 ≤ (I 2436) ∧ (I 2436) ≤ (I 773) ∧ (I 773) ≤ 1501 ∧ ((I 2437) = 0 ∨ (I 2436) < (I 773))) ∧ (0 ≤ (I 2439) ∧ (I 2439) ≤ 24 ∧ 0 ≤ (I 2117)) ∧ 0 ≤ (I 1670) ∧ (I 1670) ≤ 2 * (I 2436) + 1 by (repeat' apply And.intro) <;> first | assumption | omega)) (fun r3 M4 q5 => ?_)
      rcases q5 with ⟨v6, I5a, A5a, B5a, C5a, e7, ⟨r8, r9⟩, hR5a, f10, f11, f12, f13, f14⟩ | ⟨t15, I5b, A5b, B5b, C5b, e16, hR5b, f17, f18, f19⟩
      · rw [e7]
        replace hR5a : w_Rep w_TC fr X u l I5a A5a B5a C5a M4 := hR5a
        replace f10 : c_fi c_ps I I5a := f10
        replace f11 : c_fa c_pa A A5a := f11
        replace f12 : (0 ≤ (I5a 2436) ∧ (I5a 2436) ≤ (I5a 773) ∧ ((I5a 2437) = 0 ∨ (I5a 2436) < (I5a 773))) ∧ ((I5a 773) = (I 773) ∧ (I5a 2439) = (I 2439) ∧ 0 ≤ (I5a 2117)) ∧ (I 2436) + 1 ≤ (I5a 2436) ∧ (I5a 1670) + 1 ≤ (I 1670) + 2 * ((I5a 2436) - (I 2436)) ∧ (I 1670) ≤ (I5a 1670) := f12
        obtain ⟨⟨n20, n21, n22⟩, ⟨n23, n24, n25⟩, n26, n27, n28⟩ := id f12
        clear f12
        replace f13 : c_agl A A5a (I 1670) := f13
        replace f14 : c_Wn A5a (c_r (I 2439) 4) v6 (I 1670) (I5a 1670) := f14
        have g29 : c_agl A A5a (I 1670) := c_agl_trans c_agl_refl f13 (show (I 1670) ≤ (I 1670) by omega)
        have k30 : c_Wn A5a (c_r (I 2439) 4) v6 (I 1670) (I5a 1670) := c_Wn_up f14 (show c_r (I 2439) 4 ≤ c_r (I 2439) 4 by unfold c_r; omega)
        obtain ⟨b31, b32⟩ := c_W_in k30.1
        show w_W _ _ _ (41, [(0, .ref 38), (1, .int (Int32.ofInt (b)))], [.int (Int32.ofInt (v6))], M4) _
        refine w_adv (n := 5) (F' := (47, [(4, .int (Int32.ofInt (0))), (3, .int (Int32.ofInt (v6))), (2, .int (Int32.ofInt (v6))), (0, .ref 38), (1, .int (Int32.ofInt (b)))], [], M4)) rfl ?_
        have lp47 : ∀ fu47 : Nat, ∀ (y47_3 : Int) (y47_4 : Int) (I_47 : Nat → Int) (A_47 : Nat → Int → Int) (B_47 C_47 : Nat → Nat) (M_47 : w_M) (hR_47 : w_Rep w_TC fr X u l I_47 A_47 B_47 C_47 M_47), w_in y47_3 → w_in y47_4 → c_fi c_ps I I_47 → c_fa c_pa A A_47 → (0 ≤ (I_47 2436) ∧ (I_47 2436) ≤ (I_47 773) ∧ ((I_47 2437) = 0 ∨ (I_47 2436) < (I_47 773))) ∧ ((I_47 773) = (I 773) ∧ ((b = 0 ∧ (I_47 2439) = (I 2439)) ∨ (¬ b = 0 ∧ (I_47 2439) = (I 2439) + 1)) ∧ 0 ≤ (I_47 2117)) ∧ (I 2436) + 1 ≤ (I_47 2436) ∧ (I_47 1670) + 1 ≤ (I 1670) + 2 * ((I_47 2436) - (I 2436)) ∧ (I 1670) ≤ (I_47 1670) → c_agl A A_47 (I 1670) → c_Chq c_P0 A_47 (c_r (I 2439) 4) v6 y47_3 (I 1670) (I_47 1670) → 0 ≤ y47_4 ∧ y47_4 ≤ 1500 → 1500 - y47_4 < (fu47 : Int) → w_W (z_P L xs) (d + 1) 88 (47, [(0, .ref 38), (1, .int (Int32.ofInt (b))), (2, .int (Int32.ofInt (v6))), (3, .int (Int32.ofInt (y47_3))), (4, .int (Int32.ofInt (y47_4)))], [], M_47) (c_block_Q fr X u l I A B C M b) := by
          intro fu47
          induction fu47 with
          | zero =>
            intro y47_3 y47_4 I_47 A_47 B_47 C_47 M_47 hR_47 ⟨ra_y47_3, rb_y47_3⟩ ⟨ra_y47_4, rb_y47_4⟩ hi47_0 hi47_1 hi47_2 hi47_3 hi47_4 hi47_5 hn47
            exfalso
            omega
          | succ fu47 ih47 =>
            intro y47_3 y47_4 I_47 A_47 B_47 C_47 M_47 hR_47 ⟨ra_y47_3, rb_y47_3⟩ ⟨ra_y47_4, rb_y47_4⟩ hi47_0 hi47_1 hi47_2 hi47_3 hi47_4 hi47_5 hn47
            refine w_adv (n := 2) (F' := (52, [(0, .ref 38), (1, .int (Int32.ofInt (b))), (2, .int (Int32.ofInt (v6))), (3, .int (Int32.ofInt (y47_3))), (4, .int (Int32.ofInt (y47_4)))], [.int (Int32.ofInt (1500)), .int (Int32.ofInt (y47_4))], M_47)) rfl ?_
            refine w_br2 (a := y47_4) (b := 1500) rfl rfl ⟨by omega, by omega⟩ ⟨by omega, by omega⟩ (fun h33 => ?_) (fun h33 => ?_)
            · have h33 : y47_4 ≥ 1500 := h33
              show w_W _ _ _ (84, [(0, .ref 38), (1, .int (Int32.ofInt (b))), (2, .int (Int32.ofInt (v6))), (3, .int (Int32.ofInt (y47_3))), (4, .int (Int32.ofInt (y47_4)))], [], M_47) _
              refine w_adv (n := 1) (F' := (85, [(0, .ref 38), (1, .int (Int32.ofInt (b))), (2, .int (Int32.ofInt (v6))), (3, .int (Int32.ofInt (y47_3))), (4, .int (Int32.ofInt (y47_4)))], [.int (Int32.ofInt (b))], M_47)) rfl ?_
              refine w_br1 (a := b) rfl rfl ⟨by omega, by omega⟩ (fun h34 => ?_) (fun h34 => ?_)
              · have h34 : ¬ b = 0 := h34
                show w_W _ _ _ (101, [(0, .ref 38), (1, .int (Int32.ofInt (b))), (2, .int (Int32.ofInt (v6))), (3, .int (Int32.ofInt (y47_3))), (4, .int (Int32.ofInt (y47_4)))], [], M_47) _
                refine w_adv (n := 2) (F' := (104, [(0, .ref 38), (1, .int (Int32.ofInt (b))), (2, .int (Int32.ofInt (v6))), (3, .int (Int32.ofInt (y47_3))), (4, .int (Int32.ofInt (y47_4)))], [.int (Int32.ofInt (23)), .ref 38], M_47)) rfl ?_
                refine w_call (cm := 113) (as := [(0, .ref 38), (1, .int (Int32.ofInt (23)))]) (rest := []) (o := some (4, 38)) rfl (w_fitR hR_47 rfl) (c_close (23) hR_47 (show 4 ≤ d by omega) ⟨by omega, by omega⟩ (show l ≤ 7000000 by first | assumption | omega) (show -1 ≤ (I_47 2436) ∧ ((I_47 2437) = 0 ∨ (I_47 2436) < (I_47 773)) ∧ (I_47 773) ≤ 1501 ∧ 1 ≤ 23 by first | assumption | omega) (show 0 ≤ (I_47 2439) ∧ (I_47 2439) ≤ 24 by first | assumption | omega)) (fun r35 M36 q37 => ?_)
                rcases q37 with ⟨zt38, zk39, zv40, e41, hR37a, f42, f43⟩ | ⟨t44, I37b, A37b, B37b, C37b, e45, hR37b, f46, f47, f48⟩
                · rw [e41]
                  replace hR37a : w_Rep w_TC fr X u l (w_up (w_up (w_up (w_up (w_up I_47 2436 ((I_47 2436) + 1)) 2441 (zt38)) 2437 (zk39)) 2438 (zv40)) 2439 ((I_47 2439) - 1)) A_47 B_47 C_47 M36 := hR37a
                  replace f42 : ((I_47 2436) + 1 < (I_47 773) ∨ zk39 = 0) := f42
                  replace f43 : (I_47 2437) = 23 := f43
                  show w_W _ _ _ (107, [(0, .ref 38), (1, .int (Int32.ofInt (b))), (2, .int (Int32.ofInt (v6))), (3, .int (Int32.ofInt (y47_3))), (4, .int (Int32.ofInt (y47_4)))], [], M36) _
                  refine w_adv (n := 1) (F' := (108, [(0, .ref 38), (1, .int (Int32.ofInt (b))), (2, .int (Int32.ofInt (v6))), (3, .int (Int32.ofInt (y47_3))), (4, .int (Int32.ofInt (y47_4)))], [.ref 38], M36)) rfl ?_
                  refine w_gf (v := .ref 26) hR37a rfl rfl rfl rfl ?_
                  refine w_adv (n := 3) (F' := (115, [(0, .ref 38), (1, .int (Int32.ofInt (b))), (2, .int (Int32.ofInt (v6))), (3, .int (Int32.ofInt (y47_3))), (4, .int (Int32.ofInt (y47_4)))], [.ref 38, .int (Int32.ofInt (v6)), .int (Int32.ofInt (25)), .ref 26], M36)) rfl ?_
                  refine w_call (cm := 89) (as := [(0, .ref 38)]) (rest := [.int (Int32.ofInt (v6)), .int (Int32.ofInt (25)), .ref 26]) (o := some (4, 38)) rfl (w_fitR hR37a rfl) ((hA d (Nat.lt_succ_self d)).1 hR37a (show 10 * (24 - ((I_47 2439) - 1)) + 13 ≤ (d : Int) by omega) (show l ≤ 7000000 by first | assumption | omega) (show (0 ≤ (I_47 2436) + 1 ∧ (I_47 2436) + 1 ≤ (I_47 773) ∧ (I_47 773) ≤ 1501 ∧ (zk39 = 0 ∨ (I_47 2436) + 1 < (I_47 773))) ∧ (0 ≤ (I_47 2439) - 1 ∧ (I_47 2439) - 1 ≤ 24 ∧ 0 ≤ (I_47 2117)) ∧ 0 ≤ (I_47 1670) ∧ (I_47 1670) ≤ 2 * ((I_47 2436) + 1) + 1 by (repeat' apply And.intro) <;> first | assumption | omega)) (fun r49 M50 q51 => ?_)
                  rcases q51 with ⟨v52, I51a, A51a, B51a, C51a, e53, ⟨r54, r55⟩, hR51a, f56, f57, f58, f59, f60⟩ | ⟨t61, I51b, A51b, B51b, C51b, e62, hR51b, f63, f64, f65⟩
                  · rw [e53]
                    replace hR51a : w_Rep w_TC fr X u l I51a A51a B51a C51a M50 := hR51a
                    replace f56 : c_fi c_ps (w_up (w_up (w_up (w_up (w_up I_47 2436 ((I_47 2436) + 1)) 2441 (zt38)) 2437 (zk39)) 2438 (zv40)) 2439 ((I_47 2439) - 1)) I51a := f56
                    replace f57 : c_fa c_pa A_47 A51a := f57
                    replace f58 : (0 ≤ (I51a 2436) ∧ (I51a 2436) ≤ (I51a 773) ∧ ((I51a 2437) = 0 ∨ (I51a 2436) < (I51a 773))) ∧ ((I51a 773) = (I_47 773) ∧ (I51a 2439) = (I_47 2439) - 1 ∧ 0 ≤ (I51a 2117)) ∧ ((I_47 2436) + 1) + 1 ≤ (I51a 2436) ∧ (I51a 1670) + 1 ≤ (I_47 1670) + 2 * ((I51a 2436) - ((I_47 2436) + 1)) ∧ (I_47 1670) ≤ (I51a 1670) := f58
                    obtain ⟨⟨n66, n67, n68⟩, ⟨n69, n70, n71⟩, n72, n73, n74⟩ := id f58
                    clear f58
                    replace f59 : c_agl A_47 A51a (I_47 1670) := f59
                    replace f60 : c_Wn A51a (c_r ((I_47 2439) - 1) 3) v52 (I_47 1670) (I51a 1670) := f60
                    have k75 : c_Chq c_P0 A51a (c_r (I 2439) 4) v6 y47_3 (I 1670) (I_47 1670) := c_Chq_agl c_P0_fam hi47_4 f59 (show 0 ≤ (I 1670) by omega) (show (I_47 1670) ≤ (I_47 1670) by omega)
                    clear hi47_4
                    have g76 : c_agl A A51a (I 1670) := c_agl_trans hi47_3 f59 (show (I 1670) ≤ (I_47 1670) by omega)
                    have k77 : c_Wn A51a (c_r (I 2439) 4) v52 (I_47 1670) (I51a 1670) := c_Wn_up f60 (show c_r ((I_47 2439) - 1) 3 ≤ c_r (I 2439) 4 by unfold c_r; omega)
                    obtain ⟨b78, b79⟩ := c_W_in k77.1
                    show w_W _ _ _ (118, [(0, .ref 38), (1, .int (Int32.ofInt (b))), (2, .int (Int32.ofInt (v6))), (3, .int (Int32.ofInt (y47_3))), (4, .int (Int32.ofInt (y47_4)))], [.int (Int32.ofInt (v52)), .int (Int32.ofInt (v6)), .int (Int32.ofInt (25)), .ref 26], M50) _
                    refine w_adv (n := 1) (F' := (119, [(0, .ref 38), (1, .int (Int32.ofInt (b))), (2, .int (Int32.ofInt (v6))), (3, .int (Int32.ofInt (y47_3))), (4, .int (Int32.ofInt (y47_4)))], [.int (Int32.ofInt ((-1))), .int (Int32.ofInt (v52)), .int (Int32.ofInt (v6)), .int (Int32.ofInt (25)), .ref 26], M50)) rfl ?_
                    refine w_call (cm := 94) (as := [(0, .ref 26), (1, .int (Int32.ofInt (25))), (2, .int (Int32.ofInt (v6))), (3, .int (Int32.ofInt (v52))), (4, .int (Int32.ofInt ((-1))))]) (rest := []) (o := some (8, 26)) rfl (w_fitR hR51a rfl) (c_mkn (25) (v6) (v52) ((-1)) hR51a (show 2 ≤ d by omega) ⟨by omega, by omega⟩ ⟨by omega, by omega⟩ ⟨by omega, by omega⟩ ⟨by omega, by omega⟩ (show 0 ≤ (I51a 1670) ∧ (I51a 1670) < 3016 by first | assumption | omega)) (fun r80 M81 q82 => ?_)
                    rcases q82 with ⟨A83, e84, hR82a, f85, f86⟩
                    rw [e84]
                    replace hR82a : w_Rep w_TC fr X u l (w_up I51a 1670 ((I51a 1670) + 1)) A83 B51a C51a M81 := hR82a
                    replace f85 : c_fa c_pa A51a A83 := f85
                    replace f86 : c_mk A51a A83 (I51a 1670) 25 v6 v52 (-1) := f86
                    have k87 : c_Bd A83 (c_W A83 (c_r (I 2439) 4)) (I51a 1670) (I 1670) ((I51a 1670) + 1) := c_Bd_mk f86 (show 0 ≤ (I 1670) by omega) ((c_Chq_end k75)) (show (I_47 1670) ≤ (I51a 1670) by omega) (Or.inr (c_Wn_win k77 (show (I_47 1670) ≤ (I_47 1670) by omega) (show (I51a 1670) ≤ (I51a 1670) by omega)).1)
                    have g88 : c_agl A A83 (I 1670) := c_agl_trans g76 f86.1 (show (I 1670) ≤ (I51a 1670) by omega)
                    show w_W _ _ _ (122, [(0, .ref 38), (1, .int (Int32.ofInt (b))), (2, .int (Int32.ofInt (v6))), (3, .int (Int32.ofInt (y47_3))), (4, .int (Int32.ofInt (y47_4)))], [.int (Int32.ofInt ((I51a 1670)))], M81) _
                    refine w_fin (r := .inl (some ((I51a 1670)))) (M' := M81) rfl ?_
                    exact Or.inl ⟨(I51a 1670), (w_up I51a 1670 ((I51a 1670) + 1)), A83, B51a, C51a, rfl, ⟨by omega, by omega⟩, hR82a, (show c_fi c_ps I (w_up I51a 1670 ((I51a 1670) + 1)) by exact (c_fi_up (c_fi_trans (c_fi_up (c_fi_up (c_fi_up (c_fi_up (c_fi_up hi47_0 rfl) rfl) rfl) rfl) rfl) f56) rfl)), (show c_fa c_pa A A83 by exact (c_fa_trans (c_fa_trans hi47_1 f57) f85)), (show (0 ≤ (I51a 2436) ∧ (I51a 2436) ≤ (I51a 773) ∧ ((I51a 2437) = 0 ∨ (I51a 2436) < (I51a 773))) ∧ ((I51a 773) = (I 773) ∧ (I51a 2439) = (I 2439) ∧ 0 ≤ (I51a 2117)) ∧ (I 2436) + 1 ≤ (I51a 2436) ∧ ((I51a 1670) + 1) + 0 ≤ (I 1670) + 2 * ((I51a 2436) - (I 2436)) ∧ (I 1670) ≤ (I51a 1670) + 1 by (repeat' apply And.intro) <;> first | assumption | omega), (show c_agl A A83 (I 1670) by exact g88), (show c_Bd A83 (c_W A83 (c_r (I 2439) 4)) (I51a 1670) (I 1670) ((I51a 1670) + 1) by exact c_BdW_win k87 (show (I 1670) ≤ (I 1670) by omega) (show ((I51a 1670) + 1) ≤ ((I51a 1670) + 1) by omega))⟩
                  · rw [e62]
                    replace hR51b : w_Rep w_TC fr X (u + 6) (l + 64) I51b A51b B51b C51b M50 := hR51b
                    replace f63 : c_fi c_ps (w_up (w_up (w_up (w_up (w_up I_47 2436 ((I_47 2436) + 1)) 2441 (zt38)) 2437 (zk39)) 2438 (zv40)) 2439 ((I_47 2439) - 1)) I51b := f63
                    replace f64 : c_fa c_pa A_47 A51b := f64
                    replace f65 : M50.1[t61]? = some (.inr (11, [])) := f65
                    exact Or.inr (⟨t61, I51b, A51b, B51b, C51b, rfl, hR51b, (show c_fi c_ps I I51b by exact (c_fi_trans (c_fi_up (c_fi_up (c_fi_up (c_fi_up (c_fi_up hi47_0 rfl) rfl) rfl) rfl) rfl) f63)), (show c_fa c_pa A A51b by exact (c_fa_trans hi47_1 f64)), (show M50.1[t61]? = some (.inr (11, [])) by exact f65)⟩)
                · rw [e45]
                  replace hR37b : w_Rep w_TC fr X (u + 6) (l + 64) I37b A37b B37b C37b M36 := hR37b
                  replace f46 : c_fi c_ps I_47 I37b := f46
                  replace f47 : c_fa c_pa A_47 A37b := f47
                  replace f48 : M36.1[t44]? = some (.inr (11, [])) := f48
                  exact Or.inr (⟨t44, I37b, A37b, B37b, C37b, rfl, hR37b, (show c_fi c_ps I I37b by exact (c_fi_trans hi47_0 f46)), (show c_fa c_pa A A37b by exact (c_fa_trans hi47_1 f47)), (show M36.1[t44]? = some (.inr (11, [])) by exact f48)⟩)
              · have h34 : ¬ (¬ b = 0) := h34
                show w_W _ _ _ (88, [(0, .ref 38), (1, .int (Int32.ofInt (b))), (2, .int (Int32.ofInt (v6))), (3, .int (Int32.ofInt (y47_3))), (4, .int (Int32.ofInt (y47_4)))], [], M_47) _
                refine w_adv (n := 1) (F' := (89, [(0, .ref 38), (1, .int (Int32.ofInt (b))), (2, .int (Int32.ofInt (v6))), (3, .int (Int32.ofInt (y47_3))), (4, .int (Int32.ofInt (y47_4)))], [.ref 38], M_47)) rfl ?_
                refine w_gf (v := .ref 26) hR_47 rfl rfl rfl rfl ?_
                refine w_adv (n := 4) (F' := (97, [(0, .ref 38), (1, .int (Int32.ofInt (b))), (2, .int (Int32.ofInt (v6))), (3, .int (Int32.ofInt (y47_3))), (4, .int (Int32.ofInt (y47_4)))], [.int (Int32.ofInt ((-1))), .int (Int32.ofInt ((-1))), .int (Int32.ofInt (v6)), .int (Int32.ofInt (25)), .ref 26], M_47)) rfl ?_
                refine w_call (cm := 94) (as := [(0, .ref 26), (1, .int (Int32.ofInt (25))), (2, .int (Int32.ofInt (v6))), (3, .int (Int32.ofInt ((-1)))), (4, .int (Int32.ofInt ((-1))))]) (rest := []) (o := some (8, 26)) rfl (w_fitR hR_47 rfl) (c_mkn (25) (v6) ((-1)) ((-1)) hR_47 (show 2 ≤ d by omega) ⟨by omega, by omega⟩ ⟨by omega, by omega⟩ ⟨by omega, by omega⟩ ⟨by omega, by omega⟩ (show 0 ≤ (I_47 1670) ∧ (I_47 1670) < 3016 by first | assumption | omega)) (fun r89 M90 q91 => ?_)
                rcases q91 with ⟨A92, e93, hR91a, f94, f95⟩
                rw [e93]
                replace hR91a : w_Rep w_TC fr X u l (w_up I_47 1670 ((I_47 1670) + 1)) A92 B_47 C_47 M90 := hR91a
                replace f94 : c_fa c_pa A_47 A92 := f94
                replace f95 : c_mk A_47 A92 (I_47 1670) 25 v6 (-1) (-1) := f95
                have k96 : c_Bd A92 (c_W A92 (c_r (I 2439) 4)) (I_47 1670) (I 1670) ((I_47 1670) + 1) := c_Bd_mk f95 (show 0 ≤ (I 1670) by omega) ((c_Chq_end hi47_4)) (show (I_47 1670) ≤ (I_47 1670) by omega) (Or.inl rfl)
                have g97 : c_agl A A92 (I 1670) := c_agl_trans hi47_3 f95.1 (show (I 1670) ≤ (I_47 1670) by omega)
                show w_W _ _ _ (100, [(0, .ref 38), (1, .int (Int32.ofInt (b))), (2, .int (Int32.ofInt (v6))), (3, .int (Int32.ofInt (y47_3))), (4, .int (Int32.ofInt (y47_4)))], [.int (Int32.ofInt ((I_47 1670)))], M90) _
                refine w_fin (r := .inl (some ((I_47 1670)))) (M' := M90) rfl ?_
                exact Or.inl ⟨(I_47 1670), (w_up I_47 1670 ((I_47 1670) + 1)), A92, B_47, C_47, rfl, ⟨by omega, by omega⟩, hR91a, (show c_fi c_ps I (w_up I_47 1670 ((I_47 1670) + 1)) by exact (c_fi_up hi47_0 rfl)), (show c_fa c_pa A A92 by exact (c_fa_trans hi47_1 f94)), (show (0 ≤ (I_47 2436) ∧ (I_47 2436) ≤ (I_47 773) ∧ ((I_47 2437) = 0 ∨ (I_47 2436) < (I_47 773))) ∧ ((I_47 773) = (I 773) ∧ (I_47 2439) = (I 2439) ∧ 0 ≤ (I_47 2117)) ∧ (I 2436) + 1 ≤ (I_47 2436) ∧ ((I_47 1670) + 1) + 0 ≤ (I 1670) + 2 * ((I_47 2436) - (I 2436)) ∧ (I 1670) ≤ (I_47 1670) + 1 by (repeat' apply And.intro) <;> first | assumption | omega), (show c_agl A A92 (I 1670) by exact g97), (show c_Bd A92 (c_W A92 (c_r (I 2439) 4)) (I_47 1670) (I 1670) ((I_47 1670) + 1) by exact c_BdW_win k96 (show (I 1670) ≤ (I 1670) by omega) (show ((I_47 1670) + 1) ≤ ((I_47 1670) + 1) by omega))⟩
            · have h33 : ¬ (y47_4 ≥ 1500) := h33
              show w_W _ _ _ (55, [(0, .ref 38), (1, .int (Int32.ofInt (b))), (2, .int (Int32.ofInt (v6))), (3, .int (Int32.ofInt (y47_3))), (4, .int (Int32.ofInt (y47_4)))], [], M_47) _
              refine w_adv (n := 1) (F' := (56, [(0, .ref 38), (1, .int (Int32.ofInt (b))), (2, .int (Int32.ofInt (v6))), (3, .int (Int32.ofInt (y47_3))), (4, .int (Int32.ofInt (y47_4)))], [.ref 38], M_47)) rfl ?_
              refine w_gf (v := .int (Int32.ofInt ((I_47 2437)))) hR_47 rfl rfl rfl rfl ?_
              obtain ⟨r98, r99⟩ : -2147483648 ≤ (I_47 2437) ∧ (I_47 2437) ≤ 2147483647 := hR_47.ri 2437
              refine w_call (cm := 136) (as := [(0, .int (Int32.ofInt ((I_47 2437))))]) (rest := []) (o := none) rfl (trivial) (c_beginsItem ((I_47 2437)) hR_47 (show 2 ≤ d by omega) ⟨by omega, by omega⟩) (fun r100 M101 q102 => ?_)
              rcases q102 with ⟨e103, e104, f105⟩ | ⟨e106, e107⟩
              · rw [e103, e104]
                replace f105 : ¬ (I_47 2437) = 0 := f105
                show w_W _ _ _ (62, [(0, .ref 38), (1, .int (Int32.ofInt (b))), (2, .int (Int32.ofInt (v6))), (3, .int (Int32.ofInt (y47_3))), (4, .int (Int32.ofInt (y47_4)))], [.int (Int32.ofInt (1))], M_47) _
                refine w_adv (n := 2) (F' := (66, [(0, .ref 38), (1, .int (Int32.ofInt (b))), (2, .int (Int32.ofInt (v6))), (3, .int (Int32.ofInt (y47_3))), (4, .int (Int32.ofInt (y47_4)))], [.ref 38], M_47)) rfl ?_
                refine w_gf (v := .ref 26) hR_47 rfl rfl rfl rfl ?_
                refine w_adv (n := 2) (F' := (71, [(0, .ref 38), (1, .int (Int32.ofInt (b))), (2, .int (Int32.ofInt (v6))), (3, .int (Int32.ofInt (y47_3))), (4, .int (Int32.ofInt (y47_4)))], [.ref 38, .int (Int32.ofInt (y47_3)), .ref 26], M_47)) rfl ?_
                refine w_call (cm := 133) (as := [(0, .ref 38)]) (rest := [.int (Int32.ofInt (y47_3)), .ref 26]) (o := some (4, 38)) rfl (w_fitR hR_47 rfl) (c_oneItem (c_ALL_dn hA) hR_47 (show 10 * (24 - (I_47 2439)) + 14 ≤ (d : Int) by omega) (show l ≤ 7000000 by first | assumption | omega) (show (0 ≤ (I_47 2436) ∧ (I_47 2436) ≤ (I_47 773) ∧ (I_47 773) ≤ 1501 ∧ ((I_47 2437) = 0 ∨ (I_47 2436) < (I_47 773))) ∧ (0 ≤ (I_47 2439) ∧ (I_47 2439) ≤ 24 ∧ 0 ≤ (I_47 2117)) ∧ 0 ≤ (I_47 1670) ∧ (I_47 1670) ≤ 2 * (I_47 2436) + 1 by (repeat' apply And.intro) <;> first | assumption | omega)) (fun r108 M109 q110 => ?_)
                rcases q110 with ⟨v111, I110a, A110a, B110a, C110a, e112, ⟨r113, r114⟩, hR110a, f115, f116, f117, f118, f119⟩ | ⟨t120, I110b, A110b, B110b, C110b, e121, hR110b, f122, f123, f124⟩
                · rw [e112]
                  replace hR110a : w_Rep w_TC fr X u l I110a A110a B110a C110a M109 := hR110a
                  replace f115 : c_fi c_ps I_47 I110a := f115
                  replace f116 : c_fa c_pa A_47 A110a := f116
                  replace f117 : (0 ≤ (I110a 2436) ∧ (I110a 2436) ≤ (I110a 773) ∧ ((I110a 2437) = 0 ∨ (I110a 2436) < (I110a 773))) ∧ ((I110a 773) = (I_47 773) ∧ (I110a 2439) = (I_47 2439) ∧ 0 ≤ (I110a 2117)) ∧ (I_47 2436) + 1 ≤ (I110a 2436) ∧ (I110a 1670) + 1 ≤ (I_47 1670) + 2 * ((I110a 2436) - (I_47 2436)) ∧ (I_47 1670) ≤ (I110a 1670) := f117
                  obtain ⟨⟨n125, n126, n127⟩, ⟨n128, n129, n130⟩, n131, n132, n133⟩ := id f117
                  clear f117
                  replace f118 : c_agl A_47 A110a (I_47 1670) := f118
                  replace f119 : c_Wn A110a (c_r (I_47 2439) 4) v111 (I_47 1670) (I110a 1670) := f119
                  have k134 : c_Chq c_P0 A110a (c_r (I 2439) 4) v6 y47_3 (I 1670) (I_47 1670) := c_Chq_agl c_P0_fam hi47_4 f118 (show 0 ≤ (I 1670) by omega) (show (I_47 1670) ≤ (I_47 1670) by omega)
                  clear hi47_4
                  have g135 : c_agl A A110a (I 1670) := c_agl_trans hi47_3 f118 (show (I 1670) ≤ (I_47 1670) by omega)
                  have k136 : c_Wn A110a (c_r (I 2439) 4) v111 (I_47 1670) (I110a 1670) := c_Wn_up f119 (show c_r (I_47 2439) 4 ≤ c_r (I 2439) 4 by unfold c_r; omega)
                  obtain ⟨b137, b138⟩ := c_W_in k136.1
                  show w_W _ _ _ (74, [(0, .ref 38), (1, .int (Int32.ofInt (b))), (2, .int (Int32.ofInt (v6))), (3, .int (Int32.ofInt (y47_3))), (4, .int (Int32.ofInt (y47_4)))], [.int (Int32.ofInt (v111)), .int (Int32.ofInt (y47_3)), .ref 26], M109) _
                  refine w_call (cm := 106) (as := [(0, .ref 26), (1, .int (Int32.ofInt (y47_3))), (2, .int (Int32.ofInt (v111)))]) (rest := []) (o := some (8, 26)) rfl (w_fitR hR110a rfl) (c_chn (y47_3) (v111) hR110a (show 2 ≤ d by omega) ⟨by omega, by omega⟩ ⟨by omega, by omega⟩) (fun r139 M140 q141 => ?_)
                  rcases q141 with ⟨A142, e143, hR141a, f144, f145⟩
                  rw [e143]
                  replace hR141a : w_Rep w_TC fr X u l I110a A142 B110a C110a M140 := hR141a
                  replace f144 : c_fa c_pa A110a A142 := f144
                  replace f145 : c_nxw A110a A142 y47_3 v111 := f145
                  have k146 : ∀ f', (v6 = -1 ∧ f' = v111 ∨ v6 ≠ -1 ∧ f' = v6) → c_Chq c_P0 A142 (c_r (I 2439) 4) f' v111 (I 1670) (I110a 1670) := c_Chq_app c_P0_fam k134 (show (I_47 1670) ≤ (I_47 1670) by omega) f145 (show 0 ≤ (I 1670) by omega) (show (I_47 1670) ≤ 3016 by omega) (show (I_47 1670) ≤ v111 ∧ v111 < (I110a 1670) by omega) k136.1 k136.2 c_P0_win
                  have g147 : c_agl A110a A142 (I 1670) := c_agl_nxw f145 (c_Chq_l k134)
                  have g148 : c_agl A A142 (I 1670) := c_agl_trans g135 g147 (show (I 1670) ≤ (I 1670) by omega)
                  show w_W _ _ _ (77, [(0, .ref 38), (1, .int (Int32.ofInt (b))), (2, .int (Int32.ofInt (v6))), (3, .int (Int32.ofInt (y47_3))), (4, .int (Int32.ofInt (y47_4)))], [.int (Int32.ofInt (v111))], M140) _
                  refine w_adv (n := 1) (F' := (78, [(3, .int (Int32.ofInt (v111))), (0, .ref 38), (1, .int (Int32.ofInt (b))), (2, .int (Int32.ofInt (v6))), (4, .int (Int32.ofInt (y47_4)))], [], M140)) rfl ?_
                  refine w_inc (nL := 5) (a := y47_4) rfl rfl rfl (by decide) ?_
                  refine w_adv (n := 1) (F' := (47, [(4, .int (Int32.ofInt (y47_4 + 1))), (3, .int (Int32.ofInt (v111))), (0, .ref 38), (1, .int (Int32.ofInt (b))), (2, .int (Int32.ofInt (v6)))], [], M140)) rfl ?_
                  refine w_ls (ls := [(0, .ref 38), (1, .int (Int32.ofInt (b))), (2, .int (Int32.ofInt (v6))), (3, .int (Int32.ofInt (v111))), (4, .int (Int32.ofInt (y47_4 + 1)))]) (show List.Nodup [0, 1, 2, 3, 4] by decide) (show List.Nodup [4, 3, 0, 1, 2] by decide) (List.forall_mem_cons.mpr ⟨(List.Mem.tail _ (List.Mem.tail _ (List.Mem.head _))), (List.forall_mem_cons.mpr ⟨(List.Mem.tail _ (List.Mem.tail _ (List.Mem.tail _ (List.Mem.head _)))), (List.forall_mem_cons.mpr ⟨(List.Mem.tail _ (List.Mem.tail _ (List.Mem.tail _ (List.Mem.tail _ (List.Mem.head _))))), (List.forall_mem_cons.mpr ⟨(List.Mem.tail _ (List.Mem.head _)), (List.forall_mem_cons.mpr ⟨(List.Mem.head _), (fun _ h => by cases h)⟩)⟩)⟩)⟩)⟩) ?_
                  exact ih47  (v111) (y47_4 + 1) I110a A142 B110a C110a M140 hR141a ⟨by omega, by omega⟩ ⟨by omega, by omega⟩ (show c_fi c_ps I I110a by exact (c_fi_trans hi47_0 f115)) (show c_fa c_pa A A142 by exact (c_fa_trans (c_fa_trans hi47_1 f116) f144)) (show (0 ≤ (I110a 2436) ∧ (I110a 2436) ≤ (I110a 773) ∧ ((I110a 2437) = 0 ∨ (I110a 2436) < (I110a 773))) ∧ ((I110a 773) = (I 773) ∧ ((b = 0 ∧ (I110a 2439) = (I 2439)) ∨ (¬ b = 0 ∧ (I110a 2439) = (I 2439) + 1)) ∧ 0 ≤ (I110a 2117)) ∧ (I 2436) + 1 ≤ (I110a 2436) ∧ (I110a 1670) + 1 ≤ (I 1670) + 2 * ((I110a 2436) - (I 2436)) ∧ (I 1670) ≤ (I110a 1670) by (repeat' apply And.intro) <;> first | assumption | omega) (show c_agl A A142 (I 1670) by exact g148) (show c_Chq c_P0 A142 (c_r (I 2439) 4) v6 v111 (I 1670) (I110a 1670) by exact k146 _ (by omega)) (show 0 ≤ (y47_4 + 1) ∧ (y47_4 + 1) ≤ 1500 by omega) (show 1500 - (y47_4 + 1) < (fu47 : Int) by omega)
                · rw [e121]
                  replace hR110b : w_Rep w_TC fr X (u + 6) (l + 64) I110b A110b B110b C110b M109 := hR110b
                  replace f122 : c_fi c_ps I_47 I110b := f122
                  replace f123 : c_fa c_pa A_47 A110b := f123
                  replace f124 : M109.1[t120]? = some (.inr (11, [])) := f124
                  exact Or.inr (⟨t120, I110b, A110b, B110b, C110b, rfl, hR110b, (show c_fi c_ps I I110b by exact (c_fi_trans hi47_0 f122)), (show c_fa c_pa A A110b by exact (c_fa_trans hi47_1 f123)), (show M109.1[t120]? = some (.inr (11, [])) by exact f124)⟩)
              · rw [e106, e107]
                show w_W _ _ _ (62, [(0, .ref 38), (1, .int (Int32.ofInt (b))), (2, .int (Int32.ofInt (v6))), (3, .int (Int32.ofInt (y47_3))), (4, .int (Int32.ofInt (y47_4)))], [.int (Int32.ofInt (0))], M_47) _
                refine w_adv (n := 2) (F' := (85, [(0, .ref 38), (1, .int (Int32.ofInt (b))), (2, .int (Int32.ofInt (v6))), (3, .int (Int32.ofInt (y47_3))), (4, .int (Int32.ofInt (y47_4)))], [.int (Int32.ofInt (b))], M_47)) rfl ?_
                refine w_br1 (a := b) rfl rfl ⟨by omega, by omega⟩ (fun h149 => ?_) (fun h149 => ?_)
                · have h149 : ¬ b = 0 := h149
                  show w_W _ _ _ (101, [(0, .ref 38), (1, .int (Int32.ofInt (b))), (2, .int (Int32.ofInt (v6))), (3, .int (Int32.ofInt (y47_3))), (4, .int (Int32.ofInt (y47_4)))], [], M_47) _
                  refine w_adv (n := 2) (F' := (104, [(0, .ref 38), (1, .int (Int32.ofInt (b))), (2, .int (Int32.ofInt (v6))), (3, .int (Int32.ofInt (y47_3))), (4, .int (Int32.ofInt (y47_4)))], [.int (Int32.ofInt (23)), .ref 38], M_47)) rfl ?_
                  refine w_call (cm := 113) (as := [(0, .ref 38), (1, .int (Int32.ofInt (23)))]) (rest := []) (o := some (4, 38)) rfl (w_fitR hR_47 rfl) (c_close (23) hR_47 (show 4 ≤ d by omega) ⟨by omega, by omega⟩ (show l ≤ 7000000 by first | assumption | omega) (show -1 ≤ (I_47 2436) ∧ ((I_47 2437) = 0 ∨ (I_47 2436) < (I_47 773)) ∧ (I_47 773) ≤ 1501 ∧ 1 ≤ 23 by first | assumption | omega) (show 0 ≤ (I_47 2439) ∧ (I_47 2439) ≤ 24 by first | assumption | omega)) (fun r150 M151 q152 => ?_)
                  rcases q152 with ⟨zt153, zk154, zv155, e156, hR152a, f157, f158⟩ | ⟨t159, I152b, A152b, B152b, C152b, e160, hR152b, f161, f162, f163⟩
                  · rw [e156]
                    replace hR152a : w_Rep w_TC fr X u l (w_up (w_up (w_up (w_up (w_up I_47 2436 ((I_47 2436) + 1)) 2441 (zt153)) 2437 (zk154)) 2438 (zv155)) 2439 ((I_47 2439) - 1)) A_47 B_47 C_47 M151 := hR152a
                    replace f157 : ((I_47 2436) + 1 < (I_47 773) ∨ zk154 = 0) := f157
                    replace f158 : (I_47 2437) = 23 := f158
                    show w_W _ _ _ (107, [(0, .ref 38), (1, .int (Int32.ofInt (b))), (2, .int (Int32.ofInt (v6))), (3, .int (Int32.ofInt (y47_3))), (4, .int (Int32.ofInt (y47_4)))], [], M151) _
                    refine w_adv (n := 1) (F' := (108, [(0, .ref 38), (1, .int (Int32.ofInt (b))), (2, .int (Int32.ofInt (v6))), (3, .int (Int32.ofInt (y47_3))), (4, .int (Int32.ofInt (y47_4)))], [.ref 38], M151)) rfl ?_
                    refine w_gf (v := .ref 26) hR152a rfl rfl rfl rfl ?_
                    refine w_adv (n := 3) (F' := (115, [(0, .ref 38), (1, .int (Int32.ofInt (b))), (2, .int (Int32.ofInt (v6))), (3, .int (Int32.ofInt (y47_3))), (4, .int (Int32.ofInt (y47_4)))], [.ref 38, .int (Int32.ofInt (v6)), .int (Int32.ofInt (25)), .ref 26], M151)) rfl ?_
                    refine w_call (cm := 89) (as := [(0, .ref 38)]) (rest := [.int (Int32.ofInt (v6)), .int (Int32.ofInt (25)), .ref 26]) (o := some (4, 38)) rfl (w_fitR hR152a rfl) ((hA d (Nat.lt_succ_self d)).1 hR152a (show 10 * (24 - ((I_47 2439) - 1)) + 13 ≤ (d : Int) by omega) (show l ≤ 7000000 by first | assumption | omega) (show (0 ≤ (I_47 2436) + 1 ∧ (I_47 2436) + 1 ≤ (I_47 773) ∧ (I_47 773) ≤ 1501 ∧ (zk154 = 0 ∨ (I_47 2436) + 1 < (I_47 773))) ∧ (0 ≤ (I_47 2439) - 1 ∧ (I_47 2439) - 1 ≤ 24 ∧ 0 ≤ (I_47 2117)) ∧ 0 ≤ (I_47 1670) ∧ (I_47 1670) ≤ 2 * ((I_47 2436) + 1) + 1 by (repeat' apply And.intro) <;> first | assumption | omega)) (fun r164 M165 q166 => ?_)
                    rcases q166 with ⟨v167, I166a, A166a, B166a, C166a, e168, ⟨r169, r170⟩, hR166a, f171, f172, f173, f174, f175⟩ | ⟨t176, I166b, A166b, B166b, C166b, e177, hR166b, f178, f179, f180⟩
                    · rw [e168]
                      replace hR166a : w_Rep w_TC fr X u l I166a A166a B166a C166a M165 := hR166a
                      replace f171 : c_fi c_ps (w_up (w_up (w_up (w_up (w_up I_47 2436 ((I_47 2436) + 1)) 2441 (zt153)) 2437 (zk154)) 2438 (zv155)) 2439 ((I_47 2439) - 1)) I166a := f171
                      replace f172 : c_fa c_pa A_47 A166a := f172
                      replace f173 : (0 ≤ (I166a 2436) ∧ (I166a 2436) ≤ (I166a 773) ∧ ((I166a 2437) = 0 ∨ (I166a 2436) < (I166a 773))) ∧ ((I166a 773) = (I_47 773) ∧ (I166a 2439) = (I_47 2439) - 1 ∧ 0 ≤ (I166a 2117)) ∧ ((I_47 2436) + 1) + 1 ≤ (I166a 2436) ∧ (I166a 1670) + 1 ≤ (I_47 1670) + 2 * ((I166a 2436) - ((I_47 2436) + 1)) ∧ (I_47 1670) ≤ (I166a 1670) := f173
                      obtain ⟨⟨n181, n182, n183⟩, ⟨n184, n185, n186⟩, n187, n188, n189⟩ := id f173
                      clear f173
                      replace f174 : c_agl A_47 A166a (I_47 1670) := f174
                      replace f175 : c_Wn A166a (c_r ((I_47 2439) - 1) 3) v167 (I_47 1670) (I166a 1670) := f175
                      have k190 : c_Chq c_P0 A166a (c_r (I 2439) 4) v6 y47_3 (I 1670) (I_47 1670) := c_Chq_agl c_P0_fam hi47_4 f174 (show 0 ≤ (I 1670) by omega) (show (I_47 1670) ≤ (I_47 1670) by omega)
                      clear hi47_4
                      have g191 : c_agl A A166a (I 1670) := c_agl_trans hi47_3 f174 (show (I 1670) ≤ (I_47 1670) by omega)
                      have k192 : c_Wn A166a (c_r (I 2439) 4) v167 (I_47 1670) (I166a 1670) := c_Wn_up f175 (show c_r ((I_47 2439) - 1) 3 ≤ c_r (I 2439) 4 by unfold c_r; omega)
                      obtain ⟨b193, b194⟩ := c_W_in k192.1
                      show w_W _ _ _ (118, [(0, .ref 38), (1, .int (Int32.ofInt (b))), (2, .int (Int32.ofInt (v6))), (3, .int (Int32.ofInt (y47_3))), (4, .int (Int32.ofInt (y47_4)))], [.int (Int32.ofInt (v167)), .int (Int32.ofInt (v6)), .int (Int32.ofInt (25)), .ref 26], M165) _
                      refine w_adv (n := 1) (F' := (119, [(0, .ref 38), (1, .int (Int32.ofInt (b))), (2, .int (Int32.ofInt (v6))), (3, .int (Int32.ofInt (y47_3))), (4, .int (Int32.ofInt (y47_4)))], [.int (Int32.ofInt ((-1))), .int (Int32.ofInt (v167)), .int (Int32.ofInt (v6)), .int (Int32.ofInt (25)), .ref 26], M165)) rfl ?_
                      refine w_call (cm := 94) (as := [(0, .ref 26), (1, .int (Int32.ofInt (25))), (2, .int (Int32.ofInt (v6))), (3, .int (Int32.ofInt (v167))), (4, .int (Int32.ofInt ((-1))))]) (rest := []) (o := some (8, 26)) rfl (w_fitR hR166a rfl) (c_mkn (25) (v6) (v167) ((-1)) hR166a (show 2 ≤ d by omega) ⟨by omega, by omega⟩ ⟨by omega, by omega⟩ ⟨by omega, by omega⟩ ⟨by omega, by omega⟩ (show 0 ≤ (I166a 1670) ∧ (I166a 1670) < 3016 by first | assumption | omega)) (fun r195 M196 q197 => ?_)
                      rcases q197 with ⟨A198, e199, hR197a, f200, f201⟩
                      rw [e199]
                      replace hR197a : w_Rep w_TC fr X u l (w_up I166a 1670 ((I166a 1670) + 1)) A198 B166a C166a M196 := hR197a
                      replace f200 : c_fa c_pa A166a A198 := f200
                      replace f201 : c_mk A166a A198 (I166a 1670) 25 v6 v167 (-1) := f201
                      have k202 : c_Bd A198 (c_W A198 (c_r (I 2439) 4)) (I166a 1670) (I 1670) ((I166a 1670) + 1) := c_Bd_mk f201 (show 0 ≤ (I 1670) by omega) ((c_Chq_end k190)) (show (I_47 1670) ≤ (I166a 1670) by omega) (Or.inr (c_Wn_win k192 (show (I_47 1670) ≤ (I_47 1670) by omega) (show (I166a 1670) ≤ (I166a 1670) by omega)).1)
                      have g203 : c_agl A A198 (I 1670) := c_agl_trans g191 f201.1 (show (I 1670) ≤ (I166a 1670) by omega)
                      show w_W _ _ _ (122, [(0, .ref 38), (1, .int (Int32.ofInt (b))), (2, .int (Int32.ofInt (v6))), (3, .int (Int32.ofInt (y47_3))), (4, .int (Int32.ofInt (y47_4)))], [.int (Int32.ofInt ((I166a 1670)))], M196) _
                      refine w_fin (r := .inl (some ((I166a 1670)))) (M' := M196) rfl ?_
                      exact Or.inl ⟨(I166a 1670), (w_up I166a 1670 ((I166a 1670) + 1)), A198, B166a, C166a, rfl, ⟨by omega, by omega⟩, hR197a, (show c_fi c_ps I (w_up I166a 1670 ((I166a 1670) + 1)) by exact (c_fi_up (c_fi_trans (c_fi_up (c_fi_up (c_fi_up (c_fi_up (c_fi_up hi47_0 rfl) rfl) rfl) rfl) rfl) f171) rfl)), (show c_fa c_pa A A198 by exact (c_fa_trans (c_fa_trans hi47_1 f172) f200)), (show (0 ≤ (I166a 2436) ∧ (I166a 2436) ≤ (I166a 773) ∧ ((I166a 2437) = 0 ∨ (I166a 2436) < (I166a 773))) ∧ ((I166a 773) = (I 773) ∧ (I166a 2439) = (I 2439) ∧ 0 ≤ (I166a 2117)) ∧ (I 2436) + 1 ≤ (I166a 2436) ∧ ((I166a 1670) + 1) + 0 ≤ (I 1670) + 2 * ((I166a 2436) - (I 2436)) ∧ (I 1670) ≤ (I166a 1670) + 1 by (repeat' apply And.intro) <;> first | assumption | omega), (show c_agl A A198 (I 1670) by exact g203), (show c_Bd A198 (c_W A198 (c_r (I 2439) 4)) (I166a 1670) (I 1670) ((I166a 1670) + 1) by exact c_BdW_win k202 (show (I 1670) ≤ (I 1670) by omega) (show ((I166a 1670) + 1) ≤ ((I166a 1670) + 1) by omega))⟩
                    · rw [e177]
                      replace hR166b : w_Rep w_TC fr X (u + 6) (l + 64) I166b A166b B166b C166b M165 := hR166b
                      replace f178 : c_fi c_ps (w_up (w_up (w_up (w_up (w_up I_47 2436 ((I_47 2436) + 1)) 2441 (zt153)) 2437 (zk154)) 2438 (zv155)) 2439 ((I_47 2439) - 1)) I166b := f178
                      replace f179 : c_fa c_pa A_47 A166b := f179
                      replace f180 : M165.1[t176]? = some (.inr (11, [])) := f180
                      exact Or.inr (⟨t176, I166b, A166b, B166b, C166b, rfl, hR166b, (show c_fi c_ps I I166b by exact (c_fi_trans (c_fi_up (c_fi_up (c_fi_up (c_fi_up (c_fi_up hi47_0 rfl) rfl) rfl) rfl) rfl) f178)), (show c_fa c_pa A A166b by exact (c_fa_trans hi47_1 f179)), (show M165.1[t176]? = some (.inr (11, [])) by exact f180)⟩)
                  · rw [e160]
                    replace hR152b : w_Rep w_TC fr X (u + 6) (l + 64) I152b A152b B152b C152b M151 := hR152b
                    replace f161 : c_fi c_ps I_47 I152b := f161
                    replace f162 : c_fa c_pa A_47 A152b := f162
                    replace f163 : M151.1[t159]? = some (.inr (11, [])) := f163
                    exact Or.inr (⟨t159, I152b, A152b, B152b, C152b, rfl, hR152b, (show c_fi c_ps I I152b by exact (c_fi_trans hi47_0 f161)), (show c_fa c_pa A A152b by exact (c_fa_trans hi47_1 f162)), (show M151.1[t159]? = some (.inr (11, [])) by exact f163)⟩)
                · have h149 : ¬ (¬ b = 0) := h149
                  show w_W _ _ _ (88, [(0, .ref 38), (1, .int (Int32.ofInt (b))), (2, .int (Int32.ofInt (v6))), (3, .int (Int32.ofInt (y47_3))), (4, .int (Int32.ofInt (y47_4)))], [], M_47) _
                  refine w_adv (n := 1) (F' := (89, [(0, .ref 38), (1, .int (Int32.ofInt (b))), (2, .int (Int32.ofInt (v6))), (3, .int (Int32.ofInt (y47_3))), (4, .int (Int32.ofInt (y47_4)))], [.ref 38], M_47)) rfl ?_
                  refine w_gf (v := .ref 26) hR_47 rfl rfl rfl rfl ?_
                  refine w_adv (n := 4) (F' := (97, [(0, .ref 38), (1, .int (Int32.ofInt (b))), (2, .int (Int32.ofInt (v6))), (3, .int (Int32.ofInt (y47_3))), (4, .int (Int32.ofInt (y47_4)))], [.int (Int32.ofInt ((-1))), .int (Int32.ofInt ((-1))), .int (Int32.ofInt (v6)), .int (Int32.ofInt (25)), .ref 26], M_47)) rfl ?_
                  refine w_call (cm := 94) (as := [(0, .ref 26), (1, .int (Int32.ofInt (25))), (2, .int (Int32.ofInt (v6))), (3, .int (Int32.ofInt ((-1)))), (4, .int (Int32.ofInt ((-1))))]) (rest := []) (o := some (8, 26)) rfl (w_fitR hR_47 rfl) (c_mkn (25) (v6) ((-1)) ((-1)) hR_47 (show 2 ≤ d by omega) ⟨by omega, by omega⟩ ⟨by omega, by omega⟩ ⟨by omega, by omega⟩ ⟨by omega, by omega⟩ (show 0 ≤ (I_47 1670) ∧ (I_47 1670) < 3016 by first | assumption | omega)) (fun r204 M205 q206 => ?_)
                  rcases q206 with ⟨A207, e208, hR206a, f209, f210⟩
                  rw [e208]
                  replace hR206a : w_Rep w_TC fr X u l (w_up I_47 1670 ((I_47 1670) + 1)) A207 B_47 C_47 M205 := hR206a
                  replace f209 : c_fa c_pa A_47 A207 := f209
                  replace f210 : c_mk A_47 A207 (I_47 1670) 25 v6 (-1) (-1) := f210
                  have k211 : c_Bd A207 (c_W A207 (c_r (I 2439) 4)) (I_47 1670) (I 1670) ((I_47 1670) + 1) := c_Bd_mk f210 (show 0 ≤ (I 1670) by omega) ((c_Chq_end hi47_4)) (show (I_47 1670) ≤ (I_47 1670) by omega) (Or.inl rfl)
                  have g212 : c_agl A A207 (I 1670) := c_agl_trans hi47_3 f210.1 (show (I 1670) ≤ (I_47 1670) by omega)
                  show w_W _ _ _ (100, [(0, .ref 38), (1, .int (Int32.ofInt (b))), (2, .int (Int32.ofInt (v6))), (3, .int (Int32.ofInt (y47_3))), (4, .int (Int32.ofInt (y47_4)))], [.int (Int32.ofInt ((I_47 1670)))], M205) _
                  refine w_fin (r := .inl (some ((I_47 1670)))) (M' := M205) rfl ?_
                  exact Or.inl ⟨(I_47 1670), (w_up I_47 1670 ((I_47 1670) + 1)), A207, B_47, C_47, rfl, ⟨by omega, by omega⟩, hR206a, (show c_fi c_ps I (w_up I_47 1670 ((I_47 1670) + 1)) by exact (c_fi_up hi47_0 rfl)), (show c_fa c_pa A A207 by exact (c_fa_trans hi47_1 f209)), (show (0 ≤ (I_47 2436) ∧ (I_47 2436) ≤ (I_47 773) ∧ ((I_47 2437) = 0 ∨ (I_47 2436) < (I_47 773))) ∧ ((I_47 773) = (I 773) ∧ (I_47 2439) = (I 2439) ∧ 0 ≤ (I_47 2117)) ∧ (I 2436) + 1 ≤ (I_47 2436) ∧ ((I_47 1670) + 1) + 0 ≤ (I 1670) + 2 * ((I_47 2436) - (I 2436)) ∧ (I 1670) ≤ (I_47 1670) + 1 by (repeat' apply And.intro) <;> first | assumption | omega), (show c_agl A A207 (I 1670) by exact g212), (show c_Bd A207 (c_W A207 (c_r (I 2439) 4)) (I_47 1670) (I 1670) ((I_47 1670) + 1) by exact c_BdW_win k211 (show (I 1670) ≤ (I 1670) by omega) (show ((I_47 1670) + 1) ≤ ((I_47 1670) + 1) by omega))⟩
        refine w_ls (ls := [(0, .ref 38), (1, .int (Int32.ofInt (b))), (2, .int (Int32.ofInt (v6))), (3, .int (Int32.ofInt (v6))), (4, .int (Int32.ofInt (0)))]) (show List.Nodup [0, 1, 2, 3, 4] by decide) (show List.Nodup [4, 3, 2, 0, 1] by decide) (List.forall_mem_cons.mpr ⟨(List.Mem.tail _ (List.Mem.tail _ (List.Mem.tail _ (List.Mem.head _)))), (List.forall_mem_cons.mpr ⟨(List.Mem.tail _ (List.Mem.tail _ (List.Mem.tail _ (List.Mem.tail _ (List.Mem.head _))))), (List.forall_mem_cons.mpr ⟨(List.Mem.tail _ (List.Mem.tail _ (List.Mem.head _))), (List.forall_mem_cons.mpr ⟨(List.Mem.tail _ (List.Mem.head _)), (List.forall_mem_cons.mpr ⟨(List.Mem.head _), (fun _ h => by cases h)⟩)⟩)⟩)⟩)⟩) ?_
        exact lp47 ((1500 - 0 : Int).toNat + 1)  (v6) (0) I5a A5a B5a C5a M4 hR5a ⟨by omega, by omega⟩ ⟨by omega, by omega⟩ (show c_fi c_ps I I5a by exact f10) (show c_fa c_pa A A5a by exact f11) (show (0 ≤ (I5a 2436) ∧ (I5a 2436) ≤ (I5a 773) ∧ ((I5a 2437) = 0 ∨ (I5a 2436) < (I5a 773))) ∧ ((I5a 773) = (I 773) ∧ ((b = 0 ∧ (I5a 2439) = (I 2439)) ∨ (¬ b = 0 ∧ (I5a 2439) = (I 2439) + 1)) ∧ 0 ≤ (I5a 2117)) ∧ (I 2436) + 1 ≤ (I5a 2436) ∧ (I5a 1670) + 1 ≤ (I 1670) + 2 * ((I5a 2436) - (I 2436)) ∧ (I 1670) ≤ (I5a 1670) by (repeat' apply And.intro) <;> first | assumption | omega) (show c_agl A A5a (I 1670) by exact g29) (show c_Chq c_P0 A5a (c_r (I 2439) 4) v6 v6 (I 1670) (I5a 1670) by exact c_Chq_one k30 (show 0 ≤ (I 1670) by omega)) (show 0 ≤ (0 : Int) ∧ (0 : Int) ≤ 1500 by omega) (show 1500 - 0 < (((1500 - 0 : Int).toNat + 1 : Nat) : Int) by omega)
      · rw [e16]
        replace hR5b : w_Rep w_TC fr X (u + 6) (l + 64) I5b A5b B5b C5b M4 := hR5b
        replace f17 : c_fi c_ps I I5b := f17
        replace f18 : c_fa c_pa A A5b := f18
        replace f19 : M4.1[t15]? = some (.inr (11, [])) := f19
        exact Or.inr (⟨t15, I5b, A5b, B5b, C5b, rfl, hR5b, (show c_fi c_ps I I5b by exact f17), (show c_fa c_pa A A5b by exact f18), (show M4.1[t15]? = some (.inr (11, [])) by exact f19)⟩)
    · have h2 : ¬ (b = 0) := h2
      exfalso; omega
  · have h1 : ¬ (b = 0) := h1
    show w_W _ _ _ (4, [(0, .ref 38), (1, .int (Int32.ofInt (b)))], [], M) _
    refine w_adv (n := 1) (F' := (5, [(0, .ref 38), (1, .int (Int32.ofInt (b)))], [.ref 38], M)) rfl ?_
    refine w_gf (v := .int (Int32.ofInt ((I 2437)))) hR rfl rfl rfl rfl ?_
    obtain ⟨r213, r214⟩ : -2147483648 ≤ (I 2437) ∧ (I 2437) ≤ 2147483647 := hR.ri 2437
    refine w_adv (n := 1) (F' := (10, [(0, .ref 38), (1, .int (Int32.ofInt (b)))], [.int (Int32.ofInt (30)), .int (Int32.ofInt ((I 2437)))], M)) rfl ?_
    refine w_br2 (a := (I 2437)) (b := 30) rfl rfl ⟨by omega, by omega⟩ ⟨by omega, by omega⟩ (fun h215 => ?_) (fun h215 => ?_)
    · have h215 : (I 2437) = 30 := h215
      show w_W _ _ _ (29, [(0, .ref 38), (1, .int (Int32.ofInt (b)))], [], M) _
      refine w_adv (n := 1) (F' := (30, [(0, .ref 38), (1, .int (Int32.ofInt (b)))], [.int (Int32.ofInt (b))], M)) rfl ?_
      refine w_br1 (a := b) rfl rfl ⟨by omega, by omega⟩ (fun h216 => ?_) (fun h216 => ?_)
      · have h216 : b = 0 := h216
        exfalso; omega
      · have h216 : ¬ (b = 0) := h216
        show w_W _ _ _ (33, [(0, .ref 38), (1, .int (Int32.ofInt (b)))], [], M) _
        refine w_adv (n := 1) (F' := (34, [(0, .ref 38), (1, .int (Int32.ofInt (b)))], [.ref 38], M)) rfl ?_
        refine w_call (cm := 99) (as := [(0, .ref 38)]) (rest := []) (o := some (4, 38)) rfl (w_fitR hR rfl) (c_open hR (show 4 ≤ d by omega) (show l ≤ 7000000 by first | assumption | omega) (show -1 ≤ (I 2436) ∧ (I 2436) < (I 773) ∧ (I 773) ≤ 1501 by first | assumption | omega) (show 0 ≤ (I 2439) ∧ (I 2439) ≤ 24 by first | assumption | omega)) (fun r217 M218 q219 => ?_)
        rcases q219 with ⟨zt220, zk221, zv222, e223, hR219a, f224, f225⟩ | ⟨t226, I219b, A219b, B219b, C219b, e227, hR219b, f228, f229, f230⟩
        · rw [e223]
          replace hR219a : w_Rep w_TC fr X u l (w_up (w_up (w_up (w_up (w_up I 2436 ((I 2436) + 1)) 2441 (zt220)) 2437 (zk221)) 2438 (zv222)) 2439 ((I 2439) + 1)) A B C M218 := hR219a
          replace f224 : ((I 2436) + 1 < (I 773) ∨ zk221 = 0) := f224
          replace f225 : (I 2439) < 24 := f225
          show w_W _ _ _ (37, [(0, .ref 38), (1, .int (Int32.ofInt (b)))], [], M218) _
          refine w_adv (n := 1) (F' := (38, [(0, .ref 38), (1, .int (Int32.ofInt (b)))], [.ref 38], M218)) rfl ?_
          refine w_call (cm := 133) (as := [(0, .ref 38)]) (rest := []) (o := some (4, 38)) rfl (w_fitR hR219a rfl) (c_oneItem (c_ALL_dn hA) hR219a (show 10 * (24 - ((I 2439) + 1)) + 14 ≤ (d : Int) by omega) (show l ≤ 7000000 by first | assumption | omega) (show (0 ≤ (I 2436) + 1 ∧ (I 2436) + 1 ≤ (I 773) ∧ (I 773) ≤ 1501 ∧ (zk221 = 0 ∨ (I 2436) + 1 < (I 773))) ∧ (0 ≤ (I 2439) + 1 ∧ (I 2439) + 1 ≤ 24 ∧ 0 ≤ (I 2117)) ∧ 0 ≤ (I 1670) ∧ (I 1670) ≤ 2 * ((I 2436) + 1) + 1 by (repeat' apply And.intro) <;> first | assumption | omega)) (fun r231 M232 q233 => ?_)
          rcases q233 with ⟨v234, I233a, A233a, B233a, C233a, e235, ⟨r236, r237⟩, hR233a, f238, f239, f240, f241, f242⟩ | ⟨t243, I233b, A233b, B233b, C233b, e244, hR233b, f245, f246, f247⟩
          · rw [e235]
            replace hR233a : w_Rep w_TC fr X u l I233a A233a B233a C233a M232 := hR233a
            replace f238 : c_fi c_ps (w_up (w_up (w_up (w_up (w_up I 2436 ((I 2436) + 1)) 2441 (zt220)) 2437 (zk221)) 2438 (zv222)) 2439 ((I 2439) + 1)) I233a := f238
            replace f239 : c_fa c_pa A A233a := f239
            replace f240 : (0 ≤ (I233a 2436) ∧ (I233a 2436) ≤ (I233a 773) ∧ ((I233a 2437) = 0 ∨ (I233a 2436) < (I233a 773))) ∧ ((I233a 773) = (I 773) ∧ (I233a 2439) = (I 2439) + 1 ∧ 0 ≤ (I233a 2117)) ∧ ((I 2436) + 1) + 1 ≤ (I233a 2436) ∧ (I233a 1670) + 1 ≤ (I 1670) + 2 * ((I233a 2436) - ((I 2436) + 1)) ∧ (I 1670) ≤ (I233a 1670) := f240
            obtain ⟨⟨n248, n249, n250⟩, ⟨n251, n252, n253⟩, n254, n255, n256⟩ := id f240
            clear f240
            replace f241 : c_agl A A233a (I 1670) := f241
            replace f242 : c_Wn A233a (c_r ((I 2439) + 1) 4) v234 (I 1670) (I233a 1670) := f242
            have g257 : c_agl A A233a (I 1670) := c_agl_trans c_agl_refl f241 (show (I 1670) ≤ (I 1670) by omega)
            have k258 : c_Wn A233a (c_r (I 2439) 4) v234 (I 1670) (I233a 1670) := c_Wn_up f242 (show c_r ((I 2439) + 1) 4 ≤ c_r (I 2439) 4 by unfold c_r; omega)
            obtain ⟨b259, b260⟩ := c_W_in k258.1
            show w_W _ _ _ (41, [(0, .ref 38), (1, .int (Int32.ofInt (b)))], [.int (Int32.ofInt (v234))], M232) _
            refine w_adv (n := 5) (F' := (47, [(4, .int (Int32.ofInt (0))), (3, .int (Int32.ofInt (v234))), (2, .int (Int32.ofInt (v234))), (0, .ref 38), (1, .int (Int32.ofInt (b)))], [], M232)) rfl ?_
            have lp47 : ∀ fu47 : Nat, ∀ (y47_3 : Int) (y47_4 : Int) (I_47 : Nat → Int) (A_47 : Nat → Int → Int) (B_47 C_47 : Nat → Nat) (M_47 : w_M) (hR_47 : w_Rep w_TC fr X u l I_47 A_47 B_47 C_47 M_47), w_in y47_3 → w_in y47_4 → c_fi c_ps I I_47 → c_fa c_pa A A_47 → (0 ≤ (I_47 2436) ∧ (I_47 2436) ≤ (I_47 773) ∧ ((I_47 2437) = 0 ∨ (I_47 2436) < (I_47 773))) ∧ ((I_47 773) = (I 773) ∧ ((b = 0 ∧ (I_47 2439) = (I 2439)) ∨ (¬ b = 0 ∧ (I_47 2439) = (I 2439) + 1)) ∧ 0 ≤ (I_47 2117)) ∧ (I 2436) + 1 ≤ (I_47 2436) ∧ (I_47 1670) + 1 ≤ (I 1670) + 2 * ((I_47 2436) - (I 2436)) ∧ (I 1670) ≤ (I_47 1670) → c_agl A A_47 (I 1670) → c_Chq c_P0 A_47 (c_r (I 2439) 4) v234 y47_3 (I 1670) (I_47 1670) → 0 ≤ y47_4 ∧ y47_4 ≤ 1500 → 1500 - y47_4 < (fu47 : Int) → w_W (z_P L xs) (d + 1) 88 (47, [(0, .ref 38), (1, .int (Int32.ofInt (b))), (2, .int (Int32.ofInt (v234))), (3, .int (Int32.ofInt (y47_3))), (4, .int (Int32.ofInt (y47_4)))], [], M_47) (c_block_Q fr X u l I A B C M b) := by
              intro fu47
              induction fu47 with
              | zero =>
                intro y47_3 y47_4 I_47 A_47 B_47 C_47 M_47 hR_47 ⟨ra_y47_3, rb_y47_3⟩ ⟨ra_y47_4, rb_y47_4⟩ hi47_0 hi47_1 hi47_2 hi47_3 hi47_4 hi47_5 hn47
                exfalso
                omega
              | succ fu47 ih47 =>
                intro y47_3 y47_4 I_47 A_47 B_47 C_47 M_47 hR_47 ⟨ra_y47_3, rb_y47_3⟩ ⟨ra_y47_4, rb_y47_4⟩ hi47_0 hi47_1 hi47_2 hi47_3 hi47_4 hi47_5 hn47
                refine w_adv (n := 2) (F' := (52, [(0, .ref 38), (1, .int (Int32.ofInt (b))), (2, .int (Int32.ofInt (v234))), (3, .int (Int32.ofInt (y47_3))), (4, .int (Int32.ofInt (y47_4)))], [.int (Int32.ofInt (1500)), .int (Int32.ofInt (y47_4))], M_47)) rfl ?_
                refine w_br2 (a := y47_4) (b := 1500) rfl rfl ⟨by omega, by omega⟩ ⟨by omega, by omega⟩ (fun h261 => ?_) (fun h261 => ?_)
                · have h261 : y47_4 ≥ 1500 := h261
                  show w_W _ _ _ (84, [(0, .ref 38), (1, .int (Int32.ofInt (b))), (2, .int (Int32.ofInt (v234))), (3, .int (Int32.ofInt (y47_3))), (4, .int (Int32.ofInt (y47_4)))], [], M_47) _
                  refine w_adv (n := 1) (F' := (85, [(0, .ref 38), (1, .int (Int32.ofInt (b))), (2, .int (Int32.ofInt (v234))), (3, .int (Int32.ofInt (y47_3))), (4, .int (Int32.ofInt (y47_4)))], [.int (Int32.ofInt (b))], M_47)) rfl ?_
                  refine w_br1 (a := b) rfl rfl ⟨by omega, by omega⟩ (fun h262 => ?_) (fun h262 => ?_)
                  · have h262 : ¬ b = 0 := h262
                    show w_W _ _ _ (101, [(0, .ref 38), (1, .int (Int32.ofInt (b))), (2, .int (Int32.ofInt (v234))), (3, .int (Int32.ofInt (y47_3))), (4, .int (Int32.ofInt (y47_4)))], [], M_47) _
                    refine w_adv (n := 2) (F' := (104, [(0, .ref 38), (1, .int (Int32.ofInt (b))), (2, .int (Int32.ofInt (v234))), (3, .int (Int32.ofInt (y47_3))), (4, .int (Int32.ofInt (y47_4)))], [.int (Int32.ofInt (23)), .ref 38], M_47)) rfl ?_
                    refine w_call (cm := 113) (as := [(0, .ref 38), (1, .int (Int32.ofInt (23)))]) (rest := []) (o := some (4, 38)) rfl (w_fitR hR_47 rfl) (c_close (23) hR_47 (show 4 ≤ d by omega) ⟨by omega, by omega⟩ (show l ≤ 7000000 by first | assumption | omega) (show -1 ≤ (I_47 2436) ∧ ((I_47 2437) = 0 ∨ (I_47 2436) < (I_47 773)) ∧ (I_47 773) ≤ 1501 ∧ 1 ≤ 23 by first | assumption | omega) (show 0 ≤ (I_47 2439) ∧ (I_47 2439) ≤ 24 by first | assumption | omega)) (fun r263 M264 q265 => ?_)
                    rcases q265 with ⟨zt266, zk267, zv268, e269, hR265a, f270, f271⟩ | ⟨t272, I265b, A265b, B265b, C265b, e273, hR265b, f274, f275, f276⟩
                    · rw [e269]
                      replace hR265a : w_Rep w_TC fr X u l (w_up (w_up (w_up (w_up (w_up I_47 2436 ((I_47 2436) + 1)) 2441 (zt266)) 2437 (zk267)) 2438 (zv268)) 2439 ((I_47 2439) - 1)) A_47 B_47 C_47 M264 := hR265a
                      replace f270 : ((I_47 2436) + 1 < (I_47 773) ∨ zk267 = 0) := f270
                      replace f271 : (I_47 2437) = 23 := f271
                      show w_W _ _ _ (107, [(0, .ref 38), (1, .int (Int32.ofInt (b))), (2, .int (Int32.ofInt (v234))), (3, .int (Int32.ofInt (y47_3))), (4, .int (Int32.ofInt (y47_4)))], [], M264) _
                      refine w_adv (n := 1) (F' := (108, [(0, .ref 38), (1, .int (Int32.ofInt (b))), (2, .int (Int32.ofInt (v234))), (3, .int (Int32.ofInt (y47_3))), (4, .int (Int32.ofInt (y47_4)))], [.ref 38], M264)) rfl ?_
                      refine w_gf (v := .ref 26) hR265a rfl rfl rfl rfl ?_
                      refine w_adv (n := 3) (F' := (115, [(0, .ref 38), (1, .int (Int32.ofInt (b))), (2, .int (Int32.ofInt (v234))), (3, .int (Int32.ofInt (y47_3))), (4, .int (Int32.ofInt (y47_4)))], [.ref 38, .int (Int32.ofInt (v234)), .int (Int32.ofInt (25)), .ref 26], M264)) rfl ?_
                      refine w_call (cm := 89) (as := [(0, .ref 38)]) (rest := [.int (Int32.ofInt (v234)), .int (Int32.ofInt (25)), .ref 26]) (o := some (4, 38)) rfl (w_fitR hR265a rfl) ((hA d (Nat.lt_succ_self d)).1 hR265a (show 10 * (24 - ((I_47 2439) - 1)) + 13 ≤ (d : Int) by omega) (show l ≤ 7000000 by first | assumption | omega) (show (0 ≤ (I_47 2436) + 1 ∧ (I_47 2436) + 1 ≤ (I_47 773) ∧ (I_47 773) ≤ 1501 ∧ (zk267 = 0 ∨ (I_47 2436) + 1 < (I_47 773))) ∧ (0 ≤ (I_47 2439) - 1 ∧ (I_47 2439) - 1 ≤ 24 ∧ 0 ≤ (I_47 2117)) ∧ 0 ≤ (I_47 1670) ∧ (I_47 1670) ≤ 2 * ((I_47 2436) + 1) + 1 by (repeat' apply And.intro) <;> first | assumption | omega)) (fun r277 M278 q279 => ?_)
                      rcases q279 with ⟨v280, I279a, A279a, B279a, C279a, e281, ⟨r282, r283⟩, hR279a, f284, f285, f286, f287, f288⟩ | ⟨t289, I279b, A279b, B279b, C279b, e290, hR279b, f291, f292, f293⟩
                      · rw [e281]
                        replace hR279a : w_Rep w_TC fr X u l I279a A279a B279a C279a M278 := hR279a
                        replace f284 : c_fi c_ps (w_up (w_up (w_up (w_up (w_up I_47 2436 ((I_47 2436) + 1)) 2441 (zt266)) 2437 (zk267)) 2438 (zv268)) 2439 ((I_47 2439) - 1)) I279a := f284
                        replace f285 : c_fa c_pa A_47 A279a := f285
                        replace f286 : (0 ≤ (I279a 2436) ∧ (I279a 2436) ≤ (I279a 773) ∧ ((I279a 2437) = 0 ∨ (I279a 2436) < (I279a 773))) ∧ ((I279a 773) = (I_47 773) ∧ (I279a 2439) = (I_47 2439) - 1 ∧ 0 ≤ (I279a 2117)) ∧ ((I_47 2436) + 1) + 1 ≤ (I279a 2436) ∧ (I279a 1670) + 1 ≤ (I_47 1670) + 2 * ((I279a 2436) - ((I_47 2436) + 1)) ∧ (I_47 1670) ≤ (I279a 1670) := f286
                        obtain ⟨⟨n294, n295, n296⟩, ⟨n297, n298, n299⟩, n300, n301, n302⟩ := id f286
                        clear f286
                        replace f287 : c_agl A_47 A279a (I_47 1670) := f287
                        replace f288 : c_Wn A279a (c_r ((I_47 2439) - 1) 3) v280 (I_47 1670) (I279a 1670) := f288
                        have k303 : c_Chq c_P0 A279a (c_r (I 2439) 4) v234 y47_3 (I 1670) (I_47 1670) := c_Chq_agl c_P0_fam hi47_4 f287 (show 0 ≤ (I 1670) by omega) (show (I_47 1670) ≤ (I_47 1670) by omega)
                        clear hi47_4
                        have g304 : c_agl A A279a (I 1670) := c_agl_trans hi47_3 f287 (show (I 1670) ≤ (I_47 1670) by omega)
                        have k305 : c_Wn A279a (c_r (I 2439) 4) v280 (I_47 1670) (I279a 1670) := c_Wn_up f288 (show c_r ((I_47 2439) - 1) 3 ≤ c_r (I 2439) 4 by unfold c_r; omega)
                        obtain ⟨b306, b307⟩ := c_W_in k305.1
                        show w_W _ _ _ (118, [(0, .ref 38), (1, .int (Int32.ofInt (b))), (2, .int (Int32.ofInt (v234))), (3, .int (Int32.ofInt (y47_3))), (4, .int (Int32.ofInt (y47_4)))], [.int (Int32.ofInt (v280)), .int (Int32.ofInt (v234)), .int (Int32.ofInt (25)), .ref 26], M278) _
                        refine w_adv (n := 1) (F' := (119, [(0, .ref 38), (1, .int (Int32.ofInt (b))), (2, .int (Int32.ofInt (v234))), (3, .int (Int32.ofInt (y47_3))), (4, .int (Int32.ofInt (y47_4)))], [.int (Int32.ofInt ((-1))), .int (Int32.ofInt (v280)), .int (Int32.ofInt (v234)), .int (Int32.ofInt (25)), .ref 26], M278)) rfl ?_
                        refine w_call (cm := 94) (as := [(0, .ref 26), (1, .int (Int32.ofInt (25))), (2, .int (Int32.ofInt (v234))), (3, .int (Int32.ofInt (v280))), (4, .int (Int32.ofInt ((-1))))]) (rest := []) (o := some (8, 26)) rfl (w_fitR hR279a rfl) (c_mkn (25) (v234) (v280) ((-1)) hR279a (show 2 ≤ d by omega) ⟨by omega, by omega⟩ ⟨by omega, by omega⟩ ⟨by omega, by omega⟩ ⟨by omega, by omega⟩ (show 0 ≤ (I279a 1670) ∧ (I279a 1670) < 3016 by first | assumption | omega)) (fun r308 M309 q310 => ?_)
                        rcases q310 with ⟨A311, e312, hR310a, f313, f314⟩
                        rw [e312]
                        replace hR310a : w_Rep w_TC fr X u l (w_up I279a 1670 ((I279a 1670) + 1)) A311 B279a C279a M309 := hR310a
                        replace f313 : c_fa c_pa A279a A311 := f313
                        replace f314 : c_mk A279a A311 (I279a 1670) 25 v234 v280 (-1) := f314
                        have k315 : c_Bd A311 (c_W A311 (c_r (I 2439) 4)) (I279a 1670) (I 1670) ((I279a 1670) + 1) := c_Bd_mk f314 (show 0 ≤ (I 1670) by omega) ((c_Chq_end k303)) (show (I_47 1670) ≤ (I279a 1670) by omega) (Or.inr (c_Wn_win k305 (show (I_47 1670) ≤ (I_47 1670) by omega) (show (I279a 1670) ≤ (I279a 1670) by omega)).1)
                        have g316 : c_agl A A311 (I 1670) := c_agl_trans g304 f314.1 (show (I 1670) ≤ (I279a 1670) by omega)
                        show w_W _ _ _ (122, [(0, .ref 38), (1, .int (Int32.ofInt (b))), (2, .int (Int32.ofInt (v234))), (3, .int (Int32.ofInt (y47_3))), (4, .int (Int32.ofInt (y47_4)))], [.int (Int32.ofInt ((I279a 1670)))], M309) _
                        refine w_fin (r := .inl (some ((I279a 1670)))) (M' := M309) rfl ?_
                        exact Or.inl ⟨(I279a 1670), (w_up I279a 1670 ((I279a 1670) + 1)), A311, B279a, C279a, rfl, ⟨by omega, by omega⟩, hR310a, (show c_fi c_ps I (w_up I279a 1670 ((I279a 1670) + 1)) by exact (c_fi_up (c_fi_trans (c_fi_up (c_fi_up (c_fi_up (c_fi_up (c_fi_up hi47_0 rfl) rfl) rfl) rfl) rfl) f284) rfl)), (show c_fa c_pa A A311 by exact (c_fa_trans (c_fa_trans hi47_1 f285) f313)), (show (0 ≤ (I279a 2436) ∧ (I279a 2436) ≤ (I279a 773) ∧ ((I279a 2437) = 0 ∨ (I279a 2436) < (I279a 773))) ∧ ((I279a 773) = (I 773) ∧ (I279a 2439) = (I 2439) ∧ 0 ≤ (I279a 2117)) ∧ (I 2436) + 1 ≤ (I279a 2436) ∧ ((I279a 1670) + 1) + 0 ≤ (I 1670) + 2 * ((I279a 2436) - (I 2436)) ∧ (I 1670) ≤ (I279a 1670) + 1 by (repeat' apply And.intro) <;> first | assumption | omega), (show c_agl A A311 (I 1670) by exact g316), (show c_Bd A311 (c_W A311 (c_r (I 2439) 4)) (I279a 1670) (I 1670) ((I279a 1670) + 1) by exact c_BdW_win k315 (show (I 1670) ≤ (I 1670) by omega) (show ((I279a 1670) + 1) ≤ ((I279a 1670) + 1) by omega))⟩
                      · rw [e290]
                        replace hR279b : w_Rep w_TC fr X (u + 6) (l + 64) I279b A279b B279b C279b M278 := hR279b
                        replace f291 : c_fi c_ps (w_up (w_up (w_up (w_up (w_up I_47 2436 ((I_47 2436) + 1)) 2441 (zt266)) 2437 (zk267)) 2438 (zv268)) 2439 ((I_47 2439) - 1)) I279b := f291
                        replace f292 : c_fa c_pa A_47 A279b := f292
                        replace f293 : M278.1[t289]? = some (.inr (11, [])) := f293
                        exact Or.inr (⟨t289, I279b, A279b, B279b, C279b, rfl, hR279b, (show c_fi c_ps I I279b by exact (c_fi_trans (c_fi_up (c_fi_up (c_fi_up (c_fi_up (c_fi_up hi47_0 rfl) rfl) rfl) rfl) rfl) f291)), (show c_fa c_pa A A279b by exact (c_fa_trans hi47_1 f292)), (show M278.1[t289]? = some (.inr (11, [])) by exact f293)⟩)
                    · rw [e273]
                      replace hR265b : w_Rep w_TC fr X (u + 6) (l + 64) I265b A265b B265b C265b M264 := hR265b
                      replace f274 : c_fi c_ps I_47 I265b := f274
                      replace f275 : c_fa c_pa A_47 A265b := f275
                      replace f276 : M264.1[t272]? = some (.inr (11, [])) := f276
                      exact Or.inr (⟨t272, I265b, A265b, B265b, C265b, rfl, hR265b, (show c_fi c_ps I I265b by exact (c_fi_trans hi47_0 f274)), (show c_fa c_pa A A265b by exact (c_fa_trans hi47_1 f275)), (show M264.1[t272]? = some (.inr (11, [])) by exact f276)⟩)
                  · have h262 : ¬ (¬ b = 0) := h262
                    show w_W _ _ _ (88, [(0, .ref 38), (1, .int (Int32.ofInt (b))), (2, .int (Int32.ofInt (v234))), (3, .int (Int32.ofInt (y47_3))), (4, .int (Int32.ofInt (y47_4)))], [], M_47) _
                    refine w_adv (n := 1) (F' := (89, [(0, .ref 38), (1, .int (Int32.ofInt (b))), (2, .int (Int32.ofInt (v234))), (3, .int (Int32.ofInt (y47_3))), (4, .int (Int32.ofInt (y47_4)))], [.ref 38], M_47)) rfl ?_
                    refine w_gf (v := .ref 26) hR_47 rfl rfl rfl rfl ?_
                    refine w_adv (n := 4) (F' := (97, [(0, .ref 38), (1, .int (Int32.ofInt (b))), (2, .int (Int32.ofInt (v234))), (3, .int (Int32.ofInt (y47_3))), (4, .int (Int32.ofInt (y47_4)))], [.int (Int32.ofInt ((-1))), .int (Int32.ofInt ((-1))), .int (Int32.ofInt (v234)), .int (Int32.ofInt (25)), .ref 26], M_47)) rfl ?_
                    refine w_call (cm := 94) (as := [(0, .ref 26), (1, .int (Int32.ofInt (25))), (2, .int (Int32.ofInt (v234))), (3, .int (Int32.ofInt ((-1)))), (4, .int (Int32.ofInt ((-1))))]) (rest := []) (o := some (8, 26)) rfl (w_fitR hR_47 rfl) (c_mkn (25) (v234) ((-1)) ((-1)) hR_47 (show 2 ≤ d by omega) ⟨by omega, by omega⟩ ⟨by omega, by omega⟩ ⟨by omega, by omega⟩ ⟨by omega, by omega⟩ (show 0 ≤ (I_47 1670) ∧ (I_47 1670) < 3016 by first | assumption | omega)) (fun r317 M318 q319 => ?_)
                    rcases q319 with ⟨A320, e321, hR319a, f322, f323⟩
                    rw [e321]
                    replace hR319a : w_Rep w_TC fr X u l (w_up I_47 1670 ((I_47 1670) + 1)) A320 B_47 C_47 M318 := hR319a
                    replace f322 : c_fa c_pa A_47 A320 := f322
                    replace f323 : c_mk A_47 A320 (I_47 1670) 25 v234 (-1) (-1) := f323
                    have k324 : c_Bd A320 (c_W A320 (c_r (I 2439) 4)) (I_47 1670) (I 1670) ((I_47 1670) + 1) := c_Bd_mk f323 (show 0 ≤ (I 1670) by omega) ((c_Chq_end hi47_4)) (show (I_47 1670) ≤ (I_47 1670) by omega) (Or.inl rfl)
                    have g325 : c_agl A A320 (I 1670) := c_agl_trans hi47_3 f323.1 (show (I 1670) ≤ (I_47 1670) by omega)
                    show w_W _ _ _ (100, [(0, .ref 38), (1, .int (Int32.ofInt (b))), (2, .int (Int32.ofInt (v234))), (3, .int (Int32.ofInt (y47_3))), (4, .int (Int32.ofInt (y47_4)))], [.int (Int32.ofInt ((I_47 1670)))], M318) _
                    refine w_fin (r := .inl (some ((I_47 1670)))) (M' := M318) rfl ?_
                    exact Or.inl ⟨(I_47 1670), (w_up I_47 1670 ((I_47 1670) + 1)), A320, B_47, C_47, rfl, ⟨by omega, by omega⟩, hR319a, (show c_fi c_ps I (w_up I_47 1670 ((I_47 1670) + 1)) by exact (c_fi_up hi47_0 rfl)), (show c_fa c_pa A A320 by exact (c_fa_trans hi47_1 f322)), (show (0 ≤ (I_47 2436) ∧ (I_47 2436) ≤ (I_47 773) ∧ ((I_47 2437) = 0 ∨ (I_47 2436) < (I_47 773))) ∧ ((I_47 773) = (I 773) ∧ (I_47 2439) = (I 2439) ∧ 0 ≤ (I_47 2117)) ∧ (I 2436) + 1 ≤ (I_47 2436) ∧ ((I_47 1670) + 1) + 0 ≤ (I 1670) + 2 * ((I_47 2436) - (I 2436)) ∧ (I 1670) ≤ (I_47 1670) + 1 by (repeat' apply And.intro) <;> first | assumption | omega), (show c_agl A A320 (I 1670) by exact g325), (show c_Bd A320 (c_W A320 (c_r (I 2439) 4)) (I_47 1670) (I 1670) ((I_47 1670) + 1) by exact c_BdW_win k324 (show (I 1670) ≤ (I 1670) by omega) (show ((I_47 1670) + 1) ≤ ((I_47 1670) + 1) by omega))⟩
                · have h261 : ¬ (y47_4 ≥ 1500) := h261
                  show w_W _ _ _ (55, [(0, .ref 38), (1, .int (Int32.ofInt (b))), (2, .int (Int32.ofInt (v234))), (3, .int (Int32.ofInt (y47_3))), (4, .int (Int32.ofInt (y47_4)))], [], M_47) _
                  refine w_adv (n := 1) (F' := (56, [(0, .ref 38), (1, .int (Int32.ofInt (b))), (2, .int (Int32.ofInt (v234))), (3, .int (Int32.ofInt (y47_3))), (4, .int (Int32.ofInt (y47_4)))], [.ref 38], M_47)) rfl ?_
                  refine w_gf (v := .int (Int32.ofInt ((I_47 2437)))) hR_47 rfl rfl rfl rfl ?_
                  obtain ⟨r326, r327⟩ : -2147483648 ≤ (I_47 2437) ∧ (I_47 2437) ≤ 2147483647 := hR_47.ri 2437
                  refine w_call (cm := 136) (as := [(0, .int (Int32.ofInt ((I_47 2437))))]) (rest := []) (o := none) rfl (trivial) (c_beginsItem ((I_47 2437)) hR_47 (show 2 ≤ d by omega) ⟨by omega, by omega⟩) (fun r328 M329 q330 => ?_)
                  rcases q330 with ⟨e331, e332, f333⟩ | ⟨e334, e335⟩
                  · rw [e331, e332]
                    replace f333 : ¬ (I_47 2437) = 0 := f333
                    show w_W _ _ _ (62, [(0, .ref 38), (1, .int (Int32.ofInt (b))), (2, .int (Int32.ofInt (v234))), (3, .int (Int32.ofInt (y47_3))), (4, .int (Int32.ofInt (y47_4)))], [.int (Int32.ofInt (1))], M_47) _
                    refine w_adv (n := 2) (F' := (66, [(0, .ref 38), (1, .int (Int32.ofInt (b))), (2, .int (Int32.ofInt (v234))), (3, .int (Int32.ofInt (y47_3))), (4, .int (Int32.ofInt (y47_4)))], [.ref 38], M_47)) rfl ?_
                    refine w_gf (v := .ref 26) hR_47 rfl rfl rfl rfl ?_
                    refine w_adv (n := 2) (F' := (71, [(0, .ref 38), (1, .int (Int32.ofInt (b))), (2, .int (Int32.ofInt (v234))), (3, .int (Int32.ofInt (y47_3))), (4, .int (Int32.ofInt (y47_4)))], [.ref 38, .int (Int32.ofInt (y47_3)), .ref 26], M_47)) rfl ?_
                    refine w_call (cm := 133) (as := [(0, .ref 38)]) (rest := [.int (Int32.ofInt (y47_3)), .ref 26]) (o := some (4, 38)) rfl (w_fitR hR_47 rfl) (c_oneItem (c_ALL_dn hA) hR_47 (show 10 * (24 - (I_47 2439)) + 14 ≤ (d : Int) by omega) (show l ≤ 7000000 by first | assumption | omega) (show (0 ≤ (I_47 2436) ∧ (I_47 2436) ≤ (I_47 773) ∧ (I_47 773) ≤ 1501 ∧ ((I_47 2437) = 0 ∨ (I_47 2436) < (I_47 773))) ∧ (0 ≤ (I_47 2439) ∧ (I_47 2439) ≤ 24 ∧ 0 ≤ (I_47 2117)) ∧ 0 ≤ (I_47 1670) ∧ (I_47 1670) ≤ 2 * (I_47 2436) + 1 by (repeat' apply And.intro) <;> first | assumption | omega)) (fun r336 M337 q338 => ?_)
                    rcases q338 with ⟨v339, I338a, A338a, B338a, C338a, e340, ⟨r341, r342⟩, hR338a, f343, f344, f345, f346, f347⟩ | ⟨t348, I338b, A338b, B338b, C338b, e349, hR338b, f350, f351, f352⟩
                    · rw [e340]
                      replace hR338a : w_Rep w_TC fr X u l I338a A338a B338a C338a M337 := hR338a
                      replace f343 : c_fi c_ps I_47 I338a := f343
                      replace f344 : c_fa c_pa A_47 A338a := f344
                      replace f345 : (0 ≤ (I338a 2436) ∧ (I338a 2436) ≤ (I338a 773) ∧ ((I338a 2437) = 0 ∨ (I338a 2436) < (I338a 773))) ∧ ((I338a 773) = (I_47 773) ∧ (I338a 2439) = (I_47 2439) ∧ 0 ≤ (I338a 2117)) ∧ (I_47 2436) + 1 ≤ (I338a 2436) ∧ (I338a 1670) + 1 ≤ (I_47 1670) + 2 * ((I338a 2436) - (I_47 2436)) ∧ (I_47 1670) ≤ (I338a 1670) := f345
                      obtain ⟨⟨n353, n354, n355⟩, ⟨n356, n357, n358⟩, n359, n360, n361⟩ := id f345
                      clear f345
                      replace f346 : c_agl A_47 A338a (I_47 1670) := f346
                      replace f347 : c_Wn A338a (c_r (I_47 2439) 4) v339 (I_47 1670) (I338a 1670) := f347
                      have k362 : c_Chq c_P0 A338a (c_r (I 2439) 4) v234 y47_3 (I 1670) (I_47 1670) := c_Chq_agl c_P0_fam hi47_4 f346 (show 0 ≤ (I 1670) by omega) (show (I_47 1670) ≤ (I_47 1670) by omega)
                      clear hi47_4
                      have g363 : c_agl A A338a (I 1670) := c_agl_trans hi47_3 f346 (show (I 1670) ≤ (I_47 1670) by omega)
                      have k364 : c_Wn A338a (c_r (I 2439) 4) v339 (I_47 1670) (I338a 1670) := c_Wn_up f347 (show c_r (I_47 2439) 4 ≤ c_r (I 2439) 4 by unfold c_r; omega)
                      obtain ⟨b365, b366⟩ := c_W_in k364.1
                      show w_W _ _ _ (74, [(0, .ref 38), (1, .int (Int32.ofInt (b))), (2, .int (Int32.ofInt (v234))), (3, .int (Int32.ofInt (y47_3))), (4, .int (Int32.ofInt (y47_4)))], [.int (Int32.ofInt (v339)), .int (Int32.ofInt (y47_3)), .ref 26], M337) _
                      refine w_call (cm := 106) (as := [(0, .ref 26), (1, .int (Int32.ofInt (y47_3))), (2, .int (Int32.ofInt (v339)))]) (rest := []) (o := some (8, 26)) rfl (w_fitR hR338a rfl) (c_chn (y47_3) (v339) hR338a (show 2 ≤ d by omega) ⟨by omega, by omega⟩ ⟨by omega, by omega⟩) (fun r367 M368 q369 => ?_)
                      rcases q369 with ⟨A370, e371, hR369a, f372, f373⟩
                      rw [e371]
                      replace hR369a : w_Rep w_TC fr X u l I338a A370 B338a C338a M368 := hR369a
                      replace f372 : c_fa c_pa A338a A370 := f372
                      replace f373 : c_nxw A338a A370 y47_3 v339 := f373
                      have k374 : ∀ f', (v234 = -1 ∧ f' = v339 ∨ v234 ≠ -1 ∧ f' = v234) → c_Chq c_P0 A370 (c_r (I 2439) 4) f' v339 (I 1670) (I338a 1670) := c_Chq_app c_P0_fam k362 (show (I_47 1670) ≤ (I_47 1670) by omega) f373 (show 0 ≤ (I 1670) by omega) (show (I_47 1670) ≤ 3016 by omega) (show (I_47 1670) ≤ v339 ∧ v339 < (I338a 1670) by omega) k364.1 k364.2 c_P0_win
                      have g375 : c_agl A338a A370 (I 1670) := c_agl_nxw f373 (c_Chq_l k362)
                      have g376 : c_agl A A370 (I 1670) := c_agl_trans g363 g375 (show (I 1670) ≤ (I 1670) by omega)
                      show w_W _ _ _ (77, [(0, .ref 38), (1, .int (Int32.ofInt (b))), (2, .int (Int32.ofInt (v234))), (3, .int (Int32.ofInt (y47_3))), (4, .int (Int32.ofInt (y47_4)))], [.int (Int32.ofInt (v339))], M368) _
                      refine w_adv (n := 1) (F' := (78, [(3, .int (Int32.ofInt (v339))), (0, .ref 38), (1, .int (Int32.ofInt (b))), (2, .int (Int32.ofInt (v234))), (4, .int (Int32.ofInt (y47_4)))], [], M368)) rfl ?_
                      refine w_inc (nL := 5) (a := y47_4) rfl rfl rfl (by decide) ?_
                      refine w_adv (n := 1) (F' := (47, [(4, .int (Int32.ofInt (y47_4 + 1))), (3, .int (Int32.ofInt (v339))), (0, .ref 38), (1, .int (Int32.ofInt (b))), (2, .int (Int32.ofInt (v234)))], [], M368)) rfl ?_
                      refine w_ls (ls := [(0, .ref 38), (1, .int (Int32.ofInt (b))), (2, .int (Int32.ofInt (v234))), (3, .int (Int32.ofInt (v339))), (4, .int (Int32.ofInt (y47_4 + 1)))]) (show List.Nodup [0, 1, 2, 3, 4] by decide) (show List.Nodup [4, 3, 0, 1, 2] by decide) (List.forall_mem_cons.mpr ⟨(List.Mem.tail _ (List.Mem.tail _ (List.Mem.head _))), (List.forall_mem_cons.mpr ⟨(List.Mem.tail _ (List.Mem.tail _ (List.Mem.tail _ (List.Mem.head _)))), (List.forall_mem_cons.mpr ⟨(List.Mem.tail _ (List.Mem.tail _ (List.Mem.tail _ (List.Mem.tail _ (List.Mem.head _))))), (List.forall_mem_cons.mpr ⟨(List.Mem.tail _ (List.Mem.head _)), (List.forall_mem_cons.mpr ⟨(List.Mem.head _), (fun _ h => by cases h)⟩)⟩)⟩)⟩)⟩) ?_
                      exact ih47  (v339) (y47_4 + 1) I338a A370 B338a C338a M368 hR369a ⟨by omega, by omega⟩ ⟨by omega, by omega⟩ (show c_fi c_ps I I338a by exact (c_fi_trans hi47_0 f343)) (show c_fa c_pa A A370 by exact (c_fa_trans (c_fa_trans hi47_1 f344) f372)) (show (0 ≤ (I338a 2436) ∧ (I338a 2436) ≤ (I338a 773) ∧ ((I338a 2437) = 0 ∨ (I338a 2436) < (I338a 773))) ∧ ((I338a 773) = (I 773) ∧ ((b = 0 ∧ (I338a 2439) = (I 2439)) ∨ (¬ b = 0 ∧ (I338a 2439) = (I 2439) + 1)) ∧ 0 ≤ (I338a 2117)) ∧ (I 2436) + 1 ≤ (I338a 2436) ∧ (I338a 1670) + 1 ≤ (I 1670) + 2 * ((I338a 2436) - (I 2436)) ∧ (I 1670) ≤ (I338a 1670) by (repeat' apply And.intro) <;> first | assumption | omega) (show c_agl A A370 (I 1670) by exact g376) (show c_Chq c_P0 A370 (c_r (I 2439) 4) v234 v339 (I 1670) (I338a 1670) by exact k374 _ (by omega)) (show 0 ≤ (y47_4 + 1) ∧ (y47_4 + 1) ≤ 1500 by omega) (show 1500 - (y47_4 + 1) < (fu47 : Int) by omega)
                    · rw [e349]
                      replace hR338b : w_Rep w_TC fr X (u + 6) (l + 64) I338b A338b B338b C338b M337 := hR338b
                      replace f350 : c_fi c_ps I_47 I338b := f350
                      replace f351 : c_fa c_pa A_47 A338b := f351
                      replace f352 : M337.1[t348]? = some (.inr (11, [])) := f352
                      exact Or.inr (⟨t348, I338b, A338b, B338b, C338b, rfl, hR338b, (show c_fi c_ps I I338b by exact (c_fi_trans hi47_0 f350)), (show c_fa c_pa A A338b by exact (c_fa_trans hi47_1 f351)), (show M337.1[t348]? = some (.inr (11, [])) by exact f352)⟩)
                  · rw [e334, e335]
                    show w_W _ _ _ (62, [(0, .ref 38), (1, .int (Int32.ofInt (b))), (2, .int (Int32.ofInt (v234))), (3, .int (Int32.ofInt (y47_3))), (4, .int (Int32.ofInt (y47_4)))], [.int (Int32.ofInt (0))], M_47) _
                    refine w_adv (n := 2) (F' := (85, [(0, .ref 38), (1, .int (Int32.ofInt (b))), (2, .int (Int32.ofInt (v234))), (3, .int (Int32.ofInt (y47_3))), (4, .int (Int32.ofInt (y47_4)))], [.int (Int32.ofInt (b))], M_47)) rfl ?_
                    refine w_br1 (a := b) rfl rfl ⟨by omega, by omega⟩ (fun h377 => ?_) (fun h377 => ?_)
                    · have h377 : ¬ b = 0 := h377
                      show w_W _ _ _ (101, [(0, .ref 38), (1, .int (Int32.ofInt (b))), (2, .int (Int32.ofInt (v234))), (3, .int (Int32.ofInt (y47_3))), (4, .int (Int32.ofInt (y47_4)))], [], M_47) _
                      refine w_adv (n := 2) (F' := (104, [(0, .ref 38), (1, .int (Int32.ofInt (b))), (2, .int (Int32.ofInt (v234))), (3, .int (Int32.ofInt (y47_3))), (4, .int (Int32.ofInt (y47_4)))], [.int (Int32.ofInt (23)), .ref 38], M_47)) rfl ?_
                      refine w_call (cm := 113) (as := [(0, .ref 38), (1, .int (Int32.ofInt (23)))]) (rest := []) (o := some (4, 38)) rfl (w_fitR hR_47 rfl) (c_close (23) hR_47 (show 4 ≤ d by omega) ⟨by omega, by omega⟩ (show l ≤ 7000000 by first | assumption | omega) (show -1 ≤ (I_47 2436) ∧ ((I_47 2437) = 0 ∨ (I_47 2436) < (I_47 773)) ∧ (I_47 773) ≤ 1501 ∧ 1 ≤ 23 by first | assumption | omega) (show 0 ≤ (I_47 2439) ∧ (I_47 2439) ≤ 24 by first | assumption | omega)) (fun r378 M379 q380 => ?_)
                      rcases q380 with ⟨zt381, zk382, zv383, e384, hR380a, f385, f386⟩ | ⟨t387, I380b, A380b, B380b, C380b, e388, hR380b, f389, f390, f391⟩
                      · rw [e384]
                        replace hR380a : w_Rep w_TC fr X u l (w_up (w_up (w_up (w_up (w_up I_47 2436 ((I_47 2436) + 1)) 2441 (zt381)) 2437 (zk382)) 2438 (zv383)) 2439 ((I_47 2439) - 1)) A_47 B_47 C_47 M379 := hR380a
                        replace f385 : ((I_47 2436) + 1 < (I_47 773) ∨ zk382 = 0) := f385
                        replace f386 : (I_47 2437) = 23 := f386
                        show w_W _ _ _ (107, [(0, .ref 38), (1, .int (Int32.ofInt (b))), (2, .int (Int32.ofInt (v234))), (3, .int (Int32.ofInt (y47_3))), (4, .int (Int32.ofInt (y47_4)))], [], M379) _
                        refine w_adv (n := 1) (F' := (108, [(0, .ref 38), (1, .int (Int32.ofInt (b))), (2, .int (Int32.ofInt (v234))), (3, .int (Int32.ofInt (y47_3))), (4, .int (Int32.ofInt (y47_4)))], [.ref 38], M379)) rfl ?_
                        refine w_gf (v := .ref 26) hR380a rfl rfl rfl rfl ?_
                        refine w_adv (n := 3) (F' := (115, [(0, .ref 38), (1, .int (Int32.ofInt (b))), (2, .int (Int32.ofInt (v234))), (3, .int (Int32.ofInt (y47_3))), (4, .int (Int32.ofInt (y47_4)))], [.ref 38, .int (Int32.ofInt (v234)), .int (Int32.ofInt (25)), .ref 26], M379)) rfl ?_
                        refine w_call (cm := 89) (as := [(0, .ref 38)]) (rest := [.int (Int32.ofInt (v234)), .int (Int32.ofInt (25)), .ref 26]) (o := some (4, 38)) rfl (w_fitR hR380a rfl) ((hA d (Nat.lt_succ_self d)).1 hR380a (show 10 * (24 - ((I_47 2439) - 1)) + 13 ≤ (d : Int) by omega) (show l ≤ 7000000 by first | assumption | omega) (show (0 ≤ (I_47 2436) + 1 ∧ (I_47 2436) + 1 ≤ (I_47 773) ∧ (I_47 773) ≤ 1501 ∧ (zk382 = 0 ∨ (I_47 2436) + 1 < (I_47 773))) ∧ (0 ≤ (I_47 2439) - 1 ∧ (I_47 2439) - 1 ≤ 24 ∧ 0 ≤ (I_47 2117)) ∧ 0 ≤ (I_47 1670) ∧ (I_47 1670) ≤ 2 * ((I_47 2436) + 1) + 1 by (repeat' apply And.intro) <;> first | assumption | omega)) (fun r392 M393 q394 => ?_)
                        rcases q394 with ⟨v395, I394a, A394a, B394a, C394a, e396, ⟨r397, r398⟩, hR394a, f399, f400, f401, f402, f403⟩ | ⟨t404, I394b, A394b, B394b, C394b, e405, hR394b, f406, f407, f408⟩
                        · rw [e396]
                          replace hR394a : w_Rep w_TC fr X u l I394a A394a B394a C394a M393 := hR394a
                          replace f399 : c_fi c_ps (w_up (w_up (w_up (w_up (w_up I_47 2436 ((I_47 2436) + 1)) 2441 (zt381)) 2437 (zk382)) 2438 (zv383)) 2439 ((I_47 2439) - 1)) I394a := f399
                          replace f400 : c_fa c_pa A_47 A394a := f400
                          replace f401 : (0 ≤ (I394a 2436) ∧ (I394a 2436) ≤ (I394a 773) ∧ ((I394a 2437) = 0 ∨ (I394a 2436) < (I394a 773))) ∧ ((I394a 773) = (I_47 773) ∧ (I394a 2439) = (I_47 2439) - 1 ∧ 0 ≤ (I394a 2117)) ∧ ((I_47 2436) + 1) + 1 ≤ (I394a 2436) ∧ (I394a 1670) + 1 ≤ (I_47 1670) + 2 * ((I394a 2436) - ((I_47 2436) + 1)) ∧ (I_47 1670) ≤ (I394a 1670) := f401
                          obtain ⟨⟨n409, n410, n411⟩, ⟨n412, n413, n414⟩, n415, n416, n417⟩ := id f401
                          clear f401
                          replace f402 : c_agl A_47 A394a (I_47 1670) := f402
                          replace f403 : c_Wn A394a (c_r ((I_47 2439) - 1) 3) v395 (I_47 1670) (I394a 1670) := f403
                          have k418 : c_Chq c_P0 A394a (c_r (I 2439) 4) v234 y47_3 (I 1670) (I_47 1670) := c_Chq_agl c_P0_fam hi47_4 f402 (show 0 ≤ (I 1670) by omega) (show (I_47 1670) ≤ (I_47 1670) by omega)
                          clear hi47_4
                          have g419 : c_agl A A394a (I 1670) := c_agl_trans hi47_3 f402 (show (I 1670) ≤ (I_47 1670) by omega)
                          have k420 : c_Wn A394a (c_r (I 2439) 4) v395 (I_47 1670) (I394a 1670) := c_Wn_up f403 (show c_r ((I_47 2439) - 1) 3 ≤ c_r (I 2439) 4 by unfold c_r; omega)
                          obtain ⟨b421, b422⟩ := c_W_in k420.1
                          show w_W _ _ _ (118, [(0, .ref 38), (1, .int (Int32.ofInt (b))), (2, .int (Int32.ofInt (v234))), (3, .int (Int32.ofInt (y47_3))), (4, .int (Int32.ofInt (y47_4)))], [.int (Int32.ofInt (v395)), .int (Int32.ofInt (v234)), .int (Int32.ofInt (25)), .ref 26], M393) _
                          refine w_adv (n := 1) (F' := (119, [(0, .ref 38), (1, .int (Int32.ofInt (b))), (2, .int (Int32.ofInt (v234))), (3, .int (Int32.ofInt (y47_3))), (4, .int (Int32.ofInt (y47_4)))], [.int (Int32.ofInt ((-1))), .int (Int32.ofInt (v395)), .int (Int32.ofInt (v234)), .int (Int32.ofInt (25)), .ref 26], M393)) rfl ?_
                          refine w_call (cm := 94) (as := [(0, .ref 26), (1, .int (Int32.ofInt (25))), (2, .int (Int32.ofInt (v234))), (3, .int (Int32.ofInt (v395))), (4, .int (Int32.ofInt ((-1))))]) (rest := []) (o := some (8, 26)) rfl (w_fitR hR394a rfl) (c_mkn (25) (v234) (v395) ((-1)) hR394a (show 2 ≤ d by omega) ⟨by omega, by omega⟩ ⟨by omega, by omega⟩ ⟨by omega, by omega⟩ ⟨by omega, by omega⟩ (show 0 ≤ (I394a 1670) ∧ (I394a 1670) < 3016 by first | assumption | omega)) (fun r423 M424 q425 => ?_)
                          rcases q425 with ⟨A426, e427, hR425a, f428, f429⟩
                          rw [e427]
                          replace hR425a : w_Rep w_TC fr X u l (w_up I394a 1670 ((I394a 1670) + 1)) A426 B394a C394a M424 := hR425a
                          replace f428 : c_fa c_pa A394a A426 := f428
                          replace f429 : c_mk A394a A426 (I394a 1670) 25 v234 v395 (-1) := f429
                          have k430 : c_Bd A426 (c_W A426 (c_r (I 2439) 4)) (I394a 1670) (I 1670) ((I394a 1670) + 1) := c_Bd_mk f429 (show 0 ≤ (I 1670) by omega) ((c_Chq_end k418)) (show (I_47 1670) ≤ (I394a 1670) by omega) (Or.inr (c_Wn_win k420 (show (I_47 1670) ≤ (I_47 1670) by omega) (show (I394a 1670) ≤ (I394a 1670) by omega)).1)
                          have g431 : c_agl A A426 (I 1670) := c_agl_trans g419 f429.1 (show (I 1670) ≤ (I394a 1670) by omega)
                          show w_W _ _ _ (122, [(0, .ref 38), (1, .int (Int32.ofInt (b))), (2, .int (Int32.ofInt (v234))), (3, .int (Int32.ofInt (y47_3))), (4, .int (Int32.ofInt (y47_4)))], [.int (Int32.ofInt ((I394a 1670)))], M424) _
                          refine w_fin (r := .inl (some ((I394a 1670)))) (M' := M424) rfl ?_
                          exact Or.inl ⟨(I394a 1670), (w_up I394a 1670 ((I394a 1670) + 1)), A426, B394a, C394a, rfl, ⟨by omega, by omega⟩, hR425a, (show c_fi c_ps I (w_up I394a 1670 ((I394a 1670) + 1)) by exact (c_fi_up (c_fi_trans (c_fi_up (c_fi_up (c_fi_up (c_fi_up (c_fi_up hi47_0 rfl) rfl) rfl) rfl) rfl) f399) rfl)), (show c_fa c_pa A A426 by exact (c_fa_trans (c_fa_trans hi47_1 f400) f428)), (show (0 ≤ (I394a 2436) ∧ (I394a 2436) ≤ (I394a 773) ∧ ((I394a 2437) = 0 ∨ (I394a 2436) < (I394a 773))) ∧ ((I394a 773) = (I 773) ∧ (I394a 2439) = (I 2439) ∧ 0 ≤ (I394a 2117)) ∧ (I 2436) + 1 ≤ (I394a 2436) ∧ ((I394a 1670) + 1) + 0 ≤ (I 1670) + 2 * ((I394a 2436) - (I 2436)) ∧ (I 1670) ≤ (I394a 1670) + 1 by (repeat' apply And.intro) <;> first | assumption | omega), (show c_agl A A426 (I 1670) by exact g431), (show c_Bd A426 (c_W A426 (c_r (I 2439) 4)) (I394a 1670) (I 1670) ((I394a 1670) + 1) by exact c_BdW_win k430 (show (I 1670) ≤ (I 1670) by omega) (show ((I394a 1670) + 1) ≤ ((I394a 1670) + 1) by omega))⟩
                        · rw [e405]
                          replace hR394b : w_Rep w_TC fr X (u + 6) (l + 64) I394b A394b B394b C394b M393 := hR394b
                          replace f406 : c_fi c_ps (w_up (w_up (w_up (w_up (w_up I_47 2436 ((I_47 2436) + 1)) 2441 (zt381)) 2437 (zk382)) 2438 (zv383)) 2439 ((I_47 2439) - 1)) I394b := f406
                          replace f407 : c_fa c_pa A_47 A394b := f407
                          replace f408 : M393.1[t404]? = some (.inr (11, [])) := f408
                          exact Or.inr (⟨t404, I394b, A394b, B394b, C394b, rfl, hR394b, (show c_fi c_ps I I394b by exact (c_fi_trans (c_fi_up (c_fi_up (c_fi_up (c_fi_up (c_fi_up hi47_0 rfl) rfl) rfl) rfl) rfl) f406)), (show c_fa c_pa A A394b by exact (c_fa_trans hi47_1 f407)), (show M393.1[t404]? = some (.inr (11, [])) by exact f408)⟩)
                      · rw [e388]
                        replace hR380b : w_Rep w_TC fr X (u + 6) (l + 64) I380b A380b B380b C380b M379 := hR380b
                        replace f389 : c_fi c_ps I_47 I380b := f389
                        replace f390 : c_fa c_pa A_47 A380b := f390
                        replace f391 : M379.1[t387]? = some (.inr (11, [])) := f391
                        exact Or.inr (⟨t387, I380b, A380b, B380b, C380b, rfl, hR380b, (show c_fi c_ps I I380b by exact (c_fi_trans hi47_0 f389)), (show c_fa c_pa A A380b by exact (c_fa_trans hi47_1 f390)), (show M379.1[t387]? = some (.inr (11, [])) by exact f391)⟩)
                    · have h377 : ¬ (¬ b = 0) := h377
                      show w_W _ _ _ (88, [(0, .ref 38), (1, .int (Int32.ofInt (b))), (2, .int (Int32.ofInt (v234))), (3, .int (Int32.ofInt (y47_3))), (4, .int (Int32.ofInt (y47_4)))], [], M_47) _
                      refine w_adv (n := 1) (F' := (89, [(0, .ref 38), (1, .int (Int32.ofInt (b))), (2, .int (Int32.ofInt (v234))), (3, .int (Int32.ofInt (y47_3))), (4, .int (Int32.ofInt (y47_4)))], [.ref 38], M_47)) rfl ?_
                      refine w_gf (v := .ref 26) hR_47 rfl rfl rfl rfl ?_
                      refine w_adv (n := 4) (F' := (97, [(0, .ref 38), (1, .int (Int32.ofInt (b))), (2, .int (Int32.ofInt (v234))), (3, .int (Int32.ofInt (y47_3))), (4, .int (Int32.ofInt (y47_4)))], [.int (Int32.ofInt ((-1))), .int (Int32.ofInt ((-1))), .int (Int32.ofInt (v234)), .int (Int32.ofInt (25)), .ref 26], M_47)) rfl ?_
                      refine w_call (cm := 94) (as := [(0, .ref 26), (1, .int (Int32.ofInt (25))), (2, .int (Int32.ofInt (v234))), (3, .int (Int32.ofInt ((-1)))), (4, .int (Int32.ofInt ((-1))))]) (rest := []) (o := some (8, 26)) rfl (w_fitR hR_47 rfl) (c_mkn (25) (v234) ((-1)) ((-1)) hR_47 (show 2 ≤ d by omega) ⟨by omega, by omega⟩ ⟨by omega, by omega⟩ ⟨by omega, by omega⟩ ⟨by omega, by omega⟩ (show 0 ≤ (I_47 1670) ∧ (I_47 1670) < 3016 by first | assumption | omega)) (fun r432 M433 q434 => ?_)
                      rcases q434 with ⟨A435, e436, hR434a, f437, f438⟩
                      rw [e436]
                      replace hR434a : w_Rep w_TC fr X u l (w_up I_47 1670 ((I_47 1670) + 1)) A435 B_47 C_47 M433 := hR434a
                      replace f437 : c_fa c_pa A_47 A435 := f437
                      replace f438 : c_mk A_47 A435 (I_47 1670) 25 v234 (-1) (-1) := f438
                      have k439 : c_Bd A435 (c_W A435 (c_r (I 2439) 4)) (I_47 1670) (I 1670) ((I_47 1670) + 1) := c_Bd_mk f438 (show 0 ≤ (I 1670) by omega) ((c_Chq_end hi47_4)) (show (I_47 1670) ≤ (I_47 1670) by omega) (Or.inl rfl)
                      have g440 : c_agl A A435 (I 1670) := c_agl_trans hi47_3 f438.1 (show (I 1670) ≤ (I_47 1670) by omega)
                      show w_W _ _ _ (100, [(0, .ref 38), (1, .int (Int32.ofInt (b))), (2, .int (Int32.ofInt (v234))), (3, .int (Int32.ofInt (y47_3))), (4, .int (Int32.ofInt (y47_4)))], [.int (Int32.ofInt ((I_47 1670)))], M433) _
                      refine w_fin (r := .inl (some ((I_47 1670)))) (M' := M433) rfl ?_
                      exact Or.inl ⟨(I_47 1670), (w_up I_47 1670 ((I_47 1670) + 1)), A435, B_47, C_47, rfl, ⟨by omega, by omega⟩, hR434a, (show c_fi c_ps I (w_up I_47 1670 ((I_47 1670) + 1)) by exact (c_fi_up hi47_0 rfl)), (show c_fa c_pa A A435 by exact (c_fa_trans hi47_1 f437)), (show (0 ≤ (I_47 2436) ∧ (I_47 2436) ≤ (I_47 773) ∧ ((I_47 2437) = 0 ∨ (I_47 2436) < (I_47 773))) ∧ ((I_47 773) = (I 773) ∧ (I_47 2439) = (I 2439) ∧ 0 ≤ (I_47 2117)) ∧ (I 2436) + 1 ≤ (I_47 2436) ∧ ((I_47 1670) + 1) + 0 ≤ (I 1670) + 2 * ((I_47 2436) - (I 2436)) ∧ (I 1670) ≤ (I_47 1670) + 1 by (repeat' apply And.intro) <;> first | assumption | omega), (show c_agl A A435 (I 1670) by exact g440), (show c_Bd A435 (c_W A435 (c_r (I 2439) 4)) (I_47 1670) (I 1670) ((I_47 1670) + 1) by exact c_BdW_win k439 (show (I 1670) ≤ (I 1670) by omega) (show ((I_47 1670) + 1) ≤ ((I_47 1670) + 1) by omega))⟩
            refine w_ls (ls := [(0, .ref 38), (1, .int (Int32.ofInt (b))), (2, .int (Int32.ofInt (v234))), (3, .int (Int32.ofInt (v234))), (4, .int (Int32.ofInt (0)))]) (show List.Nodup [0, 1, 2, 3, 4] by decide) (show List.Nodup [4, 3, 2, 0, 1] by decide) (List.forall_mem_cons.mpr ⟨(List.Mem.tail _ (List.Mem.tail _ (List.Mem.tail _ (List.Mem.head _)))), (List.forall_mem_cons.mpr ⟨(List.Mem.tail _ (List.Mem.tail _ (List.Mem.tail _ (List.Mem.tail _ (List.Mem.head _))))), (List.forall_mem_cons.mpr ⟨(List.Mem.tail _ (List.Mem.tail _ (List.Mem.head _))), (List.forall_mem_cons.mpr ⟨(List.Mem.tail _ (List.Mem.head _)), (List.forall_mem_cons.mpr ⟨(List.Mem.head _), (fun _ h => by cases h)⟩)⟩)⟩)⟩)⟩) ?_
            exact lp47 ((1500 - 0 : Int).toNat + 1)  (v234) (0) I233a A233a B233a C233a M232 hR233a ⟨by omega, by omega⟩ ⟨by omega, by omega⟩ (show c_fi c_ps I I233a by exact (c_fi_trans (c_fi_up (c_fi_up (c_fi_up (c_fi_up (c_fi_up c_fi_refl rfl) rfl) rfl) rfl) rfl) f238)) (show c_fa c_pa A A233a by exact f239) (show (0 ≤ (I233a 2436) ∧ (I233a 2436) ≤ (I233a 773) ∧ ((I233a 2437) = 0 ∨ (I233a 2436) < (I233a 773))) ∧ ((I233a 773) = (I 773) ∧ ((b = 0 ∧ (I233a 2439) = (I 2439)) ∨ (¬ b = 0 ∧ (I233a 2439) = (I 2439) + 1)) ∧ 0 ≤ (I233a 2117)) ∧ (I 2436) + 1 ≤ (I233a 2436) ∧ (I233a 1670) + 1 ≤ (I 1670) + 2 * ((I233a 2436) - (I 2436)) ∧ (I 1670) ≤ (I233a 1670) by (repeat' apply And.intro) <;> first | assumption | omega) (show c_agl A A233a (I 1670) by exact g257) (show c_Chq c_P0 A233a (c_r (I 2439) 4) v234 v234 (I 1670) (I233a 1670) by exact c_Chq_one k258 (show 0 ≤ (I 1670) by omega)) (show 0 ≤ (0 : Int) ∧ (0 : Int) ≤ 1500 by omega) (show 1500 - 0 < (((1500 - 0 : Int).toNat + 1 : Nat) : Int) by omega)
          · rw [e244]
            replace hR233b : w_Rep w_TC fr X (u + 6) (l + 64) I233b A233b B233b C233b M232 := hR233b
            replace f245 : c_fi c_ps (w_up (w_up (w_up (w_up (w_up I 2436 ((I 2436) + 1)) 2441 (zt220)) 2437 (zk221)) 2438 (zv222)) 2439 ((I 2439) + 1)) I233b := f245
            replace f246 : c_fa c_pa A A233b := f246
            replace f247 : M232.1[t243]? = some (.inr (11, [])) := f247
            exact Or.inr (⟨t243, I233b, A233b, B233b, C233b, rfl, hR233b, (show c_fi c_ps I I233b by exact (c_fi_trans (c_fi_up (c_fi_up (c_fi_up (c_fi_up (c_fi_up c_fi_refl rfl) rfl) rfl) rfl) rfl) f245)), (show c_fa c_pa A A233b by exact f246), (show M232.1[t243]? = some (.inr (11, [])) by exact f247)⟩)
        · rw [e227]
          replace hR219b : w_Rep w_TC fr X (u + 6) (l + 64) I219b A219b B219b C219b M218 := hR219b
          replace f228 : c_fi c_ps I I219b := f228
          replace f229 : c_fa c_pa A A219b := f229
          replace f230 : M218.1[t226]? = some (.inr (11, [])) := f230
          exact Or.inr (⟨t226, I219b, A219b, B219b, C219b, rfl, hR219b, (show c_fi c_ps I I219b by exact f228), (show c_fa c_pa A A219b by exact f229), (show M218.1[t226]? = some (.inr (11, [])) by exact f230)⟩)
    · have h215 : ¬ ((I 2437) = 30) := h215
      show w_W _ _ _ (13, [(0, .ref 38), (1, .int (Int32.ofInt (b)))], [], M) _
      refine w_adv (n := 1) (F' := (14, [(0, .ref 38), (1, .int (Int32.ofInt (b)))], [.ref 38], M)) rfl ?_
      refine w_gf (v := .ref 26) hR rfl rfl rfl rfl ?_
      refine w_adv (n := 3) (F' := (21, [(0, .ref 38), (1, .int (Int32.ofInt (b)))], [.ref 38, .int (Int32.ofInt ((-1))), .int (Int32.ofInt (25)), .ref 26], M)) rfl ?_
      refine w_call (cm := 89) (as := [(0, .ref 38)]) (rest := [.int (Int32.ofInt ((-1))), .int (Int32.ofInt (25)), .ref 26]) (o := some (4, 38)) rfl (w_fitR hR rfl) ((hA d (Nat.lt_succ_self d)).1 hR (show 10 * (24 - (I 2439)) + 13 ≤ (d : Int) by omega) (show l ≤ 7000000 by first | assumption | omega) (show (0 ≤ (I 2436) ∧ (I 2436) ≤ (I 773) ∧ (I 773) ≤ 1501 ∧ ((I 2437) = 0 ∨ (I 2436) < (I 773))) ∧ (0 ≤ (I 2439) ∧ (I 2439) ≤ 24 ∧ 0 ≤ (I 2117)) ∧ 0 ≤ (I 1670) ∧ (I 1670) ≤ 2 * (I 2436) + 1 by (repeat' apply And.intro) <;> first | assumption | omega)) (fun r441 M442 q443 => ?_)
      rcases q443 with ⟨v444, I443a, A443a, B443a, C443a, e445, ⟨r446, r447⟩, hR443a, f448, f449, f450, f451, f452⟩ | ⟨t453, I443b, A443b, B443b, C443b, e454, hR443b, f455, f456, f457⟩
      · rw [e445]
        replace hR443a : w_Rep w_TC fr X u l I443a A443a B443a C443a M442 := hR443a
        replace f448 : c_fi c_ps I I443a := f448
        replace f449 : c_fa c_pa A A443a := f449
        replace f450 : (0 ≤ (I443a 2436) ∧ (I443a 2436) ≤ (I443a 773) ∧ ((I443a 2437) = 0 ∨ (I443a 2436) < (I443a 773))) ∧ ((I443a 773) = (I 773) ∧ (I443a 2439) = (I 2439) ∧ 0 ≤ (I443a 2117)) ∧ (I 2436) + 1 ≤ (I443a 2436) ∧ (I443a 1670) + 1 ≤ (I 1670) + 2 * ((I443a 2436) - (I 2436)) ∧ (I 1670) ≤ (I443a 1670) := f450
        obtain ⟨⟨n458, n459, n460⟩, ⟨n461, n462, n463⟩, n464, n465, n466⟩ := id f450
        clear f450
        replace f451 : c_agl A A443a (I 1670) := f451
        replace f452 : c_Wn A443a (c_r (I 2439) 3) v444 (I 1670) (I443a 1670) := f452
        have g467 : c_agl A A443a (I 1670) := c_agl_trans c_agl_refl f451 (show (I 1670) ≤ (I 1670) by omega)
        have k468 : c_Wn A443a (c_r (I 2439) 4) v444 (I 1670) (I443a 1670) := c_Wn_up f452 (show c_r (I 2439) 3 ≤ c_r (I 2439) 4 by unfold c_r; omega)
        obtain ⟨b469, b470⟩ := c_W_in k468.1
        show w_W _ _ _ (24, [(0, .ref 38), (1, .int (Int32.ofInt (b)))], [.int (Int32.ofInt (v444)), .int (Int32.ofInt ((-1))), .int (Int32.ofInt (25)), .ref 26], M442) _
        refine w_adv (n := 1) (F' := (25, [(0, .ref 38), (1, .int (Int32.ofInt (b)))], [.int (Int32.ofInt ((-1))), .int (Int32.ofInt (v444)), .int (Int32.ofInt ((-1))), .int (Int32.ofInt (25)), .ref 26], M442)) rfl ?_
        refine w_call (cm := 94) (as := [(0, .ref 26), (1, .int (Int32.ofInt (25))), (2, .int (Int32.ofInt ((-1)))), (3, .int (Int32.ofInt (v444))), (4, .int (Int32.ofInt ((-1))))]) (rest := []) (o := some (8, 26)) rfl (w_fitR hR443a rfl) (c_mkn (25) ((-1)) (v444) ((-1)) hR443a (show 2 ≤ d by omega) ⟨by omega, by omega⟩ ⟨by omega, by omega⟩ ⟨by omega, by omega⟩ ⟨by omega, by omega⟩ (show 0 ≤ (I443a 1670) ∧ (I443a 1670) < 3016 by first | assumption | omega)) (fun r471 M472 q473 => ?_)
        rcases q473 with ⟨A474, e475, hR473a, f476, f477⟩
        rw [e475]
        replace hR473a : w_Rep w_TC fr X u l (w_up I443a 1670 ((I443a 1670) + 1)) A474 B443a C443a M472 := hR473a
        replace f476 : c_fa c_pa A443a A474 := f476
        replace f477 : c_mk A443a A474 (I443a 1670) 25 (-1) v444 (-1) := f477
        have k478 : c_Bd A474 (c_W A474 (c_r (I 2439) 4)) (I443a 1670) (I 1670) ((I443a 1670) + 1) := c_Bd_mk f477 (show 0 ≤ (I 1670) by omega) (.nil (show (I 1670) ≤ (I 1670) by omega)) (show (I 1670) ≤ (I443a 1670) by omega) (Or.inr (c_Wn_win k468 (show (I 1670) ≤ (I 1670) by omega) (show (I443a 1670) ≤ (I443a 1670) by omega)).1)
        have g479 : c_agl A A474 (I 1670) := c_agl_trans g467 f477.1 (show (I 1670) ≤ (I443a 1670) by omega)
        show w_W _ _ _ (28, [(0, .ref 38), (1, .int (Int32.ofInt (b)))], [.int (Int32.ofInt ((I443a 1670)))], M472) _
        refine w_fin (r := .inl (some ((I443a 1670)))) (M' := M472) rfl ?_
        exact Or.inl ⟨(I443a 1670), (w_up I443a 1670 ((I443a 1670) + 1)), A474, B443a, C443a, rfl, ⟨by omega, by omega⟩, hR473a, (show c_fi c_ps I (w_up I443a 1670 ((I443a 1670) + 1)) by exact (c_fi_up f448 rfl)), (show c_fa c_pa A A474 by exact (c_fa_trans f449 f476)), (show (0 ≤ (I443a 2436) ∧ (I443a 2436) ≤ (I443a 773) ∧ ((I443a 2437) = 0 ∨ (I443a 2436) < (I443a 773))) ∧ ((I443a 773) = (I 773) ∧ (I443a 2439) = (I 2439) ∧ 0 ≤ (I443a 2117)) ∧ (I 2436) + 1 ≤ (I443a 2436) ∧ ((I443a 1670) + 1) + 0 ≤ (I 1670) + 2 * ((I443a 2436) - (I 2436)) ∧ (I 1670) ≤ (I443a 1670) + 1 by (repeat' apply And.intro) <;> first | assumption | omega), (show c_agl A A474 (I 1670) by exact g479), (show c_Bd A474 (c_W A474 (c_r (I 2439) 4)) (I443a 1670) (I 1670) ((I443a 1670) + 1) by exact c_BdW_win k478 (show (I 1670) ≤ (I 1670) by omega) (show ((I443a 1670) + 1) ≤ ((I443a 1670) + 1) by omega))⟩
      · rw [e454]
        replace hR443b : w_Rep w_TC fr X (u + 6) (l + 64) I443b A443b B443b C443b M442 := hR443b
        replace f455 : c_fi c_ps I I443b := f455
        replace f456 : c_fa c_pa A A443b := f456
        replace f457 : M442.1[t453]? = some (.inr (11, [])) := f457
        exact Or.inr (⟨t453, I443b, A443b, B443b, C443b, rfl, hR443b, (show c_fi c_ps I I443b by exact f455), (show c_fa c_pa A A443b by exact f456), (show M442.1[t453]? = some (.inr (11, [])) by exact f457)⟩)
theorem c_all (L : Nat) (xs : Nat → Int32) : ∀ d, c_ALL L xs d
  | 0 => fun _ h => absurd h (Nat.not_lt_zero _)
  | d + 1 => fun d' h => by
    by_cases e : d' < d
    · exact c_all L xs d d' e
    · have e2 : d' = d := by omega
      subst e2
      exact ⟨c_exp (c_all L xs d'), c_block (c_all L xs d')⟩
