def c_fields_Q (fr : Nat → Bool) (X : Nat → Option (q_C (Nat → Int32))) (u l : Nat) (I : Nat → Int) (A : Nat → Int → Int) (B C : Nat → Nat) (M : w_M) : w_X → w_M → Prop := fun r M' => (∃ v : Int, ∃ (I' : Nat → Int) (A' : Nat → Int → Int) (B' C' : Nat → Nat), (r = .inl (some v)) ∧ (w_in v) ∧ (w_Rep w_TC fr X u l I' A' B' C' M') ∧ (c_fi c_ps I I') ∧ (c_fa c_pa A A') ∧ ((0 ≤ (I' 2436) ∧ (I' 2436) ≤ (I' 773) ∧ ((I' 2437) = 0 ∨ (I' 2436) < (I' 773))) ∧ ((I' 773) = (I 773) ∧ (I' 2439) = (I 2439) ∧ 0 ≤ (I' 2117)) ∧ (I 2436) + 0 ≤ (I' 2436) ∧ (I' 1670) + 0 ≤ (I 1670) + 2 * ((I' 2436) - (I 2436)) ∧ (I 1670) ≤ (I' 1670)) ∧ (c_agl A A' (I 1670)) ∧ (c_Ch (A' 31) (c_P1 A' (c_r (I 2439) 4)) v (I 1670) (I' 1670))) ∨ (∃ t : Nat, ∃ (I' : Nat → Int) (A' : Nat → Int → Int) (B' C' : Nat → Nat), (r = .inr t) ∧ (w_Rep w_TC fr X (u + 6) (l + 64) I' A' B' C' M') ∧ (c_fi c_ps I I') ∧ (c_fa c_pa A A') ∧ (M'.1[t]? = some (.inr (11, []))))
set_option maxHeartbeats 100000000 in
set_option maxRecDepth 100000 in
theorem c_fields {L : Nat} {xs : Nat → Int32} {d : Nat} {fr : Nat → Bool} {X : Nat → Option (q_C (Nat → Int32))} {u l : Nat} {I : Nat → Int} {A : Nat → Int → Int} {B C : Nat → Nat} {M : w_M} (hA : c_ALL L xs d) (hR : w_Rep w_TC fr X u l I A B C M) (hd : 10 * (24 - (I 2439)) + 14 ≤ (d : Int)) (hl : l ≤ 7000000) (hNU : (0 ≤ (I 2436) ∧ (I 2436) ≤ (I 773) ∧ (I 773) ≤ 1501 ∧ ((I 2437) = 0 ∨ (I 2436) < (I 773))) ∧ (0 ≤ (I 2439) ∧ (I 2439) ≤ 24 ∧ 0 ≤ (I 2117)) ∧ 0 ≤ (I 1670) ∧ (I 1670) ≤ 2 * (I 2436) + 1) : w_W (z_P L xs) d 107 (0, [(0, .ref 38)], [], M) (c_fields_Q fr X u l I A B C M) := by
  obtain ⟨d, rfl⟩ : ∃ d0, d = d0 + 1 := ⟨d - 1, by omega⟩
  refine w_adv (n := 6) (F' := (6, [(3, .int (Int32.ofInt (1))), (2, .int (Int32.ofInt ((-1)))), (1, .int (Int32.ofInt ((-1)))), (0, .ref 38)], [], M)) rfl ?_
  have lp6 : ∀ fu6 : Nat, ∀ (y6_1 : Int) (y6_2 : Int) (y6_3 : Int) (I_6 : Nat → Int) (A_6 : Nat → Int → Int) (B_6 C_6 : Nat → Nat) (M_6 : w_M) (hR_6 : w_Rep w_TC fr X u l I_6 A_6 B_6 C_6 M_6), w_in y6_1 → w_in y6_2 → w_in y6_3 → c_fi c_ps I I_6 → c_fa c_pa A A_6 → (0 ≤ (I_6 2436) ∧ (I_6 2436) ≤ (I_6 773) ∧ ((I_6 2437) = 0 ∨ (I_6 2436) < (I_6 773))) ∧ ((I_6 773) = (I 773) ∧ (I_6 2439) = (I 2439) ∧ 0 ≤ (I_6 2117)) ∧ (I 2436) + 0 ≤ (I_6 2436) ∧ (I_6 1670) + 0 ≤ (I 1670) + 2 * ((I_6 2436) - (I 2436)) ∧ (I 1670) ≤ (I_6 1670) → c_agl A A_6 (I 1670) → c_Chq c_P1 A_6 (c_r (I 2439) 4) y6_1 y6_2 (I 1670) (I_6 1670) → 1 ≤ y6_3 ∧ y6_3 ≤ 34 → 34 - y6_3 < (fu6 : Int) → w_W (z_P L xs) (d + 1) 107 (6, [(0, .ref 38), (1, .int (Int32.ofInt (y6_1))), (2, .int (Int32.ofInt (y6_2))), (3, .int (Int32.ofInt (y6_3)))], [], M_6) (c_fields_Q fr X u l I A B C M) := by
    intro fu6
    induction fu6 with
    | zero =>
      intro y6_1 y6_2 y6_3 I_6 A_6 B_6 C_6 M_6 hR_6 ⟨ra_y6_1, rb_y6_1⟩ ⟨ra_y6_2, rb_y6_2⟩ ⟨ra_y6_3, rb_y6_3⟩ hi6_0 hi6_1 hi6_2 hi6_3 hi6_4 hi6_5 hn6
      exfalso
      omega
    | succ fu6 ih6 =>
      intro y6_1 y6_2 y6_3 I_6 A_6 B_6 C_6 M_6 hR_6 ⟨ra_y6_1, rb_y6_1⟩ ⟨ra_y6_2, rb_y6_2⟩ ⟨ra_y6_3, rb_y6_3⟩ hi6_0 hi6_1 hi6_2 hi6_3 hi6_4 hi6_5 hn6
      refine w_adv (n := 2) (F' := (9, [(0, .ref 38), (1, .int (Int32.ofInt (y6_1))), (2, .int (Int32.ofInt (y6_2))), (3, .int (Int32.ofInt (y6_3)))], [.int (Int32.ofInt (33)), .int (Int32.ofInt (y6_3))], M_6)) rfl ?_
      refine w_br2 (a := y6_3) (b := 33) rfl rfl ⟨by omega, by omega⟩ ⟨by omega, by omega⟩ (fun h1 => ?_) (fun h1 => ?_)
      · have h1 : y6_3 > 33 := h1
        show w_W _ _ _ (72, [(0, .ref 38), (1, .int (Int32.ofInt (y6_1))), (2, .int (Int32.ofInt (y6_2))), (3, .int (Int32.ofInt (y6_3)))], [], M_6) _
        refine w_adv (n := 1) (F' := (73, [(0, .ref 38), (1, .int (Int32.ofInt (y6_1))), (2, .int (Int32.ofInt (y6_2))), (3, .int (Int32.ofInt (y6_3)))], [.int (Int32.ofInt (y6_1))], M_6)) rfl ?_
        refine w_fin (r := .inl (some (y6_1))) (M' := M_6) rfl ?_
        exact Or.inl ⟨y6_1, I_6, A_6, B_6, C_6, rfl, ⟨by omega, by omega⟩, hR_6, (show c_fi c_ps I I_6 by exact hi6_0), (show c_fa c_pa A A_6 by exact hi6_1), (show (0 ≤ (I_6 2436) ∧ (I_6 2436) ≤ (I_6 773) ∧ ((I_6 2437) = 0 ∨ (I_6 2436) < (I_6 773))) ∧ ((I_6 773) = (I 773) ∧ (I_6 2439) = (I 2439) ∧ 0 ≤ (I_6 2117)) ∧ (I 2436) + 0 ≤ (I_6 2436) ∧ (I_6 1670) + 0 ≤ (I 1670) + 2 * ((I_6 2436) - (I 2436)) ∧ (I 1670) ≤ (I_6 1670) by (repeat' apply And.intro) <;> first | assumption | omega), (show c_agl A A_6 (I 1670) by exact hi6_3), (show c_Ch (A_6 31) (c_P1 A_6 (c_r (I 2439) 4)) y6_1 (I 1670) (I_6 1670) by exact c_Ch_wide (fun _ _ => c_P1_win) (c_Chq_end hi6_4) (show (I 1670) ≤ (I 1670) by omega) (show (I_6 1670) ≤ (I_6 1670) by omega))⟩
      · have h1 : ¬ (y6_3 > 33) := h1
        show w_W _ _ _ (12, [(0, .ref 38), (1, .int (Int32.ofInt (y6_1))), (2, .int (Int32.ofInt (y6_2))), (3, .int (Int32.ofInt (y6_3)))], [], M_6) _
        refine w_adv (n := 1) (F' := (13, [(0, .ref 38), (1, .int (Int32.ofInt (y6_1))), (2, .int (Int32.ofInt (y6_2))), (3, .int (Int32.ofInt (y6_3)))], [.ref 38], M_6)) rfl ?_
        refine w_gf (v := .int (Int32.ofInt ((I_6 2437)))) hR_6 rfl rfl rfl rfl ?_
        obtain ⟨r2, r3⟩ : -2147483648 ≤ (I_6 2437) ∧ (I_6 2437) ≤ 2147483647 := hR_6.ri 2437
        refine w_adv (n := 1) (F' := (18, [(0, .ref 38), (1, .int (Int32.ofInt (y6_1))), (2, .int (Int32.ofInt (y6_2))), (3, .int (Int32.ofInt (y6_3)))], [.int (Int32.ofInt (6)), .int (Int32.ofInt ((I_6 2437)))], M_6)) rfl ?_
        refine w_br2 (a := (I_6 2437)) (b := 6) rfl rfl ⟨by omega, by omega⟩ ⟨by omega, by omega⟩ (fun h4 => ?_) (fun h4 => ?_)
        · have h4 : (I_6 2437) = 6 := h4
          show w_W _ _ _ (72, [(0, .ref 38), (1, .int (Int32.ofInt (y6_1))), (2, .int (Int32.ofInt (y6_2))), (3, .int (Int32.ofInt (y6_3)))], [], M_6) _
          refine w_adv (n := 1) (F' := (73, [(0, .ref 38), (1, .int (Int32.ofInt (y6_1))), (2, .int (Int32.ofInt (y6_2))), (3, .int (Int32.ofInt (y6_3)))], [.int (Int32.ofInt (y6_1))], M_6)) rfl ?_
          refine w_fin (r := .inl (some (y6_1))) (M' := M_6) rfl ?_
          exact Or.inl ⟨y6_1, I_6, A_6, B_6, C_6, rfl, ⟨by omega, by omega⟩, hR_6, (show c_fi c_ps I I_6 by exact hi6_0), (show c_fa c_pa A A_6 by exact hi6_1), (show (0 ≤ (I_6 2436) ∧ (I_6 2436) ≤ (I_6 773) ∧ ((I_6 2437) = 0 ∨ (I_6 2436) < (I_6 773))) ∧ ((I_6 773) = (I 773) ∧ (I_6 2439) = (I 2439) ∧ 0 ≤ (I_6 2117)) ∧ (I 2436) + 0 ≤ (I_6 2436) ∧ (I_6 1670) + 0 ≤ (I 1670) + 2 * ((I_6 2436) - (I 2436)) ∧ (I 1670) ≤ (I_6 1670) by (repeat' apply And.intro) <;> first | assumption | omega), (show c_agl A A_6 (I 1670) by exact hi6_3), (show c_Ch (A_6 31) (c_P1 A_6 (c_r (I 2439) 4)) y6_1 (I 1670) (I_6 1670) by exact c_Ch_wide (fun _ _ => c_P1_win) (c_Chq_end hi6_4) (show (I 1670) ≤ (I 1670) by omega) (show (I_6 1670) ≤ (I_6 1670) by omega))⟩
        · have h4 : ¬ ((I_6 2437) = 6) := h4
          show w_W _ _ _ (21, [(0, .ref 38), (1, .int (Int32.ofInt (y6_1))), (2, .int (Int32.ofInt (y6_2))), (3, .int (Int32.ofInt (y6_3)))], [], M_6) _
          refine w_adv (n := 2) (F' := (24, [(0, .ref 38), (1, .int (Int32.ofInt (y6_1))), (2, .int (Int32.ofInt (y6_2))), (3, .int (Int32.ofInt (y6_3)))], [.int (Int32.ofInt (32)), .int (Int32.ofInt (y6_3))], M_6)) rfl ?_
          refine w_br2 (a := y6_3) (b := 32) rfl rfl ⟨by omega, by omega⟩ ⟨by omega, by omega⟩ (fun h5 => ?_) (fun h5 => ?_)
          · have h5 : y6_3 ≤ 32 := h5
            show w_W _ _ _ (31, [(0, .ref 38), (1, .int (Int32.ofInt (y6_1))), (2, .int (Int32.ofInt (y6_2))), (3, .int (Int32.ofInt (y6_3)))], [], M_6) _
            refine w_adv (n := 1) (F' := (32, [(0, .ref 38), (1, .int (Int32.ofInt (y6_1))), (2, .int (Int32.ofInt (y6_2))), (3, .int (Int32.ofInt (y6_3)))], [.ref 38], M_6)) rfl ?_
            refine w_gf (v := .ref 26) hR_6 rfl rfl rfl rfl ?_
            refine w_adv (n := 2) (F' := (37, [(0, .ref 38), (1, .int (Int32.ofInt (y6_1))), (2, .int (Int32.ofInt (y6_2))), (3, .int (Int32.ofInt (y6_3)))], [.ref 38, .int (Int32.ofInt (y6_2)), .ref 26], M_6)) rfl ?_
            refine w_gf (v := .ref 26) hR_6 rfl rfl rfl rfl ?_
            refine w_adv (n := 3) (F' := (44, [(0, .ref 38), (1, .int (Int32.ofInt (y6_1))), (2, .int (Int32.ofInt (y6_2))), (3, .int (Int32.ofInt (y6_3)))], [.ref 38, .int (Int32.ofInt (y6_3)), .int (Int32.ofInt (6)), .ref 26, .int (Int32.ofInt (y6_2)), .ref 26], M_6)) rfl ?_
            refine w_call (cm := 89) (as := [(0, .ref 38)]) (rest := [.int (Int32.ofInt (y6_3)), .int (Int32.ofInt (6)), .ref 26, .int (Int32.ofInt (y6_2)), .ref 26]) (o := some (4, 38)) rfl (w_fitR hR_6 rfl) ((hA d (Nat.lt_succ_self d)).1 hR_6 (show 10 * (24 - (I_6 2439)) + 13 ≤ (d : Int) by omega) (show l ≤ 7000000 by first | assumption | omega) (show (0 ≤ (I_6 2436) ∧ (I_6 2436) ≤ (I_6 773) ∧ (I_6 773) ≤ 1501 ∧ ((I_6 2437) = 0 ∨ (I_6 2436) < (I_6 773))) ∧ (0 ≤ (I_6 2439) ∧ (I_6 2439) ≤ 24 ∧ 0 ≤ (I_6 2117)) ∧ 0 ≤ (I_6 1670) ∧ (I_6 1670) ≤ 2 * (I_6 2436) + 1 by (repeat' apply And.intro) <;> first | assumption | omega)) (fun r6 M7 q8 => ?_)
            rcases q8 with ⟨v9, I8a, A8a, B8a, C8a, e10, ⟨r11, r12⟩, hR8a, f13, f14, f15, f16, f17⟩ | ⟨t18, I8b, A8b, B8b, C8b, e19, hR8b, f20, f21, f22⟩
            · rw [e10]
              replace hR8a : w_Rep w_TC fr X u l I8a A8a B8a C8a M7 := hR8a
              replace f13 : c_fi c_ps I_6 I8a := f13
              replace f14 : c_fa c_pa A_6 A8a := f14
              replace f15 : (0 ≤ (I8a 2436) ∧ (I8a 2436) ≤ (I8a 773) ∧ ((I8a 2437) = 0 ∨ (I8a 2436) < (I8a 773))) ∧ ((I8a 773) = (I_6 773) ∧ (I8a 2439) = (I_6 2439) ∧ 0 ≤ (I8a 2117)) ∧ (I_6 2436) + 1 ≤ (I8a 2436) ∧ (I8a 1670) + 1 ≤ (I_6 1670) + 2 * ((I8a 2436) - (I_6 2436)) ∧ (I_6 1670) ≤ (I8a 1670) := f15
              obtain ⟨⟨n23, n24, n25⟩, ⟨n26, n27, n28⟩, n29, n30, n31⟩ := id f15
              clear f15
              replace f16 : c_agl A_6 A8a (I_6 1670) := f16
              replace f17 : c_Wn A8a (c_r (I_6 2439) 3) v9 (I_6 1670) (I8a 1670) := f17
              have k32 : c_Chq c_P1 A8a (c_r (I 2439) 4) y6_1 y6_2 (I 1670) (I_6 1670) := c_Chq_agl c_P1_fam hi6_4 f16 (show 0 ≤ (I 1670) by omega) (show (I_6 1670) ≤ (I_6 1670) by omega)
              clear hi6_4
              have g33 : c_agl A A8a (I 1670) := c_agl_trans hi6_3 f16 (show (I 1670) ≤ (I_6 1670) by omega)
              have k34 : c_Wn A8a (c_r (I 2439) 4) v9 (I_6 1670) (I8a 1670) := c_Wn_up f17 (show c_r (I_6 2439) 3 ≤ c_r (I 2439) 4 by unfold c_r; omega)
              obtain ⟨b35, b36⟩ := c_W_in k34.1
              show w_W _ _ _ (47, [(0, .ref 38), (1, .int (Int32.ofInt (y6_1))), (2, .int (Int32.ofInt (y6_2))), (3, .int (Int32.ofInt (y6_3)))], [.int (Int32.ofInt (v9)), .int (Int32.ofInt (y6_3)), .int (Int32.ofInt (6)), .ref 26, .int (Int32.ofInt (y6_2)), .ref 26], M7) _
              refine w_adv (n := 1) (F' := (48, [(0, .ref 38), (1, .int (Int32.ofInt (y6_1))), (2, .int (Int32.ofInt (y6_2))), (3, .int (Int32.ofInt (y6_3)))], [.int (Int32.ofInt ((-1))), .int (Int32.ofInt (v9)), .int (Int32.ofInt (y6_3)), .int (Int32.ofInt (6)), .ref 26, .int (Int32.ofInt (y6_2)), .ref 26], M7)) rfl ?_
              refine w_call (cm := 94) (as := [(0, .ref 26), (1, .int (Int32.ofInt (6))), (2, .int (Int32.ofInt (y6_3))), (3, .int (Int32.ofInt (v9))), (4, .int (Int32.ofInt ((-1))))]) (rest := [.int (Int32.ofInt (y6_2)), .ref 26]) (o := some (8, 26)) rfl (w_fitR hR8a rfl) (c_mkn (6) (y6_3) (v9) ((-1)) hR8a (show 2 ≤ d by omega) ⟨by omega, by omega⟩ ⟨by omega, by omega⟩ ⟨by omega, by omega⟩ ⟨by omega, by omega⟩ (show 0 ≤ (I8a 1670) ∧ (I8a 1670) < 3016 by first | assumption | omega)) (fun r37 M38 q39 => ?_)
              rcases q39 with ⟨A40, e41, hR39a, f42, f43⟩
              rw [e41]
              replace hR39a : w_Rep w_TC fr X u l (w_up I8a 1670 ((I8a 1670) + 1)) A40 B8a C8a M38 := hR39a
              replace f42 : c_fa c_pa A8a A40 := f42
              replace f43 : c_mk A8a A40 (I8a 1670) 6 y6_3 v9 (-1) := f43
              have k44 := c_P1_mk (i := (c_r (I 2439) 4)) f43 (show 0 ≤ (I_6 1670) by omega) (c_Wn_win k34 (show (I_6 1670) ≤ (I_6 1670) by omega) (show (I8a 1670) ≤ (I8a 1670) by omega)).1
              have k45 : c_Chq c_P1 A40 (c_r (I 2439) 4) y6_1 y6_2 (I 1670) (I_6 1670) := c_Chq_agl c_P1_fam k32 f43.1 (show 0 ≤ (I 1670) by omega) (show (I_6 1670) ≤ (I8a 1670) by omega)
              clear k32
              have g46 : c_agl A A40 (I 1670) := c_agl_trans g33 f43.1 (show (I 1670) ≤ (I8a 1670) by omega)
              show w_W _ _ _ (51, [(0, .ref 38), (1, .int (Int32.ofInt (y6_1))), (2, .int (Int32.ofInt (y6_2))), (3, .int (Int32.ofInt (y6_3)))], [.int (Int32.ofInt ((I8a 1670))), .int (Int32.ofInt (y6_2)), .ref 26], M38) _
              refine w_call (cm := 106) (as := [(0, .ref 26), (1, .int (Int32.ofInt (y6_2))), (2, .int (Int32.ofInt ((I8a 1670))))]) (rest := []) (o := some (8, 26)) rfl (w_fitR hR39a rfl) (c_chn (y6_2) ((I8a 1670)) hR39a (show 2 ≤ d by omega) ⟨by omega, by omega⟩ ⟨by omega, by omega⟩) (fun r47 M48 q49 => ?_)
              rcases q49 with ⟨A50, e51, hR49a, f52, f53⟩
              rw [e51]
              replace hR49a : w_Rep w_TC fr X u l (w_up I8a 1670 ((I8a 1670) + 1)) A50 B8a C8a M48 := hR49a
              replace f52 : c_fa c_pa A40 A50 := f52
              replace f53 : c_nxw A40 A50 y6_2 (I8a 1670) := f53
              have k54 : ∀ f', (y6_1 = -1 ∧ f' = (I8a 1670) ∨ y6_1 ≠ -1 ∧ f' = y6_1) → c_Chq c_P1 A50 (c_r (I 2439) 4) f' (I8a 1670) (I 1670) ((I8a 1670) + 1) := c_Chq_app c_P1_fam k45 (show (I_6 1670) ≤ (I_6 1670) by omega) f53 (show 0 ≤ (I 1670) by omega) (show (I_6 1670) ≤ 3016 by omega) (show (I_6 1670) ≤ (I8a 1670) ∧ (I8a 1670) < ((I8a 1670) + 1) by omega) k44.1 k44.2 c_P1_win
              have g55 : c_agl A40 A50 (I 1670) := c_agl_nxw f53 (c_Chq_l k45)
              have g56 : c_agl A A50 (I 1670) := c_agl_trans g46 g55 (show (I 1670) ≤ (I 1670) by omega)
              show w_W _ _ _ (54, [(0, .ref 38), (1, .int (Int32.ofInt (y6_1))), (2, .int (Int32.ofInt (y6_2))), (3, .int (Int32.ofInt (y6_3)))], [.int (Int32.ofInt ((I8a 1670)))], M48) _
              refine w_adv (n := 3) (F' := (57, [(2, .int (Int32.ofInt ((I8a 1670)))), (0, .ref 38), (1, .int (Int32.ofInt (y6_1))), (3, .int (Int32.ofInt (y6_3)))], [.int (Int32.ofInt ((-1))), .int (Int32.ofInt (y6_1))], M48)) rfl ?_
              refine w_br2 (a := y6_1) (b := (-1)) rfl rfl ⟨by omega, by omega⟩ ⟨by omega, by omega⟩ (fun h57 => ?_) (fun h57 => ?_)
              · have h57 : ¬ y6_1 = (-1) := h57
                show w_W _ _ _ (64, [(2, .int (Int32.ofInt ((I8a 1670)))), (0, .ref 38), (1, .int (Int32.ofInt (y6_1))), (3, .int (Int32.ofInt (y6_3)))], [], M48) _
                refine w_adv (n := 2) (F' := (66, [(1, .int (Int32.ofInt (y6_1))), (2, .int (Int32.ofInt ((I8a 1670)))), (0, .ref 38), (3, .int (Int32.ofInt (y6_3)))], [], M48)) rfl ?_
                refine w_inc (nL := 4) (a := y6_3) rfl rfl rfl (by decide) ?_
                refine w_adv (n := 1) (F' := (6, [(3, .int (Int32.ofInt (y6_3 + 1))), (1, .int (Int32.ofInt (y6_1))), (2, .int (Int32.ofInt ((I8a 1670)))), (0, .ref 38)], [], M48)) rfl ?_
                refine w_ls (ls := [(0, .ref 38), (1, .int (Int32.ofInt (y6_1))), (2, .int (Int32.ofInt ((I8a 1670)))), (3, .int (Int32.ofInt (y6_3 + 1)))]) (show List.Nodup [0, 1, 2, 3] by decide) (show List.Nodup [3, 1, 2, 0] by decide) (List.forall_mem_cons.mpr ⟨(List.Mem.tail _ (List.Mem.tail _ (List.Mem.tail _ (List.Mem.head _)))), (List.forall_mem_cons.mpr ⟨(List.Mem.tail _ (List.Mem.head _)), (List.forall_mem_cons.mpr ⟨(List.Mem.tail _ (List.Mem.tail _ (List.Mem.head _))), (List.forall_mem_cons.mpr ⟨(List.Mem.head _), (fun _ h => by cases h)⟩)⟩)⟩)⟩) ?_
                exact ih6  (y6_1) ((I8a 1670)) (y6_3 + 1) (w_up I8a 1670 ((I8a 1670) + 1)) A50 B8a C8a M48 hR49a ⟨by omega, by omega⟩ ⟨by omega, by omega⟩ ⟨by omega, by omega⟩ (show c_fi c_ps I (w_up I8a 1670 ((I8a 1670) + 1)) by exact (c_fi_up (c_fi_trans hi6_0 f13) rfl)) (show c_fa c_pa A A50 by exact (c_fa_trans (c_fa_trans (c_fa_trans hi6_1 f14) f42) f52)) (show (0 ≤ (I8a 2436) ∧ (I8a 2436) ≤ (I8a 773) ∧ ((I8a 2437) = 0 ∨ (I8a 2436) < (I8a 773))) ∧ ((I8a 773) = (I 773) ∧ (I8a 2439) = (I 2439) ∧ 0 ≤ (I8a 2117)) ∧ (I 2436) + 0 ≤ (I8a 2436) ∧ ((I8a 1670) + 1) + 0 ≤ (I 1670) + 2 * ((I8a 2436) - (I 2436)) ∧ (I 1670) ≤ (I8a 1670) + 1 by (repeat' apply And.intro) <;> first | assumption | omega) (show c_agl A A50 (I 1670) by exact g56) (show c_Chq c_P1 A50 (c_r (I 2439) 4) y6_1 (I8a 1670) (I 1670) ((I8a 1670) + 1) by exact k54 _ (by omega)) (show 1 ≤ (y6_3 + 1) ∧ (y6_3 + 1) ≤ 34 by omega) (show 34 - (y6_3 + 1) < (fu6 : Int) by omega)
              · have h57 : ¬ (¬ y6_1 = (-1)) := h57
                show w_W _ _ _ (60, [(2, .int (Int32.ofInt ((I8a 1670)))), (0, .ref 38), (1, .int (Int32.ofInt (y6_1))), (3, .int (Int32.ofInt (y6_3)))], [], M48) _
                refine w_adv (n := 3) (F' := (66, [(1, .int (Int32.ofInt ((I8a 1670)))), (2, .int (Int32.ofInt ((I8a 1670)))), (0, .ref 38), (3, .int (Int32.ofInt (y6_3)))], [], M48)) rfl ?_
                refine w_inc (nL := 4) (a := y6_3) rfl rfl rfl (by decide) ?_
                refine w_adv (n := 1) (F' := (6, [(3, .int (Int32.ofInt (y6_3 + 1))), (1, .int (Int32.ofInt ((I8a 1670)))), (2, .int (Int32.ofInt ((I8a 1670)))), (0, .ref 38)], [], M48)) rfl ?_
                refine w_ls (ls := [(0, .ref 38), (1, .int (Int32.ofInt ((I8a 1670)))), (2, .int (Int32.ofInt ((I8a 1670)))), (3, .int (Int32.ofInt (y6_3 + 1)))]) (show List.Nodup [0, 1, 2, 3] by decide) (show List.Nodup [3, 1, 2, 0] by decide) (List.forall_mem_cons.mpr ⟨(List.Mem.tail _ (List.Mem.tail _ (List.Mem.tail _ (List.Mem.head _)))), (List.forall_mem_cons.mpr ⟨(List.Mem.tail _ (List.Mem.head _)), (List.forall_mem_cons.mpr ⟨(List.Mem.tail _ (List.Mem.tail _ (List.Mem.head _))), (List.forall_mem_cons.mpr ⟨(List.Mem.head _), (fun _ h => by cases h)⟩)⟩)⟩)⟩) ?_
                exact ih6  ((I8a 1670)) ((I8a 1670)) (y6_3 + 1) (w_up I8a 1670 ((I8a 1670) + 1)) A50 B8a C8a M48 hR49a ⟨by omega, by omega⟩ ⟨by omega, by omega⟩ ⟨by omega, by omega⟩ (show c_fi c_ps I (w_up I8a 1670 ((I8a 1670) + 1)) by exact (c_fi_up (c_fi_trans hi6_0 f13) rfl)) (show c_fa c_pa A A50 by exact (c_fa_trans (c_fa_trans (c_fa_trans hi6_1 f14) f42) f52)) (show (0 ≤ (I8a 2436) ∧ (I8a 2436) ≤ (I8a 773) ∧ ((I8a 2437) = 0 ∨ (I8a 2436) < (I8a 773))) ∧ ((I8a 773) = (I 773) ∧ (I8a 2439) = (I 2439) ∧ 0 ≤ (I8a 2117)) ∧ (I 2436) + 0 ≤ (I8a 2436) ∧ ((I8a 1670) + 1) + 0 ≤ (I 1670) + 2 * ((I8a 2436) - (I 2436)) ∧ (I 1670) ≤ (I8a 1670) + 1 by (repeat' apply And.intro) <;> first | assumption | omega) (show c_agl A A50 (I 1670) by exact g56) (show c_Chq c_P1 A50 (c_r (I 2439) 4) (I8a 1670) (I8a 1670) (I 1670) ((I8a 1670) + 1) by exact k54 _ (by omega)) (show 1 ≤ (y6_3 + 1) ∧ (y6_3 + 1) ≤ 34 by omega) (show 34 - (y6_3 + 1) < (fu6 : Int) by omega)
            · rw [e19]
              replace hR8b : w_Rep w_TC fr X (u + 6) (l + 64) I8b A8b B8b C8b M7 := hR8b
              replace f20 : c_fi c_ps I_6 I8b := f20
              replace f21 : c_fa c_pa A_6 A8b := f21
              replace f22 : M7.1[t18]? = some (.inr (11, [])) := f22
              exact Or.inr (⟨t18, I8b, A8b, B8b, C8b, rfl, hR8b, (show c_fi c_ps I I8b by exact (c_fi_trans hi6_0 f20)), (show c_fa c_pa A A8b by exact (c_fa_trans hi6_1 f21)), (show M7.1[t18]? = some (.inr (11, [])) by exact f22)⟩)
          · have h5 : ¬ (y6_3 ≤ 32) := h5
            show w_W _ _ _ (27, [(0, .ref 38), (1, .int (Int32.ofInt (y6_1))), (2, .int (Int32.ofInt (y6_2))), (3, .int (Int32.ofInt (y6_3)))], [], M_6) _
            refine w_adv (n := 1) (F' := (28, [(0, .ref 38), (1, .int (Int32.ofInt (y6_1))), (2, .int (Int32.ofInt (y6_2))), (3, .int (Int32.ofInt (y6_3)))], [.ref 38], M_6)) rfl ?_
            refine w_call (cm := 108) (as := [(0, .ref 38)]) (rest := []) (o := some (4, 38)) rfl (w_fitR hR_6 rfl) (c_refuseExp hR_6 (show 4 ≤ d by omega) (show l ≤ 7000000 by first | assumption | omega)) (fun r58 M59 q60 => ?_)
            rcases q60 with ⟨t61, I60a, A60a, B60a, C60a, e62, hR60a, f63, f64, f65⟩
            rw [e62]
            replace hR60a : w_Rep w_TC fr X (u + 6) (l + 64) I60a A60a B60a C60a M59 := hR60a
            replace f63 : c_fi c_ps I_6 I60a := f63
            replace f64 : c_fa c_pa A_6 A60a := f64
            replace f65 : M59.1[t61]? = some (.inr (11, [])) := f65
            exact Or.inr (⟨t61, I60a, A60a, B60a, C60a, rfl, hR60a, (show c_fi c_ps I I60a by exact (c_fi_trans hi6_0 f63)), (show c_fa c_pa A A60a by exact (c_fa_trans hi6_1 f64)), (show M59.1[t61]? = some (.inr (11, [])) by exact f65)⟩)
  refine w_ls (ls := [(0, .ref 38), (1, .int (Int32.ofInt ((-1)))), (2, .int (Int32.ofInt ((-1)))), (3, .int (Int32.ofInt (1)))]) (show List.Nodup [0, 1, 2, 3] by decide) (show List.Nodup [3, 2, 1, 0] by decide) (List.forall_mem_cons.mpr ⟨(List.Mem.tail _ (List.Mem.tail _ (List.Mem.tail _ (List.Mem.head _)))), (List.forall_mem_cons.mpr ⟨(List.Mem.tail _ (List.Mem.tail _ (List.Mem.head _))), (List.forall_mem_cons.mpr ⟨(List.Mem.tail _ (List.Mem.head _)), (List.forall_mem_cons.mpr ⟨(List.Mem.head _), (fun _ h => by cases h)⟩)⟩)⟩)⟩) ?_
  exact lp6 ((34 - 1 : Int).toNat + 1)  ((-1)) ((-1)) (1) I A B C M hR ⟨by omega, by omega⟩ ⟨by omega, by omega⟩ ⟨by omega, by omega⟩ (show c_fi c_ps I I by exact c_fi_refl) (show c_fa c_pa A A by exact c_fa_refl) (show (0 ≤ (I 2436) ∧ (I 2436) ≤ (I 773) ∧ ((I 2437) = 0 ∨ (I 2436) < (I 773))) ∧ ((I 773) = (I 773) ∧ (I 2439) = (I 2439) ∧ 0 ≤ (I 2117)) ∧ (I 2436) + 0 ≤ (I 2436) ∧ (I 1670) + 0 ≤ (I 1670) + 2 * ((I 2436) - (I 2436)) ∧ (I 1670) ≤ (I 1670) by (repeat' apply And.intro) <;> first | assumption | omega) (show c_agl A A (I 1670) by exact c_agl_refl) (show c_Chq c_P1 A (c_r (I 2439) 4) (((-1) : Int)) (((-1) : Int)) (I 1670) (I 1670) by exact c_Chq_nil (show (I 1670) ≤ (I 1670) by omega)) (show 1 ≤ (1 : Int) ∧ (1 : Int) ≤ 34 by omega) (show 34 - 1 < (((34 - 1 : Int).toNat + 1 : Nat) : Int) by omega)
def c_featuredFields_Q (fr : Nat → Bool) (X : Nat → Option (q_C (Nat → Int32))) (u l : Nat) (I : Nat → Int) (A : Nat → Int → Int) (B C : Nat → Nat) (M : w_M) : w_X → w_M → Prop := fun r M' => (∃ v : Int, ∃ (I' : Nat → Int) (A' : Nat → Int → Int) (B' C' : Nat → Nat), (r = .inl (some v)) ∧ (w_in v) ∧ (w_Rep w_TC fr X u l I' A' B' C' M') ∧ (c_fi c_ps I I') ∧ (c_fa c_pa A A') ∧ ((0 ≤ (I' 2436) ∧ (I' 2436) ≤ (I' 773) ∧ ((I' 2437) = 0 ∨ (I' 2436) < (I' 773))) ∧ ((I' 773) = (I 773) ∧ (I' 2439) = (I 2439) ∧ 0 ≤ (I' 2117)) ∧ (I 2436) + 0 ≤ (I' 2436) ∧ (I' 1670) + 0 ≤ (I 1670) + 2 * ((I' 2436) - (I 2436)) ∧ (I 1670) ≤ (I' 1670)) ∧ (c_agl A A' (I 1670)) ∧ (c_Ch (A' 31) (c_P1 A' (c_r (I 2439) 4)) v (I 1670) (I' 1670))) ∨ (∃ t : Nat, ∃ (I' : Nat → Int) (A' : Nat → Int → Int) (B' C' : Nat → Nat), (r = .inr t) ∧ (w_Rep w_TC fr X (u + 6) (l + 64) I' A' B' C' M') ∧ (c_fi c_ps I I') ∧ (c_fa c_pa A A') ∧ (M'.1[t]? = some (.inr (11, []))))
set_option maxHeartbeats 100000000 in
set_option maxRecDepth 100000 in
theorem c_featuredFields {L : Nat} {xs : Nat → Int32} {d : Nat} {fr : Nat → Bool} {X : Nat → Option (q_C (Nat → Int32))} {u l : Nat} {I : Nat → Int} {A : Nat → Int → Int} {B C : Nat → Nat} {M : w_M} (hA : c_ALL L xs d) (hR : w_Rep w_TC fr X u l I A B C M) (hd : 10 * (24 - (I 2439)) + 14 ≤ (d : Int)) (hl : l ≤ 7000000) (hNU : (0 ≤ (I 2436) ∧ (I 2436) ≤ (I 773) ∧ (I 773) ≤ 1501 ∧ ((I 2437) = 0 ∨ (I 2436) < (I 773))) ∧ (0 ≤ (I 2439) ∧ (I 2439) ≤ 24 ∧ 0 ≤ (I 2117)) ∧ 0 ≤ (I 1670) ∧ (I 1670) ≤ 2 * (I 2436) + 1) : w_W (z_P L xs) d 102 (0, [(0, .ref 38)], [], M) (c_featuredFields_Q fr X u l I A B C M) := by
  obtain ⟨d, rfl⟩ : ∃ d0, d = d0 + 1 := ⟨d - 1, by omega⟩
  refine w_adv (n := 6) (F' := (6, [(3, .int (Int32.ofInt (1))), (2, .int (Int32.ofInt ((-1)))), (1, .int (Int32.ofInt ((-1)))), (0, .ref 38)], [], M)) rfl ?_
  have lp6 : ∀ fu6 : Nat, ∀ (y6_1 : Int) (y6_2 : Int) (y6_3 : Int) (I_6 : Nat → Int) (A_6 : Nat → Int → Int) (B_6 C_6 : Nat → Nat) (M_6 : w_M) (hR_6 : w_Rep w_TC fr X u l I_6 A_6 B_6 C_6 M_6), w_in y6_1 → w_in y6_2 → w_in y6_3 → c_fi c_ps I I_6 → c_fa c_pa A A_6 → (0 ≤ (I_6 2436) ∧ (I_6 2436) ≤ (I_6 773) ∧ ((I_6 2437) = 0 ∨ (I_6 2436) < (I_6 773))) ∧ ((I_6 773) = (I 773) ∧ (I_6 2439) = (I 2439) ∧ 0 ≤ (I_6 2117)) ∧ (I 2436) + 0 ≤ (I_6 2436) ∧ (I_6 1670) + 0 ≤ (I 1670) + 2 * ((I_6 2436) - (I 2436)) ∧ (I 1670) ≤ (I_6 1670) → c_agl A A_6 (I 1670) → c_Chq c_P1 A_6 (c_r (I 2439) 4) y6_1 y6_2 (I 1670) (I_6 1670) → 1 ≤ y6_3 ∧ y6_3 ≤ 34 → 34 - y6_3 < (fu6 : Int) → w_W (z_P L xs) (d + 1) 102 (6, [(0, .ref 38), (1, .int (Int32.ofInt (y6_1))), (2, .int (Int32.ofInt (y6_2))), (3, .int (Int32.ofInt (y6_3)))], [], M_6) (c_featuredFields_Q fr X u l I A B C M) := by
    intro fu6
    induction fu6 with
    | zero =>
      intro y6_1 y6_2 y6_3 I_6 A_6 B_6 C_6 M_6 hR_6 ⟨ra_y6_1, rb_y6_1⟩ ⟨ra_y6_2, rb_y6_2⟩ ⟨ra_y6_3, rb_y6_3⟩ hi6_0 hi6_1 hi6_2 hi6_3 hi6_4 hi6_5 hn6
      exfalso
      omega
    | succ fu6 ih6 =>
      intro y6_1 y6_2 y6_3 I_6 A_6 B_6 C_6 M_6 hR_6 ⟨ra_y6_1, rb_y6_1⟩ ⟨ra_y6_2, rb_y6_2⟩ ⟨ra_y6_3, rb_y6_3⟩ hi6_0 hi6_1 hi6_2 hi6_3 hi6_4 hi6_5 hn6
      refine w_adv (n := 2) (F' := (9, [(0, .ref 38), (1, .int (Int32.ofInt (y6_1))), (2, .int (Int32.ofInt (y6_2))), (3, .int (Int32.ofInt (y6_3)))], [.int (Int32.ofInt (33)), .int (Int32.ofInt (y6_3))], M_6)) rfl ?_
      refine w_br2 (a := y6_3) (b := 33) rfl rfl ⟨by omega, by omega⟩ ⟨by omega, by omega⟩ (fun h1 => ?_) (fun h1 => ?_)
      · have h1 : y6_3 > 33 := h1
        show w_W _ _ _ (81, [(0, .ref 38), (1, .int (Int32.ofInt (y6_1))), (2, .int (Int32.ofInt (y6_2))), (3, .int (Int32.ofInt (y6_3)))], [], M_6) _
        refine w_adv (n := 1) (F' := (82, [(0, .ref 38), (1, .int (Int32.ofInt (y6_1))), (2, .int (Int32.ofInt (y6_2))), (3, .int (Int32.ofInt (y6_3)))], [.int (Int32.ofInt (y6_1))], M_6)) rfl ?_
        refine w_fin (r := .inl (some (y6_1))) (M' := M_6) rfl ?_
        exact Or.inl ⟨y6_1, I_6, A_6, B_6, C_6, rfl, ⟨by omega, by omega⟩, hR_6, (show c_fi c_ps I I_6 by exact hi6_0), (show c_fa c_pa A A_6 by exact hi6_1), (show (0 ≤ (I_6 2436) ∧ (I_6 2436) ≤ (I_6 773) ∧ ((I_6 2437) = 0 ∨ (I_6 2436) < (I_6 773))) ∧ ((I_6 773) = (I 773) ∧ (I_6 2439) = (I 2439) ∧ 0 ≤ (I_6 2117)) ∧ (I 2436) + 0 ≤ (I_6 2436) ∧ (I_6 1670) + 0 ≤ (I 1670) + 2 * ((I_6 2436) - (I 2436)) ∧ (I 1670) ≤ (I_6 1670) by (repeat' apply And.intro) <;> first | assumption | omega), (show c_agl A A_6 (I 1670) by exact hi6_3), (show c_Ch (A_6 31) (c_P1 A_6 (c_r (I 2439) 4)) y6_1 (I 1670) (I_6 1670) by exact c_Ch_wide (fun _ _ => c_P1_win) (c_Chq_end hi6_4) (show (I 1670) ≤ (I 1670) by omega) (show (I_6 1670) ≤ (I_6 1670) by omega))⟩
      · have h1 : ¬ (y6_3 > 33) := h1
        show w_W _ _ _ (12, [(0, .ref 38), (1, .int (Int32.ofInt (y6_1))), (2, .int (Int32.ofInt (y6_2))), (3, .int (Int32.ofInt (y6_3)))], [], M_6) _
        refine w_adv (n := 1) (F' := (13, [(0, .ref 38), (1, .int (Int32.ofInt (y6_1))), (2, .int (Int32.ofInt (y6_2))), (3, .int (Int32.ofInt (y6_3)))], [.ref 38], M_6)) rfl ?_
        refine w_gf (v := .int (Int32.ofInt ((I_6 2437)))) hR_6 rfl rfl rfl rfl ?_
        obtain ⟨r2, r3⟩ : -2147483648 ≤ (I_6 2437) ∧ (I_6 2437) ≤ 2147483647 := hR_6.ri 2437
        refine w_adv (n := 1) (F' := (18, [(0, .ref 38), (1, .int (Int32.ofInt (y6_1))), (2, .int (Int32.ofInt (y6_2))), (3, .int (Int32.ofInt (y6_3)))], [.int (Int32.ofInt (6)), .int (Int32.ofInt ((I_6 2437)))], M_6)) rfl ?_
        refine w_br2 (a := (I_6 2437)) (b := 6) rfl rfl ⟨by omega, by omega⟩ ⟨by omega, by omega⟩ (fun h4 => ?_) (fun h4 => ?_)
        · have h4 : (I_6 2437) = 6 := h4
          show w_W _ _ _ (81, [(0, .ref 38), (1, .int (Int32.ofInt (y6_1))), (2, .int (Int32.ofInt (y6_2))), (3, .int (Int32.ofInt (y6_3)))], [], M_6) _
          refine w_adv (n := 1) (F' := (82, [(0, .ref 38), (1, .int (Int32.ofInt (y6_1))), (2, .int (Int32.ofInt (y6_2))), (3, .int (Int32.ofInt (y6_3)))], [.int (Int32.ofInt (y6_1))], M_6)) rfl ?_
          refine w_fin (r := .inl (some (y6_1))) (M' := M_6) rfl ?_
          exact Or.inl ⟨y6_1, I_6, A_6, B_6, C_6, rfl, ⟨by omega, by omega⟩, hR_6, (show c_fi c_ps I I_6 by exact hi6_0), (show c_fa c_pa A A_6 by exact hi6_1), (show (0 ≤ (I_6 2436) ∧ (I_6 2436) ≤ (I_6 773) ∧ ((I_6 2437) = 0 ∨ (I_6 2436) < (I_6 773))) ∧ ((I_6 773) = (I 773) ∧ (I_6 2439) = (I 2439) ∧ 0 ≤ (I_6 2117)) ∧ (I 2436) + 0 ≤ (I_6 2436) ∧ (I_6 1670) + 0 ≤ (I 1670) + 2 * ((I_6 2436) - (I 2436)) ∧ (I 1670) ≤ (I_6 1670) by (repeat' apply And.intro) <;> first | assumption | omega), (show c_agl A A_6 (I 1670) by exact hi6_3), (show c_Ch (A_6 31) (c_P1 A_6 (c_r (I 2439) 4)) y6_1 (I 1670) (I_6 1670) by exact c_Ch_wide (fun _ _ => c_P1_win) (c_Chq_end hi6_4) (show (I 1670) ≤ (I 1670) by omega) (show (I_6 1670) ≤ (I_6 1670) by omega))⟩
        · have h4 : ¬ ((I_6 2437) = 6) := h4
          show w_W _ _ _ (21, [(0, .ref 38), (1, .int (Int32.ofInt (y6_1))), (2, .int (Int32.ofInt (y6_2))), (3, .int (Int32.ofInt (y6_3)))], [], M_6) _
          refine w_adv (n := 3) (F' := (24, [(0, .ref 38), (1, .int (Int32.ofInt (y6_1))), (2, .int (Int32.ofInt (y6_2))), (3, .int (Int32.ofInt (y6_3)))], [.int (Int32.ofInt (y6_3)), .int (Int32.ofInt (y6_1)), .ref 38], M_6)) rfl ?_
          refine w_call (cm := 103) (as := [(0, .ref 38), (1, .int (Int32.ofInt (y6_1))), (2, .int (Int32.ofInt (y6_3)))]) (rest := []) (o := some (4, 38)) rfl (w_fitR hR_6 rfl) (c_feature (y6_1) (y6_3) hR_6 (show 3 ≤ d by omega) ⟨by omega, by omega⟩ ⟨by omega, by omega⟩ (show l ≤ 7000000 by first | assumption | omega)) (fun r5 M6 q7 => ?_)
          rcases q7 with ⟨v8, e9, ⟨r10, r11⟩, e12, f13⟩ | ⟨t14, I7b, A7b, B7b, C7b, e15, hR7b, f16, f17, f18⟩
          · rw [e9, e12]
            replace f13 : ¬ (I_6 2437) = 0 := f13
            show w_W _ _ _ (27, [(0, .ref 38), (1, .int (Int32.ofInt (y6_1))), (2, .int (Int32.ofInt (y6_2))), (3, .int (Int32.ofInt (y6_3)))], [.int (Int32.ofInt (v8))], M_6) _
            refine w_adv (n := 2) (F' := (30, [(4, .int (Int32.ofInt (v8))), (0, .ref 38), (1, .int (Int32.ofInt (y6_1))), (2, .int (Int32.ofInt (y6_2))), (3, .int (Int32.ofInt (y6_3)))], [.ref 38], M_6)) rfl ?_
            refine w_call (cm := 80) (as := [(0, .ref 38)]) (rest := []) (o := some (4, 38)) rfl (w_fitR hR_6 rfl) (c_advance hR_6 (show 3 ≤ d by omega) (show l ≤ 7000000 by first | assumption | omega) (show -1 ≤ (I_6 2436) ∧ (I_6 2436) < (I_6 773) ∧ (I_6 773) ≤ 1501 by first | assumption | omega)) (fun r19 M20 q21 => ?_)
            rcases q21 with ⟨zt22, zk23, zv24, e25, hR21a, f26⟩ | ⟨t27, I21b, A21b, B21b, C21b, e28, hR21b, f29, f30, f31⟩
            · rw [e25]
              replace hR21a : w_Rep w_TC fr X u l (w_up (w_up (w_up (w_up I_6 2436 ((I_6 2436) + 1)) 2441 (zt22)) 2437 (zk23)) 2438 (zv24)) A_6 B_6 C_6 M20 := hR21a
              replace f26 : ((I_6 2436) + 1 < (I_6 773) ∨ zk23 = 0) := f26
              show w_W _ _ _ (33, [(4, .int (Int32.ofInt (v8))), (0, .ref 38), (1, .int (Int32.ofInt (y6_1))), (2, .int (Int32.ofInt (y6_2))), (3, .int (Int32.ofInt (y6_3)))], [], M20) _
              refine w_adv (n := 2) (F' := (36, [(4, .int (Int32.ofInt (v8))), (0, .ref 38), (1, .int (Int32.ofInt (y6_1))), (2, .int (Int32.ofInt (y6_2))), (3, .int (Int32.ofInt (y6_3)))], [.int (Int32.ofInt (11)), .ref 38], M20)) rfl ?_
              refine w_call (cm := 105) (as := [(0, .ref 38), (1, .int (Int32.ofInt (11)))]) (rest := []) (o := some (4, 38)) rfl (w_fitR hR21a rfl) (c_need (11) hR21a (show 4 ≤ d by omega) ⟨by omega, by omega⟩ (show l ≤ 7000000 by first | assumption | omega) (show -1 ≤ (I_6 2436) + 1 ∧ (zk23 = 0 ∨ (I_6 2436) + 1 < (I_6 773)) ∧ (I_6 773) ≤ 1501 ∧ 1 ≤ 11 by first | assumption | omega)) (fun r32 M33 q34 => ?_)
              rcases q34 with ⟨zt35, zk36, zv37, e38, hR34a, f39, f40⟩ | ⟨t41, I34b, A34b, B34b, C34b, e42, hR34b, f43, f44, f45⟩
              · rw [e38]
                replace hR34a : w_Rep w_TC fr X u l (w_up (w_up (w_up (w_up I_6 2436 ((I_6 2436) + 1 + 1)) 2441 (zt35)) 2437 (zk36)) 2438 (zv37)) A_6 B_6 C_6 M33 := w_Rep.up hR34a (show (w_up (w_up (w_up (w_up I_6 2436 ((I_6 2436) + 1 + 1)) 2441 (zt35)) 2437 (zk36)) 2438 (zv37)) = _ from (funext fun s => if e0 : s = 2436 then (by subst e0; rfl) else if e1 : s = 2437 then (by subst e1; rfl) else if e2 : s = 2438 then (by subst e2; rfl) else if e3 : s = 2441 then (by subst e3; rfl) else (by simp only [w_up_ne e0, w_up_ne e1, w_up_ne e2, w_up_ne e3]))) rfl
                replace f39 : ((I_6 2436) + 1 + 1 < (I_6 773) ∨ zk36 = 0) := f39
                replace f40 : zk23 = 11 := f40
                show w_W _ _ _ (39, [(4, .int (Int32.ofInt (v8))), (0, .ref 38), (1, .int (Int32.ofInt (y6_1))), (2, .int (Int32.ofInt (y6_2))), (3, .int (Int32.ofInt (y6_3)))], [], M33) _
                refine w_adv (n := 1) (F' := (40, [(4, .int (Int32.ofInt (v8))), (0, .ref 38), (1, .int (Int32.ofInt (y6_1))), (2, .int (Int32.ofInt (y6_2))), (3, .int (Int32.ofInt (y6_3)))], [.ref 38], M33)) rfl ?_
                refine w_gf (v := .ref 26) hR34a rfl rfl rfl rfl ?_
                refine w_adv (n := 2) (F' := (45, [(4, .int (Int32.ofInt (v8))), (0, .ref 38), (1, .int (Int32.ofInt (y6_1))), (2, .int (Int32.ofInt (y6_2))), (3, .int (Int32.ofInt (y6_3)))], [.ref 38, .int (Int32.ofInt (y6_2)), .ref 26], M33)) rfl ?_
                refine w_gf (v := .ref 26) hR34a rfl rfl rfl rfl ?_
                refine w_adv (n := 3) (F' := (53, [(4, .int (Int32.ofInt (v8))), (0, .ref 38), (1, .int (Int32.ofInt (y6_1))), (2, .int (Int32.ofInt (y6_2))), (3, .int (Int32.ofInt (y6_3)))], [.ref 38, .int (Int32.ofInt (v8)), .int (Int32.ofInt (6)), .ref 26, .int (Int32.ofInt (y6_2)), .ref 26], M33)) rfl ?_
                refine w_call (cm := 89) (as := [(0, .ref 38)]) (rest := [.int (Int32.ofInt (v8)), .int (Int32.ofInt (6)), .ref 26, .int (Int32.ofInt (y6_2)), .ref 26]) (o := some (4, 38)) rfl (w_fitR hR34a rfl) ((hA d (Nat.lt_succ_self d)).1 hR34a (show 10 * (24 - (I_6 2439)) + 13 ≤ (d : Int) by omega) (show l ≤ 7000000 by first | assumption | omega) (show (0 ≤ (I_6 2436) + 1 + 1 ∧ (I_6 2436) + 1 + 1 ≤ (I_6 773) ∧ (I_6 773) ≤ 1501 ∧ (zk36 = 0 ∨ (I_6 2436) + 1 + 1 < (I_6 773))) ∧ (0 ≤ (I_6 2439) ∧ (I_6 2439) ≤ 24 ∧ 0 ≤ (I_6 2117)) ∧ 0 ≤ (I_6 1670) ∧ (I_6 1670) ≤ 2 * ((I_6 2436) + 1 + 1) + 1 by (repeat' apply And.intro) <;> first | assumption | omega)) (fun r46 M47 q48 => ?_)
                rcases q48 with ⟨v49, I48a, A48a, B48a, C48a, e50, ⟨r51, r52⟩, hR48a, f53, f54, f55, f56, f57⟩ | ⟨t58, I48b, A48b, B48b, C48b, e59, hR48b, f60, f61, f62⟩
                · rw [e50]
                  replace hR48a : w_Rep w_TC fr X u l I48a A48a B48a C48a M47 := hR48a
                  replace f53 : c_fi c_ps (w_up (w_up (w_up (w_up I_6 2436 ((I_6 2436) + 1 + 1)) 2441 (zt35)) 2437 (zk36)) 2438 (zv37)) I48a := f53
                  replace f54 : c_fa c_pa A_6 A48a := f54
                  replace f55 : (0 ≤ (I48a 2436) ∧ (I48a 2436) ≤ (I48a 773) ∧ ((I48a 2437) = 0 ∨ (I48a 2436) < (I48a 773))) ∧ ((I48a 773) = (I_6 773) ∧ (I48a 2439) = (I_6 2439) ∧ 0 ≤ (I48a 2117)) ∧ ((I_6 2436) + 1 + 1) + 1 ≤ (I48a 2436) ∧ (I48a 1670) + 1 ≤ (I_6 1670) + 2 * ((I48a 2436) - ((I_6 2436) + 1 + 1)) ∧ (I_6 1670) ≤ (I48a 1670) := f55
                  obtain ⟨⟨n63, n64, n65⟩, ⟨n66, n67, n68⟩, n69, n70, n71⟩ := id f55
                  clear f55
                  replace f56 : c_agl A_6 A48a (I_6 1670) := f56
                  replace f57 : c_Wn A48a (c_r (I_6 2439) 3) v49 (I_6 1670) (I48a 1670) := f57
                  have k72 : c_Chq c_P1 A48a (c_r (I 2439) 4) y6_1 y6_2 (I 1670) (I_6 1670) := c_Chq_agl c_P1_fam hi6_4 f56 (show 0 ≤ (I 1670) by omega) (show (I_6 1670) ≤ (I_6 1670) by omega)
                  clear hi6_4
                  have g73 : c_agl A A48a (I 1670) := c_agl_trans hi6_3 f56 (show (I 1670) ≤ (I_6 1670) by omega)
                  have k74 : c_Wn A48a (c_r (I 2439) 4) v49 (I_6 1670) (I48a 1670) := c_Wn_up f57 (show c_r (I_6 2439) 3 ≤ c_r (I 2439) 4 by unfold c_r; omega)
                  obtain ⟨b75, b76⟩ := c_W_in k74.1
                  show w_W _ _ _ (56, [(4, .int (Int32.ofInt (v8))), (0, .ref 38), (1, .int (Int32.ofInt (y6_1))), (2, .int (Int32.ofInt (y6_2))), (3, .int (Int32.ofInt (y6_3)))], [.int (Int32.ofInt (v49)), .int (Int32.ofInt (v8)), .int (Int32.ofInt (6)), .ref 26, .int (Int32.ofInt (y6_2)), .ref 26], M47) _
                  refine w_adv (n := 1) (F' := (57, [(4, .int (Int32.ofInt (v8))), (0, .ref 38), (1, .int (Int32.ofInt (y6_1))), (2, .int (Int32.ofInt (y6_2))), (3, .int (Int32.ofInt (y6_3)))], [.int (Int32.ofInt ((-1))), .int (Int32.ofInt (v49)), .int (Int32.ofInt (v8)), .int (Int32.ofInt (6)), .ref 26, .int (Int32.ofInt (y6_2)), .ref 26], M47)) rfl ?_
                  refine w_call (cm := 94) (as := [(0, .ref 26), (1, .int (Int32.ofInt (6))), (2, .int (Int32.ofInt (v8))), (3, .int (Int32.ofInt (v49))), (4, .int (Int32.ofInt ((-1))))]) (rest := [.int (Int32.ofInt (y6_2)), .ref 26]) (o := some (8, 26)) rfl (w_fitR hR48a rfl) (c_mkn (6) (v8) (v49) ((-1)) hR48a (show 2 ≤ d by omega) ⟨by omega, by omega⟩ ⟨by omega, by omega⟩ ⟨by omega, by omega⟩ ⟨by omega, by omega⟩ (show 0 ≤ (I48a 1670) ∧ (I48a 1670) < 3016 by first | assumption | omega)) (fun r77 M78 q79 => ?_)
                  rcases q79 with ⟨A80, e81, hR79a, f82, f83⟩
                  rw [e81]
                  replace hR79a : w_Rep w_TC fr X u l (w_up I48a 1670 ((I48a 1670) + 1)) A80 B48a C48a M78 := hR79a
                  replace f82 : c_fa c_pa A48a A80 := f82
                  replace f83 : c_mk A48a A80 (I48a 1670) 6 v8 v49 (-1) := f83
                  have k84 := c_P1_mk (i := (c_r (I 2439) 4)) f83 (show 0 ≤ (I_6 1670) by omega) (c_Wn_win k74 (show (I_6 1670) ≤ (I_6 1670) by omega) (show (I48a 1670) ≤ (I48a 1670) by omega)).1
                  have k85 : c_Chq c_P1 A80 (c_r (I 2439) 4) y6_1 y6_2 (I 1670) (I_6 1670) := c_Chq_agl c_P1_fam k72 f83.1 (show 0 ≤ (I 1670) by omega) (show (I_6 1670) ≤ (I48a 1670) by omega)
                  clear k72
                  have g86 : c_agl A A80 (I 1670) := c_agl_trans g73 f83.1 (show (I 1670) ≤ (I48a 1670) by omega)
                  show w_W _ _ _ (60, [(4, .int (Int32.ofInt (v8))), (0, .ref 38), (1, .int (Int32.ofInt (y6_1))), (2, .int (Int32.ofInt (y6_2))), (3, .int (Int32.ofInt (y6_3)))], [.int (Int32.ofInt ((I48a 1670))), .int (Int32.ofInt (y6_2)), .ref 26], M78) _
                  refine w_call (cm := 106) (as := [(0, .ref 26), (1, .int (Int32.ofInt (y6_2))), (2, .int (Int32.ofInt ((I48a 1670))))]) (rest := []) (o := some (8, 26)) rfl (w_fitR hR79a rfl) (c_chn (y6_2) ((I48a 1670)) hR79a (show 2 ≤ d by omega) ⟨by omega, by omega⟩ ⟨by omega, by omega⟩) (fun r87 M88 q89 => ?_)
                  rcases q89 with ⟨A90, e91, hR89a, f92, f93⟩
                  rw [e91]
                  replace hR89a : w_Rep w_TC fr X u l (w_up I48a 1670 ((I48a 1670) + 1)) A90 B48a C48a M88 := hR89a
                  replace f92 : c_fa c_pa A80 A90 := f92
                  replace f93 : c_nxw A80 A90 y6_2 (I48a 1670) := f93
                  have k94 : ∀ f', (y6_1 = -1 ∧ f' = (I48a 1670) ∨ y6_1 ≠ -1 ∧ f' = y6_1) → c_Chq c_P1 A90 (c_r (I 2439) 4) f' (I48a 1670) (I 1670) ((I48a 1670) + 1) := c_Chq_app c_P1_fam k85 (show (I_6 1670) ≤ (I_6 1670) by omega) f93 (show 0 ≤ (I 1670) by omega) (show (I_6 1670) ≤ 3016 by omega) (show (I_6 1670) ≤ (I48a 1670) ∧ (I48a 1670) < ((I48a 1670) + 1) by omega) k84.1 k84.2 c_P1_win
                  have g95 : c_agl A80 A90 (I 1670) := c_agl_nxw f93 (c_Chq_l k85)
                  have g96 : c_agl A A90 (I 1670) := c_agl_trans g86 g95 (show (I 1670) ≤ (I 1670) by omega)
                  show w_W _ _ _ (63, [(4, .int (Int32.ofInt (v8))), (0, .ref 38), (1, .int (Int32.ofInt (y6_1))), (2, .int (Int32.ofInt (y6_2))), (3, .int (Int32.ofInt (y6_3)))], [.int (Int32.ofInt ((I48a 1670)))], M88) _
                  refine w_adv (n := 3) (F' := (66, [(2, .int (Int32.ofInt ((I48a 1670)))), (4, .int (Int32.ofInt (v8))), (0, .ref 38), (1, .int (Int32.ofInt (y6_1))), (3, .int (Int32.ofInt (y6_3)))], [.int (Int32.ofInt ((-1))), .int (Int32.ofInt (y6_1))], M88)) rfl ?_
                  refine w_br2 (a := y6_1) (b := (-1)) rfl rfl ⟨by omega, by omega⟩ ⟨by omega, by omega⟩ (fun h97 => ?_) (fun h97 => ?_)
                  · have h97 : ¬ y6_1 = (-1) := h97
                    show w_W _ _ _ (73, [(2, .int (Int32.ofInt ((I48a 1670)))), (4, .int (Int32.ofInt (v8))), (0, .ref 38), (1, .int (Int32.ofInt (y6_1))), (3, .int (Int32.ofInt (y6_3)))], [], M88) _
                    refine w_adv (n := 2) (F' := (75, [(1, .int (Int32.ofInt (y6_1))), (2, .int (Int32.ofInt ((I48a 1670)))), (4, .int (Int32.ofInt (v8))), (0, .ref 38), (3, .int (Int32.ofInt (y6_3)))], [], M88)) rfl ?_
                    refine w_inc (nL := 5) (a := y6_3) rfl rfl rfl (by decide) ?_
                    refine w_adv (n := 1) (F' := (6, [(3, .int (Int32.ofInt (y6_3 + 1))), (1, .int (Int32.ofInt (y6_1))), (2, .int (Int32.ofInt ((I48a 1670)))), (4, .int (Int32.ofInt (v8))), (0, .ref 38)], [], M88)) rfl ?_
                    refine w_ls (ls := [(0, .ref 38), (1, .int (Int32.ofInt (y6_1))), (2, .int (Int32.ofInt ((I48a 1670)))), (3, .int (Int32.ofInt (y6_3 + 1)))]) (show List.Nodup [0, 1, 2, 3] by decide) (show List.Nodup [3, 1, 2, 4, 0] by decide) (List.forall_mem_cons.mpr ⟨(List.Mem.tail _ (List.Mem.tail _ (List.Mem.tail _ (List.Mem.tail _ (List.Mem.head _))))), (List.forall_mem_cons.mpr ⟨(List.Mem.tail _ (List.Mem.head _)), (List.forall_mem_cons.mpr ⟨(List.Mem.tail _ (List.Mem.tail _ (List.Mem.head _))), (List.forall_mem_cons.mpr ⟨(List.Mem.head _), (fun _ h => by cases h)⟩)⟩)⟩)⟩) ?_
                    exact ih6  (y6_1) ((I48a 1670)) (y6_3 + 1) (w_up I48a 1670 ((I48a 1670) + 1)) A90 B48a C48a M88 hR89a ⟨by omega, by omega⟩ ⟨by omega, by omega⟩ ⟨by omega, by omega⟩ (show c_fi c_ps I (w_up I48a 1670 ((I48a 1670) + 1)) by exact (c_fi_up (c_fi_trans (c_fi_up (c_fi_up (c_fi_up (c_fi_up hi6_0 rfl) rfl) rfl) rfl) f53) rfl)) (show c_fa c_pa A A90 by exact (c_fa_trans (c_fa_trans (c_fa_trans hi6_1 f54) f82) f92)) (show (0 ≤ (I48a 2436) ∧ (I48a 2436) ≤ (I48a 773) ∧ ((I48a 2437) = 0 ∨ (I48a 2436) < (I48a 773))) ∧ ((I48a 773) = (I 773) ∧ (I48a 2439) = (I 2439) ∧ 0 ≤ (I48a 2117)) ∧ (I 2436) + 0 ≤ (I48a 2436) ∧ ((I48a 1670) + 1) + 0 ≤ (I 1670) + 2 * ((I48a 2436) - (I 2436)) ∧ (I 1670) ≤ (I48a 1670) + 1 by (repeat' apply And.intro) <;> first | assumption | omega) (show c_agl A A90 (I 1670) by exact g96) (show c_Chq c_P1 A90 (c_r (I 2439) 4) y6_1 (I48a 1670) (I 1670) ((I48a 1670) + 1) by exact k94 _ (by omega)) (show 1 ≤ (y6_3 + 1) ∧ (y6_3 + 1) ≤ 34 by omega) (show 34 - (y6_3 + 1) < (fu6 : Int) by omega)
                  · have h97 : ¬ (¬ y6_1 = (-1)) := h97
                    show w_W _ _ _ (69, [(2, .int (Int32.ofInt ((I48a 1670)))), (4, .int (Int32.ofInt (v8))), (0, .ref 38), (1, .int (Int32.ofInt (y6_1))), (3, .int (Int32.ofInt (y6_3)))], [], M88) _
                    refine w_adv (n := 3) (F' := (75, [(1, .int (Int32.ofInt ((I48a 1670)))), (2, .int (Int32.ofInt ((I48a 1670)))), (4, .int (Int32.ofInt (v8))), (0, .ref 38), (3, .int (Int32.ofInt (y6_3)))], [], M88)) rfl ?_
                    refine w_inc (nL := 5) (a := y6_3) rfl rfl rfl (by decide) ?_
                    refine w_adv (n := 1) (F' := (6, [(3, .int (Int32.ofInt (y6_3 + 1))), (1, .int (Int32.ofInt ((I48a 1670)))), (2, .int (Int32.ofInt ((I48a 1670)))), (4, .int (Int32.ofInt (v8))), (0, .ref 38)], [], M88)) rfl ?_
                    refine w_ls (ls := [(0, .ref 38), (1, .int (Int32.ofInt ((I48a 1670)))), (2, .int (Int32.ofInt ((I48a 1670)))), (3, .int (Int32.ofInt (y6_3 + 1)))]) (show List.Nodup [0, 1, 2, 3] by decide) (show List.Nodup [3, 1, 2, 4, 0] by decide) (List.forall_mem_cons.mpr ⟨(List.Mem.tail _ (List.Mem.tail _ (List.Mem.tail _ (List.Mem.tail _ (List.Mem.head _))))), (List.forall_mem_cons.mpr ⟨(List.Mem.tail _ (List.Mem.head _)), (List.forall_mem_cons.mpr ⟨(List.Mem.tail _ (List.Mem.tail _ (List.Mem.head _))), (List.forall_mem_cons.mpr ⟨(List.Mem.head _), (fun _ h => by cases h)⟩)⟩)⟩)⟩) ?_
                    exact ih6  ((I48a 1670)) ((I48a 1670)) (y6_3 + 1) (w_up I48a 1670 ((I48a 1670) + 1)) A90 B48a C48a M88 hR89a ⟨by omega, by omega⟩ ⟨by omega, by omega⟩ ⟨by omega, by omega⟩ (show c_fi c_ps I (w_up I48a 1670 ((I48a 1670) + 1)) by exact (c_fi_up (c_fi_trans (c_fi_up (c_fi_up (c_fi_up (c_fi_up hi6_0 rfl) rfl) rfl) rfl) f53) rfl)) (show c_fa c_pa A A90 by exact (c_fa_trans (c_fa_trans (c_fa_trans hi6_1 f54) f82) f92)) (show (0 ≤ (I48a 2436) ∧ (I48a 2436) ≤ (I48a 773) ∧ ((I48a 2437) = 0 ∨ (I48a 2436) < (I48a 773))) ∧ ((I48a 773) = (I 773) ∧ (I48a 2439) = (I 2439) ∧ 0 ≤ (I48a 2117)) ∧ (I 2436) + 0 ≤ (I48a 2436) ∧ ((I48a 1670) + 1) + 0 ≤ (I 1670) + 2 * ((I48a 2436) - (I 2436)) ∧ (I 1670) ≤ (I48a 1670) + 1 by (repeat' apply And.intro) <;> first | assumption | omega) (show c_agl A A90 (I 1670) by exact g96) (show c_Chq c_P1 A90 (c_r (I 2439) 4) (I48a 1670) (I48a 1670) (I 1670) ((I48a 1670) + 1) by exact k94 _ (by omega)) (show 1 ≤ (y6_3 + 1) ∧ (y6_3 + 1) ≤ 34 by omega) (show 34 - (y6_3 + 1) < (fu6 : Int) by omega)
                · rw [e59]
                  replace hR48b : w_Rep w_TC fr X (u + 6) (l + 64) I48b A48b B48b C48b M47 := hR48b
                  replace f60 : c_fi c_ps (w_up (w_up (w_up (w_up I_6 2436 ((I_6 2436) + 1 + 1)) 2441 (zt35)) 2437 (zk36)) 2438 (zv37)) I48b := f60
                  replace f61 : c_fa c_pa A_6 A48b := f61
                  replace f62 : M47.1[t58]? = some (.inr (11, [])) := f62
                  exact Or.inr (⟨t58, I48b, A48b, B48b, C48b, rfl, hR48b, (show c_fi c_ps I I48b by exact (c_fi_trans (c_fi_up (c_fi_up (c_fi_up (c_fi_up hi6_0 rfl) rfl) rfl) rfl) f60)), (show c_fa c_pa A A48b by exact (c_fa_trans hi6_1 f61)), (show M47.1[t58]? = some (.inr (11, [])) by exact f62)⟩)
              · rw [e42]
                replace hR34b : w_Rep w_TC fr X (u + 6) (l + 64) I34b A34b B34b C34b M33 := hR34b
                replace f43 : c_fi c_ps (w_up (w_up (w_up (w_up I_6 2436 ((I_6 2436) + 1)) 2441 (zt22)) 2437 (zk23)) 2438 (zv24)) I34b := f43
                replace f44 : c_fa c_pa A_6 A34b := f44
                replace f45 : M33.1[t41]? = some (.inr (11, [])) := f45
                exact Or.inr (⟨t41, I34b, A34b, B34b, C34b, rfl, hR34b, (show c_fi c_ps I I34b by exact (c_fi_trans (c_fi_up (c_fi_up (c_fi_up (c_fi_up hi6_0 rfl) rfl) rfl) rfl) f43)), (show c_fa c_pa A A34b by exact (c_fa_trans hi6_1 f44)), (show M33.1[t41]? = some (.inr (11, [])) by exact f45)⟩)
            · rw [e28]
              replace hR21b : w_Rep w_TC fr X (u + 6) (l + 64) I21b A21b B21b C21b M20 := hR21b
              replace f29 : c_fi c_ps I_6 I21b := f29
              replace f30 : c_fa c_pa A_6 A21b := f30
              replace f31 : M20.1[t27]? = some (.inr (11, [])) := f31
              exact Or.inr (⟨t27, I21b, A21b, B21b, C21b, rfl, hR21b, (show c_fi c_ps I I21b by exact (c_fi_trans hi6_0 f29)), (show c_fa c_pa A A21b by exact (c_fa_trans hi6_1 f30)), (show M20.1[t27]? = some (.inr (11, [])) by exact f31)⟩)
          · rw [e15]
            replace hR7b : w_Rep w_TC fr X (u + 6) (l + 64) I7b A7b B7b C7b M6 := hR7b
            replace f16 : c_fi c_ps I_6 I7b := f16
            replace f17 : c_fa c_pa A_6 A7b := f17
            replace f18 : M6.1[t14]? = some (.inr (11, [])) := f18
            exact Or.inr (⟨t14, I7b, A7b, B7b, C7b, rfl, hR7b, (show c_fi c_ps I I7b by exact (c_fi_trans hi6_0 f16)), (show c_fa c_pa A A7b by exact (c_fa_trans hi6_1 f17)), (show M6.1[t14]? = some (.inr (11, [])) by exact f18)⟩)
  refine w_ls (ls := [(0, .ref 38), (1, .int (Int32.ofInt ((-1)))), (2, .int (Int32.ofInt ((-1)))), (3, .int (Int32.ofInt (1)))]) (show List.Nodup [0, 1, 2, 3] by decide) (show List.Nodup [3, 2, 1, 0] by decide) (List.forall_mem_cons.mpr ⟨(List.Mem.tail _ (List.Mem.tail _ (List.Mem.tail _ (List.Mem.head _)))), (List.forall_mem_cons.mpr ⟨(List.Mem.tail _ (List.Mem.tail _ (List.Mem.head _))), (List.forall_mem_cons.mpr ⟨(List.Mem.tail _ (List.Mem.head _)), (List.forall_mem_cons.mpr ⟨(List.Mem.head _), (fun _ h => by cases h)⟩)⟩)⟩)⟩) ?_
  exact lp6 ((34 - 1 : Int).toNat + 1)  ((-1)) ((-1)) (1) I A B C M hR ⟨by omega, by omega⟩ ⟨by omega, by omega⟩ ⟨by omega, by omega⟩ (show c_fi c_ps I I by exact c_fi_refl) (show c_fa c_pa A A by exact c_fa_refl) (show (0 ≤ (I 2436) ∧ (I 2436) ≤ (I 773) ∧ ((I 2437) = 0 ∨ (I 2436) < (I 773))) ∧ ((I 773) = (I 773) ∧ (I 2439) = (I 2439) ∧ 0 ≤ (I 2117)) ∧ (I 2436) + 0 ≤ (I 2436) ∧ (I 1670) + 0 ≤ (I 1670) + 2 * ((I 2436) - (I 2436)) ∧ (I 1670) ≤ (I 1670) by (repeat' apply And.intro) <;> first | assumption | omega) (show c_agl A A (I 1670) by exact c_agl_refl) (show c_Chq c_P1 A (c_r (I 2439) 4) (((-1) : Int)) (((-1) : Int)) (I 1670) (I 1670) by exact c_Chq_nil (show (I 1670) ≤ (I 1670) by omega)) (show 1 ≤ (1 : Int) ∧ (1 : Int) ≤ 34 by omega) (show 34 - 1 < (((34 - 1 : Int).toNat + 1 : Nat) : Int) by omega)
