def c_list_Q (fr : Nat → Bool) (X : Nat → Option (q_C (Nat → Int32))) (u l : Nat) (I : Nat → Int) (A : Nat → Int → Int) (B C : Nat → Nat) (M : w_M) : w_X → w_M → Prop := fun r M' => (∃ v : Int, ∃ (I' : Nat → Int) (A' : Nat → Int → Int) (B' C' : Nat → Nat), (r = .inl (some v)) ∧ (w_in v) ∧ (w_Rep w_TC fr X u l I' A' B' C' M') ∧ (c_fi c_ps I I') ∧ (c_fa c_pa A A') ∧ ((0 ≤ (I' 2436) ∧ (I' 2436) ≤ (I' 773) ∧ ((I' 2437) = 0 ∨ (I' 2436) < (I' 773))) ∧ ((I' 773) = (I 773) ∧ (I' 2439) = (I 2439) ∧ 0 ≤ (I' 2117)) ∧ (I 2436) + 1 ≤ (I' 2436) ∧ (I' 1670) + 1 ≤ (I 1670) + 2 * ((I' 2436) - (I 2436)) ∧ (I 1670) ≤ (I' 1670)) ∧ (c_agl A A' (I 1670)) ∧ (c_Wn A' (c_r (I 2439) 1) v (I 1670) (I' 1670))) ∨ (∃ t : Nat, ∃ (I' : Nat → Int) (A' : Nat → Int → Int) (B' C' : Nat → Nat), (r = .inr t) ∧ (w_Rep w_TC fr X (u + 6) (l + 64) I' A' B' C' M') ∧ (c_fi c_ps I I') ∧ (c_fa c_pa A A') ∧ (M'.1[t]? = some (.inr (11, []))))
set_option maxHeartbeats 100000000 in
set_option maxRecDepth 100000 in
theorem c_list {L : Nat} {xs : Nat → Int32} {d : Nat} {fr : Nat → Bool} {X : Nat → Option (q_C (Nat → Int32))} {u l : Nat} {I : Nat → Int} {A : Nat → Int → Int} {B C : Nat → Nat} {M : w_M} (hA : c_ALL L xs d) (hR : w_Rep w_TC fr X u l I A B C M) (hd : 10 * (24 - (I 2439)) + 9 ≤ (d : Int)) (hl : l ≤ 7000000) (hNU : (0 ≤ (I 2436) ∧ (I 2436) ≤ (I 773) ∧ (I 773) ≤ 1501 ∧ ((I 2437) = 0 ∨ (I 2436) < (I 773))) ∧ (0 ≤ (I 2439) ∧ (I 2439) ≤ 24 ∧ 0 ≤ (I 2117)) ∧ 0 ≤ (I 1670) ∧ (I 1670) ≤ 2 * (I 2436) + 1) (hk0 : ¬ (I 2437) = 0) : w_W (z_P L xs) d 114 (0, [(0, .ref 38)], [], M) (c_list_Q fr X u l I A B C M) := by
  obtain ⟨d, rfl⟩ : ∃ d0, d = d0 + 1 := ⟨d - 1, by omega⟩
  refine w_adv (n := 1) (F' := (1, [(0, .ref 38)], [.ref 38], M)) rfl ?_
  refine w_call (cm := 99) (as := [(0, .ref 38)]) (rest := []) (o := some (4, 38)) rfl (w_fitR hR rfl) (c_open hR (show 4 ≤ d by omega) (show l ≤ 7000000 by first | assumption | omega) (show -1 ≤ (I 2436) ∧ (I 2436) < (I 773) ∧ (I 773) ≤ 1501 by first | assumption | omega) (show 0 ≤ (I 2439) ∧ (I 2439) ≤ 24 by first | assumption | omega)) (fun r1 M2 q3 => ?_)
  rcases q3 with ⟨zt4, zk5, zv6, e7, hR3a, f8, f9⟩ | ⟨t10, I3b, A3b, B3b, C3b, e11, hR3b, f12, f13, f14⟩
  · rw [e7]
    replace hR3a : w_Rep w_TC fr X u l (w_up (w_up (w_up (w_up (w_up I 2436 ((I 2436) + 1)) 2441 (zt4)) 2437 (zk5)) 2438 (zv6)) 2439 ((I 2439) + 1)) A B C M2 := hR3a
    replace f8 : ((I 2436) + 1 < (I 773) ∨ zk5 = 0) := f8
    replace f9 : (I 2439) < 24 := f9
    show w_W _ _ _ (4, [(0, .ref 38)], [], M2) _
    refine w_adv (n := 6) (F' := (10, [(3, .int (Int32.ofInt (0))), (2, .int (Int32.ofInt ((-1)))), (1, .int (Int32.ofInt ((-1)))), (0, .ref 38)], [], M2)) rfl ?_
    have lp10 : ∀ fu10 : Nat, ∀ (y10_1 : Int) (y10_2 : Int) (y10_3 : Int) (I_10 : Nat → Int) (A_10 : Nat → Int → Int) (B_10 C_10 : Nat → Nat) (M_10 : w_M) (hR_10 : w_Rep w_TC fr X u l I_10 A_10 B_10 C_10 M_10), w_in y10_1 → w_in y10_2 → w_in y10_3 → c_fi c_ps I I_10 → c_fa c_pa A A_10 → (0 ≤ (I_10 2436) ∧ (I_10 2436) ≤ (I_10 773) ∧ ((I_10 2437) = 0 ∨ (I_10 2436) < (I_10 773))) ∧ ((I_10 773) = (I 773) ∧ (I_10 2439) = (I 2439) + 1 ∧ 0 ≤ (I_10 2117)) ∧ (I 2436) + 1 ≤ (I_10 2436) ∧ (I_10 1670) + 2 ≤ (I 1670) + 2 * ((I_10 2436) - (I 2436)) ∧ (I 1670) ≤ (I_10 1670) → c_agl A A_10 (I 1670) → c_Pxq A_10 (c_r (I 2439) 0) y10_1 y10_2 (I 1670) (I_10 1670) → 0 ≤ y10_3 ∧ y10_3 ≤ 1500 → 1500 - y10_3 < (fu10 : Int) → w_W (z_P L xs) (d + 1) 114 (10, [(0, .ref 38), (1, .int (Int32.ofInt (y10_1))), (2, .int (Int32.ofInt (y10_2))), (3, .int (Int32.ofInt (y10_3)))], [], M_10) (c_list_Q fr X u l I A B C M) := by
      intro fu10
      induction fu10 with
      | zero =>
        intro y10_1 y10_2 y10_3 I_10 A_10 B_10 C_10 M_10 hR_10 ⟨ra_y10_1, rb_y10_1⟩ ⟨ra_y10_2, rb_y10_2⟩ ⟨ra_y10_3, rb_y10_3⟩ hi10_0 hi10_1 hi10_2 hi10_3 hi10_4 hi10_5 hn10
        exfalso
        omega
      | succ fu10 ih10 =>
        intro y10_1 y10_2 y10_3 I_10 A_10 B_10 C_10 M_10 hR_10 ⟨ra_y10_1, rb_y10_1⟩ ⟨ra_y10_2, rb_y10_2⟩ ⟨ra_y10_3, rb_y10_3⟩ hi10_0 hi10_1 hi10_2 hi10_3 hi10_4 hi10_5 hn10
        refine w_adv (n := 2) (F' := (14, [(0, .ref 38), (1, .int (Int32.ofInt (y10_1))), (2, .int (Int32.ofInt (y10_2))), (3, .int (Int32.ofInt (y10_3)))], [.int (Int32.ofInt (1500)), .int (Int32.ofInt (y10_3))], M_10)) rfl ?_
        refine w_br2 (a := y10_3) (b := 1500) rfl rfl ⟨by omega, by omega⟩ ⟨by omega, by omega⟩ (fun h15 => ?_) (fun h15 => ?_)
        · have h15 : y10_3 ≥ 1500 := h15
          show w_W _ _ _ (74, [(0, .ref 38), (1, .int (Int32.ofInt (y10_1))), (2, .int (Int32.ofInt (y10_2))), (3, .int (Int32.ofInt (y10_3)))], [], M_10) _
          refine w_adv (n := 2) (F' := (77, [(0, .ref 38), (1, .int (Int32.ofInt (y10_1))), (2, .int (Int32.ofInt (y10_2))), (3, .int (Int32.ofInt (y10_3)))], [.int (Int32.ofInt (10)), .ref 38], M_10)) rfl ?_
          refine w_call (cm := 113) (as := [(0, .ref 38), (1, .int (Int32.ofInt (10)))]) (rest := []) (o := some (4, 38)) rfl (w_fitR hR_10 rfl) (c_close (10) hR_10 (show 4 ≤ d by omega) ⟨by omega, by omega⟩ (show l ≤ 7000000 by first | assumption | omega) (show -1 ≤ (I_10 2436) ∧ ((I_10 2437) = 0 ∨ (I_10 2436) < (I_10 773)) ∧ (I_10 773) ≤ 1501 ∧ 1 ≤ 10 by first | assumption | omega) (show 0 ≤ (I_10 2439) ∧ (I_10 2439) ≤ 24 by first | assumption | omega)) (fun r16 M17 q18 => ?_)
          rcases q18 with ⟨zt19, zk20, zv21, e22, hR18a, f23, f24⟩ | ⟨t25, I18b, A18b, B18b, C18b, e26, hR18b, f27, f28, f29⟩
          · rw [e22]
            replace hR18a : w_Rep w_TC fr X u l (w_up (w_up (w_up (w_up (w_up I_10 2436 ((I_10 2436) + 1)) 2441 (zt19)) 2437 (zk20)) 2438 (zv21)) 2439 ((I_10 2439) - 1)) A_10 B_10 C_10 M17 := hR18a
            replace f23 : ((I_10 2436) + 1 < (I_10 773) ∨ zk20 = 0) := f23
            replace f24 : (I_10 2437) = 10 := f24
            show w_W _ _ _ (80, [(0, .ref 38), (1, .int (Int32.ofInt (y10_1))), (2, .int (Int32.ofInt (y10_2))), (3, .int (Int32.ofInt (y10_3)))], [], M17) _
            refine w_adv (n := 1) (F' := (81, [(0, .ref 38), (1, .int (Int32.ofInt (y10_1))), (2, .int (Int32.ofInt (y10_2))), (3, .int (Int32.ofInt (y10_3)))], [.ref 38], M17)) rfl ?_
            refine w_gf (v := .ref 26) hR18a rfl rfl rfl rfl ?_
            refine w_adv (n := 4) (F' := (88, [(0, .ref 38), (1, .int (Int32.ofInt (y10_1))), (2, .int (Int32.ofInt (y10_2))), (3, .int (Int32.ofInt (y10_3)))], [.int (Int32.ofInt ((-1))), .int (Int32.ofInt ((-1))), .int (Int32.ofInt (2)), .int (Int32.ofInt (4)), .ref 26], M17)) rfl ?_
            refine w_call (cm := 94) (as := [(0, .ref 26), (1, .int (Int32.ofInt (4))), (2, .int (Int32.ofInt (2))), (3, .int (Int32.ofInt ((-1)))), (4, .int (Int32.ofInt ((-1))))]) (rest := []) (o := some (8, 26)) rfl (w_fitR hR18a rfl) (c_mkn (4) (2) ((-1)) ((-1)) hR18a (show 2 ≤ d by omega) ⟨by omega, by omega⟩ ⟨by omega, by omega⟩ ⟨by omega, by omega⟩ ⟨by omega, by omega⟩ (show 0 ≤ (I_10 1670) ∧ (I_10 1670) < 3016 by first | assumption | omega)) (fun r30 M31 q32 => ?_)
            rcases q32 with ⟨A33, e34, hR32a, f35, f36⟩
            rw [e34]
            replace hR32a : w_Rep w_TC fr X u l (w_up (w_up (w_up (w_up (w_up (w_up I_10 2436 ((I_10 2436) + 1)) 2441 (zt19)) 2437 (zk20)) 2438 (zv21)) 2439 ((I_10 2439) - 1)) 1670 ((I_10 1670) + 1)) A33 B_10 C_10 M31 := hR32a
            replace f35 : c_fa c_pa A_10 A33 := f35
            replace f36 : c_mk A_10 A33 (I_10 1670) 4 2 (-1) (-1) := f36
            have k37 : c_Wn A33 (c_r (I 2439) 0) (I_10 1670) (I_10 1670) ((I_10 1670) + 1) := c_Wn_up ⟨c_W_leaf f36 (by omega) (show (I_10 1670) ≤ (I_10 1670) by omega), f36.2.2.2.2.2⟩ (show 1 ≤ (c_r (I 2439) 0) by unfold c_r; omega)
            have k38 : c_Pxq A33 (c_r (I 2439) 0) y10_1 y10_2 (I 1670) (I_10 1670) := c_Pxq_agl hi10_4 f36.1 (show 0 ≤ (I 1670) by omega) (show (I_10 1670) ≤ (I_10 1670) by omega)
            clear hi10_4
            have g39 : c_agl A A33 (I 1670) := c_agl_trans hi10_3 f36.1 (show (I 1670) ≤ (I_10 1670) by omega)
            show w_W _ _ _ (91, [(0, .ref 38), (1, .int (Int32.ofInt (y10_1))), (2, .int (Int32.ofInt (y10_2))), (3, .int (Int32.ofInt (y10_3)))], [.int (Int32.ofInt ((I_10 1670)))], M31) _
            refine w_adv (n := 2) (F' := (93, [(3, .int (Int32.ofInt ((I_10 1670)))), (0, .ref 38), (1, .int (Int32.ofInt (y10_1))), (2, .int (Int32.ofInt (y10_2)))], [.ref 38], M31)) rfl ?_
            refine w_gf (v := .ref 26) hR32a rfl rfl rfl rfl ?_
            refine w_adv (n := 2) (F' := (98, [(3, .int (Int32.ofInt ((I_10 1670)))), (0, .ref 38), (1, .int (Int32.ofInt (y10_1))), (2, .int (Int32.ofInt (y10_2)))], [.int (Int32.ofInt ((I_10 1670))), .int (Int32.ofInt (y10_2)), .ref 26], M31)) rfl ?_
            refine w_call (cm := 115) (as := [(0, .ref 26), (1, .int (Int32.ofInt (y10_2))), (2, .int (Int32.ofInt ((I_10 1670))))]) (rest := []) (o := some (8, 26)) rfl (w_fitR hR32a rfl) (c_stb (y10_2) ((I_10 1670)) hR32a (show 2 ≤ d by omega) ⟨by omega, by omega⟩ ⟨by omega, by omega⟩) (fun r40 M41 q42 => ?_)
            rcases q42 with ⟨A43, e44, hR42a, f45, f46⟩
            rw [e44]
            replace hR42a : w_Rep w_TC fr X u l (w_up (w_up (w_up (w_up (w_up (w_up I_10 2436 ((I_10 2436) + 1)) 2441 (zt19)) 2437 (zk20)) 2438 (zv21)) 2439 ((I_10 2439) - 1)) 1670 ((I_10 1670) + 1)) A43 B_10 C_10 M41 := hR42a
            replace f45 : c_fa c_pa A33 A43 := f45
            replace f46 : c_bw A33 A43 y10_2 (I_10 1670) := f46
            have k47 : ∀ f', (y10_1 = -1 ∧ f' = (I_10 1670) ∨ y10_1 ≠ -1 ∧ f' = y10_1) → c_Wn A43 ((c_r (I 2439) 0) + 1) f' (I 1670) ((I_10 1670) + 1) := c_Pxq_fin k38 k37 f46 (show 0 ≤ (I 1670) by omega) (show (I_10 1670) < 3016 by omega)
            have g48 : c_agl A33 A43 (I 1670) := c_agl_bw f46 (c_Pxq_l2 k38)
            have g49 : c_agl A A43 (I 1670) := c_agl_trans g39 g48 (show (I 1670) ≤ (I 1670) by omega)
            show w_W _ _ _ (101, [(3, .int (Int32.ofInt ((I_10 1670)))), (0, .ref 38), (1, .int (Int32.ofInt (y10_1))), (2, .int (Int32.ofInt (y10_2)))], [], M41) _
            refine w_adv (n := 2) (F' := (103, [(3, .int (Int32.ofInt ((I_10 1670)))), (0, .ref 38), (1, .int (Int32.ofInt (y10_1))), (2, .int (Int32.ofInt (y10_2)))], [.int (Int32.ofInt ((-1))), .int (Int32.ofInt (y10_1))], M41)) rfl ?_
            refine w_br2 (a := y10_1) (b := (-1)) rfl rfl ⟨by omega, by omega⟩ ⟨by omega, by omega⟩ (fun h50 => ?_) (fun h50 => ?_)
            · have h50 : ¬ y10_1 = (-1) := h50
              show w_W _ _ _ (110, [(3, .int (Int32.ofInt ((I_10 1670)))), (0, .ref 38), (1, .int (Int32.ofInt (y10_1))), (2, .int (Int32.ofInt (y10_2)))], [], M41) _
              refine w_adv (n := 1) (F' := (111, [(3, .int (Int32.ofInt ((I_10 1670)))), (0, .ref 38), (1, .int (Int32.ofInt (y10_1))), (2, .int (Int32.ofInt (y10_2)))], [.int (Int32.ofInt (y10_1))], M41)) rfl ?_
              refine w_fin (r := .inl (some (y10_1))) (M' := M41) rfl ?_
              exact Or.inl ⟨y10_1, (w_up (w_up (w_up (w_up (w_up (w_up I_10 2436 ((I_10 2436) + 1)) 2441 (zt19)) 2437 (zk20)) 2438 (zv21)) 2439 ((I_10 2439) - 1)) 1670 ((I_10 1670) + 1)), A43, B_10, C_10, rfl, ⟨by omega, by omega⟩, hR42a, (show c_fi c_ps I (w_up (w_up (w_up (w_up (w_up (w_up I_10 2436 ((I_10 2436) + 1)) 2441 (zt19)) 2437 (zk20)) 2438 (zv21)) 2439 ((I_10 2439) - 1)) 1670 ((I_10 1670) + 1)) by exact (c_fi_up (c_fi_up (c_fi_up (c_fi_up (c_fi_up (c_fi_up hi10_0 rfl) rfl) rfl) rfl) rfl) rfl)), (show c_fa c_pa A A43 by exact (c_fa_trans (c_fa_trans hi10_1 f35) f45)), (show (0 ≤ (I_10 2436) + 1 ∧ (I_10 2436) + 1 ≤ (I_10 773) ∧ (zk20 = 0 ∨ (I_10 2436) + 1 < (I_10 773))) ∧ ((I_10 773) = (I 773) ∧ (I_10 2439) - 1 = (I 2439) ∧ 0 ≤ (I_10 2117)) ∧ (I 2436) + 1 ≤ (I_10 2436) + 1 ∧ ((I_10 1670) + 1) + 1 ≤ (I 1670) + 2 * (((I_10 2436) + 1) - (I 2436)) ∧ (I 1670) ≤ (I_10 1670) + 1 by (repeat' apply And.intro) <;> first | assumption | omega), (show c_agl A A43 (I 1670) by exact g49), (show c_Wn A43 (c_r (I 2439) 1) y10_1 (I 1670) ((I_10 1670) + 1) by exact c_Wn_up (k47 _ (by omega)) (show (c_r (I 2439) 0) + 1 ≤ (c_r (I 2439) 1) by unfold c_r; omega))⟩
            · have h50 : ¬ (¬ y10_1 = (-1)) := h50
              show w_W _ _ _ (106, [(3, .int (Int32.ofInt ((I_10 1670)))), (0, .ref 38), (1, .int (Int32.ofInt (y10_1))), (2, .int (Int32.ofInt (y10_2)))], [], M41) _
              refine w_adv (n := 2) (F' := (111, [(3, .int (Int32.ofInt ((I_10 1670)))), (0, .ref 38), (1, .int (Int32.ofInt (y10_1))), (2, .int (Int32.ofInt (y10_2)))], [.int (Int32.ofInt ((I_10 1670)))], M41)) rfl ?_
              refine w_fin (r := .inl (some ((I_10 1670)))) (M' := M41) rfl ?_
              exact Or.inl ⟨(I_10 1670), (w_up (w_up (w_up (w_up (w_up (w_up I_10 2436 ((I_10 2436) + 1)) 2441 (zt19)) 2437 (zk20)) 2438 (zv21)) 2439 ((I_10 2439) - 1)) 1670 ((I_10 1670) + 1)), A43, B_10, C_10, rfl, ⟨by omega, by omega⟩, hR42a, (show c_fi c_ps I (w_up (w_up (w_up (w_up (w_up (w_up I_10 2436 ((I_10 2436) + 1)) 2441 (zt19)) 2437 (zk20)) 2438 (zv21)) 2439 ((I_10 2439) - 1)) 1670 ((I_10 1670) + 1)) by exact (c_fi_up (c_fi_up (c_fi_up (c_fi_up (c_fi_up (c_fi_up hi10_0 rfl) rfl) rfl) rfl) rfl) rfl)), (show c_fa c_pa A A43 by exact (c_fa_trans (c_fa_trans hi10_1 f35) f45)), (show (0 ≤ (I_10 2436) + 1 ∧ (I_10 2436) + 1 ≤ (I_10 773) ∧ (zk20 = 0 ∨ (I_10 2436) + 1 < (I_10 773))) ∧ ((I_10 773) = (I 773) ∧ (I_10 2439) - 1 = (I 2439) ∧ 0 ≤ (I_10 2117)) ∧ (I 2436) + 1 ≤ (I_10 2436) + 1 ∧ ((I_10 1670) + 1) + 1 ≤ (I 1670) + 2 * (((I_10 2436) + 1) - (I 2436)) ∧ (I 1670) ≤ (I_10 1670) + 1 by (repeat' apply And.intro) <;> first | assumption | omega), (show c_agl A A43 (I 1670) by exact g49), (show c_Wn A43 (c_r (I 2439) 1) (I_10 1670) (I 1670) ((I_10 1670) + 1) by exact c_Wn_up (k47 _ (by omega)) (show (c_r (I 2439) 0) + 1 ≤ (c_r (I 2439) 1) by unfold c_r; omega))⟩
          · rw [e26]
            replace hR18b : w_Rep w_TC fr X (u + 6) (l + 64) I18b A18b B18b C18b M17 := hR18b
            replace f27 : c_fi c_ps I_10 I18b := f27
            replace f28 : c_fa c_pa A_10 A18b := f28
            replace f29 : M17.1[t25]? = some (.inr (11, [])) := f29
            exact Or.inr (⟨t25, I18b, A18b, B18b, C18b, rfl, hR18b, (show c_fi c_ps I I18b by exact (c_fi_trans hi10_0 f27)), (show c_fa c_pa A A18b by exact (c_fa_trans hi10_1 f28)), (show M17.1[t25]? = some (.inr (11, [])) by exact f29)⟩)
        · have h15 : ¬ (y10_3 ≥ 1500) := h15
          show w_W _ _ _ (17, [(0, .ref 38), (1, .int (Int32.ofInt (y10_1))), (2, .int (Int32.ofInt (y10_2))), (3, .int (Int32.ofInt (y10_3)))], [], M_10) _
          refine w_adv (n := 1) (F' := (18, [(0, .ref 38), (1, .int (Int32.ofInt (y10_1))), (2, .int (Int32.ofInt (y10_2))), (3, .int (Int32.ofInt (y10_3)))], [.ref 38], M_10)) rfl ?_
          refine w_gf (v := .int (Int32.ofInt ((I_10 2437)))) hR_10 rfl rfl rfl rfl ?_
          obtain ⟨r51, r52⟩ : -2147483648 ≤ (I_10 2437) ∧ (I_10 2437) ≤ 2147483647 := hR_10.ri 2437
          refine w_adv (n := 1) (F' := (23, [(0, .ref 38), (1, .int (Int32.ofInt (y10_1))), (2, .int (Int32.ofInt (y10_2))), (3, .int (Int32.ofInt (y10_3)))], [.int (Int32.ofInt (10)), .int (Int32.ofInt ((I_10 2437)))], M_10)) rfl ?_
          refine w_br2 (a := (I_10 2437)) (b := 10) rfl rfl ⟨by omega, by omega⟩ ⟨by omega, by omega⟩ (fun h53 => ?_) (fun h53 => ?_)
          · have h53 : (I_10 2437) = 10 := h53
            show w_W _ _ _ (74, [(0, .ref 38), (1, .int (Int32.ofInt (y10_1))), (2, .int (Int32.ofInt (y10_2))), (3, .int (Int32.ofInt (y10_3)))], [], M_10) _
            refine w_adv (n := 2) (F' := (77, [(0, .ref 38), (1, .int (Int32.ofInt (y10_1))), (2, .int (Int32.ofInt (y10_2))), (3, .int (Int32.ofInt (y10_3)))], [.int (Int32.ofInt (10)), .ref 38], M_10)) rfl ?_
            refine w_call (cm := 113) (as := [(0, .ref 38), (1, .int (Int32.ofInt (10)))]) (rest := []) (o := some (4, 38)) rfl (w_fitR hR_10 rfl) (c_close (10) hR_10 (show 4 ≤ d by omega) ⟨by omega, by omega⟩ (show l ≤ 7000000 by first | assumption | omega) (show -1 ≤ (I_10 2436) ∧ ((I_10 2437) = 0 ∨ (I_10 2436) < (I_10 773)) ∧ (I_10 773) ≤ 1501 ∧ 1 ≤ 10 by first | assumption | omega) (show 0 ≤ (I_10 2439) ∧ (I_10 2439) ≤ 24 by first | assumption | omega)) (fun r54 M55 q56 => ?_)
            rcases q56 with ⟨zt57, zk58, zv59, e60, hR56a, f61, f62⟩ | ⟨t63, I56b, A56b, B56b, C56b, e64, hR56b, f65, f66, f67⟩
            · rw [e60]
              replace hR56a : w_Rep w_TC fr X u l (w_up (w_up (w_up (w_up (w_up I_10 2436 ((I_10 2436) + 1)) 2441 (zt57)) 2437 (zk58)) 2438 (zv59)) 2439 ((I_10 2439) - 1)) A_10 B_10 C_10 M55 := hR56a
              replace f61 : ((I_10 2436) + 1 < (I_10 773) ∨ zk58 = 0) := f61
              replace f62 : (I_10 2437) = 10 := f62
              show w_W _ _ _ (80, [(0, .ref 38), (1, .int (Int32.ofInt (y10_1))), (2, .int (Int32.ofInt (y10_2))), (3, .int (Int32.ofInt (y10_3)))], [], M55) _
              refine w_adv (n := 1) (F' := (81, [(0, .ref 38), (1, .int (Int32.ofInt (y10_1))), (2, .int (Int32.ofInt (y10_2))), (3, .int (Int32.ofInt (y10_3)))], [.ref 38], M55)) rfl ?_
              refine w_gf (v := .ref 26) hR56a rfl rfl rfl rfl ?_
              refine w_adv (n := 4) (F' := (88, [(0, .ref 38), (1, .int (Int32.ofInt (y10_1))), (2, .int (Int32.ofInt (y10_2))), (3, .int (Int32.ofInt (y10_3)))], [.int (Int32.ofInt ((-1))), .int (Int32.ofInt ((-1))), .int (Int32.ofInt (2)), .int (Int32.ofInt (4)), .ref 26], M55)) rfl ?_
              refine w_call (cm := 94) (as := [(0, .ref 26), (1, .int (Int32.ofInt (4))), (2, .int (Int32.ofInt (2))), (3, .int (Int32.ofInt ((-1)))), (4, .int (Int32.ofInt ((-1))))]) (rest := []) (o := some (8, 26)) rfl (w_fitR hR56a rfl) (c_mkn (4) (2) ((-1)) ((-1)) hR56a (show 2 ≤ d by omega) ⟨by omega, by omega⟩ ⟨by omega, by omega⟩ ⟨by omega, by omega⟩ ⟨by omega, by omega⟩ (show 0 ≤ (I_10 1670) ∧ (I_10 1670) < 3016 by first | assumption | omega)) (fun r68 M69 q70 => ?_)
              rcases q70 with ⟨A71, e72, hR70a, f73, f74⟩
              rw [e72]
              replace hR70a : w_Rep w_TC fr X u l (w_up (w_up (w_up (w_up (w_up (w_up I_10 2436 ((I_10 2436) + 1)) 2441 (zt57)) 2437 (zk58)) 2438 (zv59)) 2439 ((I_10 2439) - 1)) 1670 ((I_10 1670) + 1)) A71 B_10 C_10 M69 := hR70a
              replace f73 : c_fa c_pa A_10 A71 := f73
              replace f74 : c_mk A_10 A71 (I_10 1670) 4 2 (-1) (-1) := f74
              have k75 : c_Wn A71 (c_r (I 2439) 0) (I_10 1670) (I_10 1670) ((I_10 1670) + 1) := c_Wn_up ⟨c_W_leaf f74 (by omega) (show (I_10 1670) ≤ (I_10 1670) by omega), f74.2.2.2.2.2⟩ (show 1 ≤ (c_r (I 2439) 0) by unfold c_r; omega)
              have k76 : c_Pxq A71 (c_r (I 2439) 0) y10_1 y10_2 (I 1670) (I_10 1670) := c_Pxq_agl hi10_4 f74.1 (show 0 ≤ (I 1670) by omega) (show (I_10 1670) ≤ (I_10 1670) by omega)
              clear hi10_4
              have g77 : c_agl A A71 (I 1670) := c_agl_trans hi10_3 f74.1 (show (I 1670) ≤ (I_10 1670) by omega)
              show w_W _ _ _ (91, [(0, .ref 38), (1, .int (Int32.ofInt (y10_1))), (2, .int (Int32.ofInt (y10_2))), (3, .int (Int32.ofInt (y10_3)))], [.int (Int32.ofInt ((I_10 1670)))], M69) _
              refine w_adv (n := 2) (F' := (93, [(3, .int (Int32.ofInt ((I_10 1670)))), (0, .ref 38), (1, .int (Int32.ofInt (y10_1))), (2, .int (Int32.ofInt (y10_2)))], [.ref 38], M69)) rfl ?_
              refine w_gf (v := .ref 26) hR70a rfl rfl rfl rfl ?_
              refine w_adv (n := 2) (F' := (98, [(3, .int (Int32.ofInt ((I_10 1670)))), (0, .ref 38), (1, .int (Int32.ofInt (y10_1))), (2, .int (Int32.ofInt (y10_2)))], [.int (Int32.ofInt ((I_10 1670))), .int (Int32.ofInt (y10_2)), .ref 26], M69)) rfl ?_
              refine w_call (cm := 115) (as := [(0, .ref 26), (1, .int (Int32.ofInt (y10_2))), (2, .int (Int32.ofInt ((I_10 1670))))]) (rest := []) (o := some (8, 26)) rfl (w_fitR hR70a rfl) (c_stb (y10_2) ((I_10 1670)) hR70a (show 2 ≤ d by omega) ⟨by omega, by omega⟩ ⟨by omega, by omega⟩) (fun r78 M79 q80 => ?_)
              rcases q80 with ⟨A81, e82, hR80a, f83, f84⟩
              rw [e82]
              replace hR80a : w_Rep w_TC fr X u l (w_up (w_up (w_up (w_up (w_up (w_up I_10 2436 ((I_10 2436) + 1)) 2441 (zt57)) 2437 (zk58)) 2438 (zv59)) 2439 ((I_10 2439) - 1)) 1670 ((I_10 1670) + 1)) A81 B_10 C_10 M79 := hR80a
              replace f83 : c_fa c_pa A71 A81 := f83
              replace f84 : c_bw A71 A81 y10_2 (I_10 1670) := f84
              have k85 : ∀ f', (y10_1 = -1 ∧ f' = (I_10 1670) ∨ y10_1 ≠ -1 ∧ f' = y10_1) → c_Wn A81 ((c_r (I 2439) 0) + 1) f' (I 1670) ((I_10 1670) + 1) := c_Pxq_fin k76 k75 f84 (show 0 ≤ (I 1670) by omega) (show (I_10 1670) < 3016 by omega)
              have g86 : c_agl A71 A81 (I 1670) := c_agl_bw f84 (c_Pxq_l2 k76)
              have g87 : c_agl A A81 (I 1670) := c_agl_trans g77 g86 (show (I 1670) ≤ (I 1670) by omega)
              show w_W _ _ _ (101, [(3, .int (Int32.ofInt ((I_10 1670)))), (0, .ref 38), (1, .int (Int32.ofInt (y10_1))), (2, .int (Int32.ofInt (y10_2)))], [], M79) _
              refine w_adv (n := 2) (F' := (103, [(3, .int (Int32.ofInt ((I_10 1670)))), (0, .ref 38), (1, .int (Int32.ofInt (y10_1))), (2, .int (Int32.ofInt (y10_2)))], [.int (Int32.ofInt ((-1))), .int (Int32.ofInt (y10_1))], M79)) rfl ?_
              refine w_br2 (a := y10_1) (b := (-1)) rfl rfl ⟨by omega, by omega⟩ ⟨by omega, by omega⟩ (fun h88 => ?_) (fun h88 => ?_)
              · have h88 : ¬ y10_1 = (-1) := h88
                show w_W _ _ _ (110, [(3, .int (Int32.ofInt ((I_10 1670)))), (0, .ref 38), (1, .int (Int32.ofInt (y10_1))), (2, .int (Int32.ofInt (y10_2)))], [], M79) _
                refine w_adv (n := 1) (F' := (111, [(3, .int (Int32.ofInt ((I_10 1670)))), (0, .ref 38), (1, .int (Int32.ofInt (y10_1))), (2, .int (Int32.ofInt (y10_2)))], [.int (Int32.ofInt (y10_1))], M79)) rfl ?_
                refine w_fin (r := .inl (some (y10_1))) (M' := M79) rfl ?_
                exact Or.inl ⟨y10_1, (w_up (w_up (w_up (w_up (w_up (w_up I_10 2436 ((I_10 2436) + 1)) 2441 (zt57)) 2437 (zk58)) 2438 (zv59)) 2439 ((I_10 2439) - 1)) 1670 ((I_10 1670) + 1)), A81, B_10, C_10, rfl, ⟨by omega, by omega⟩, hR80a, (show c_fi c_ps I (w_up (w_up (w_up (w_up (w_up (w_up I_10 2436 ((I_10 2436) + 1)) 2441 (zt57)) 2437 (zk58)) 2438 (zv59)) 2439 ((I_10 2439) - 1)) 1670 ((I_10 1670) + 1)) by exact (c_fi_up (c_fi_up (c_fi_up (c_fi_up (c_fi_up (c_fi_up hi10_0 rfl) rfl) rfl) rfl) rfl) rfl)), (show c_fa c_pa A A81 by exact (c_fa_trans (c_fa_trans hi10_1 f73) f83)), (show (0 ≤ (I_10 2436) + 1 ∧ (I_10 2436) + 1 ≤ (I_10 773) ∧ (zk58 = 0 ∨ (I_10 2436) + 1 < (I_10 773))) ∧ ((I_10 773) = (I 773) ∧ (I_10 2439) - 1 = (I 2439) ∧ 0 ≤ (I_10 2117)) ∧ (I 2436) + 1 ≤ (I_10 2436) + 1 ∧ ((I_10 1670) + 1) + 1 ≤ (I 1670) + 2 * (((I_10 2436) + 1) - (I 2436)) ∧ (I 1670) ≤ (I_10 1670) + 1 by (repeat' apply And.intro) <;> first | assumption | omega), (show c_agl A A81 (I 1670) by exact g87), (show c_Wn A81 (c_r (I 2439) 1) y10_1 (I 1670) ((I_10 1670) + 1) by exact c_Wn_up (k85 _ (by omega)) (show (c_r (I 2439) 0) + 1 ≤ (c_r (I 2439) 1) by unfold c_r; omega))⟩
              · have h88 : ¬ (¬ y10_1 = (-1)) := h88
                show w_W _ _ _ (106, [(3, .int (Int32.ofInt ((I_10 1670)))), (0, .ref 38), (1, .int (Int32.ofInt (y10_1))), (2, .int (Int32.ofInt (y10_2)))], [], M79) _
                refine w_adv (n := 2) (F' := (111, [(3, .int (Int32.ofInt ((I_10 1670)))), (0, .ref 38), (1, .int (Int32.ofInt (y10_1))), (2, .int (Int32.ofInt (y10_2)))], [.int (Int32.ofInt ((I_10 1670)))], M79)) rfl ?_
                refine w_fin (r := .inl (some ((I_10 1670)))) (M' := M79) rfl ?_
                exact Or.inl ⟨(I_10 1670), (w_up (w_up (w_up (w_up (w_up (w_up I_10 2436 ((I_10 2436) + 1)) 2441 (zt57)) 2437 (zk58)) 2438 (zv59)) 2439 ((I_10 2439) - 1)) 1670 ((I_10 1670) + 1)), A81, B_10, C_10, rfl, ⟨by omega, by omega⟩, hR80a, (show c_fi c_ps I (w_up (w_up (w_up (w_up (w_up (w_up I_10 2436 ((I_10 2436) + 1)) 2441 (zt57)) 2437 (zk58)) 2438 (zv59)) 2439 ((I_10 2439) - 1)) 1670 ((I_10 1670) + 1)) by exact (c_fi_up (c_fi_up (c_fi_up (c_fi_up (c_fi_up (c_fi_up hi10_0 rfl) rfl) rfl) rfl) rfl) rfl)), (show c_fa c_pa A A81 by exact (c_fa_trans (c_fa_trans hi10_1 f73) f83)), (show (0 ≤ (I_10 2436) + 1 ∧ (I_10 2436) + 1 ≤ (I_10 773) ∧ (zk58 = 0 ∨ (I_10 2436) + 1 < (I_10 773))) ∧ ((I_10 773) = (I 773) ∧ (I_10 2439) - 1 = (I 2439) ∧ 0 ≤ (I_10 2117)) ∧ (I 2436) + 1 ≤ (I_10 2436) + 1 ∧ ((I_10 1670) + 1) + 1 ≤ (I 1670) + 2 * (((I_10 2436) + 1) - (I 2436)) ∧ (I 1670) ≤ (I_10 1670) + 1 by (repeat' apply And.intro) <;> first | assumption | omega), (show c_agl A A81 (I 1670) by exact g87), (show c_Wn A81 (c_r (I 2439) 1) (I_10 1670) (I 1670) ((I_10 1670) + 1) by exact c_Wn_up (k85 _ (by omega)) (show (c_r (I 2439) 0) + 1 ≤ (c_r (I 2439) 1) by unfold c_r; omega))⟩
            · rw [e64]
              replace hR56b : w_Rep w_TC fr X (u + 6) (l + 64) I56b A56b B56b C56b M55 := hR56b
              replace f65 : c_fi c_ps I_10 I56b := f65
              replace f66 : c_fa c_pa A_10 A56b := f66
              replace f67 : M55.1[t63]? = some (.inr (11, [])) := f67
              exact Or.inr (⟨t63, I56b, A56b, B56b, C56b, rfl, hR56b, (show c_fi c_ps I I56b by exact (c_fi_trans hi10_0 f65)), (show c_fa c_pa A A56b by exact (c_fa_trans hi10_1 f66)), (show M55.1[t63]? = some (.inr (11, [])) by exact f67)⟩)
          · have h53 : ¬ ((I_10 2437) = 10) := h53
            show w_W _ _ _ (26, [(0, .ref 38), (1, .int (Int32.ofInt (y10_1))), (2, .int (Int32.ofInt (y10_2))), (3, .int (Int32.ofInt (y10_3)))], [], M_10) _
            refine w_adv (n := 1) (F' := (27, [(0, .ref 38), (1, .int (Int32.ofInt (y10_1))), (2, .int (Int32.ofInt (y10_2))), (3, .int (Int32.ofInt (y10_3)))], [.ref 38], M_10)) rfl ?_
            refine w_gf (v := .ref 26) hR_10 rfl rfl rfl rfl ?_
            refine w_adv (n := 2) (F' := (33, [(0, .ref 38), (1, .int (Int32.ofInt (y10_1))), (2, .int (Int32.ofInt (y10_2))), (3, .int (Int32.ofInt (y10_3)))], [.ref 38, .int (Int32.ofInt (7)), .ref 26], M_10)) rfl ?_
            refine w_call (cm := 89) (as := [(0, .ref 38)]) (rest := [.int (Int32.ofInt (7)), .ref 26]) (o := some (4, 38)) rfl (w_fitR hR_10 rfl) ((hA d (Nat.lt_succ_self d)).1 hR_10 (show 10 * (24 - (I_10 2439)) + 13 ≤ (d : Int) by omega) (show l ≤ 7000000 by first | assumption | omega) (show (0 ≤ (I_10 2436) ∧ (I_10 2436) ≤ (I_10 773) ∧ (I_10 773) ≤ 1501 ∧ ((I_10 2437) = 0 ∨ (I_10 2436) < (I_10 773))) ∧ (0 ≤ (I_10 2439) ∧ (I_10 2439) ≤ 24 ∧ 0 ≤ (I_10 2117)) ∧ 0 ≤ (I_10 1670) ∧ (I_10 1670) ≤ 2 * (I_10 2436) + 1 by (repeat' apply And.intro) <;> first | assumption | omega)) (fun r89 M90 q91 => ?_)
            rcases q91 with ⟨v92, I91a, A91a, B91a, C91a, e93, ⟨r94, r95⟩, hR91a, f96, f97, f98, f99, f100⟩ | ⟨t101, I91b, A91b, B91b, C91b, e102, hR91b, f103, f104, f105⟩
            · rw [e93]
              replace hR91a : w_Rep w_TC fr X u l I91a A91a B91a C91a M90 := hR91a
              replace f96 : c_fi c_ps I_10 I91a := f96
              replace f97 : c_fa c_pa A_10 A91a := f97
              replace f98 : (0 ≤ (I91a 2436) ∧ (I91a 2436) ≤ (I91a 773) ∧ ((I91a 2437) = 0 ∨ (I91a 2436) < (I91a 773))) ∧ ((I91a 773) = (I_10 773) ∧ (I91a 2439) = (I_10 2439) ∧ 0 ≤ (I91a 2117)) ∧ (I_10 2436) + 1 ≤ (I91a 2436) ∧ (I91a 1670) + 1 ≤ (I_10 1670) + 2 * ((I91a 2436) - (I_10 2436)) ∧ (I_10 1670) ≤ (I91a 1670) := f98
              obtain ⟨⟨n106, n107, n108⟩, ⟨n109, n110, n111⟩, n112, n113, n114⟩ := id f98
              clear f98
              replace f99 : c_agl A_10 A91a (I_10 1670) := f99
              replace f100 : c_Wn A91a (c_r (I_10 2439) 3) v92 (I_10 1670) (I91a 1670) := f100
              have k115 : c_Pxq A91a (c_r (I 2439) 0) y10_1 y10_2 (I 1670) (I_10 1670) := c_Pxq_agl hi10_4 f99 (show 0 ≤ (I 1670) by omega) (show (I_10 1670) ≤ (I_10 1670) by omega)
              clear hi10_4
              have g116 : c_agl A A91a (I 1670) := c_agl_trans hi10_3 f99 (show (I 1670) ≤ (I_10 1670) by omega)
              have k117 : c_Wn A91a (c_r (I 2439) 0) v92 (I_10 1670) (I91a 1670) := c_Wn_up f100 (show c_r (I_10 2439) 3 ≤ c_r (I 2439) 0 by unfold c_r; omega)
              obtain ⟨b118, b119⟩ := c_W_in k117.1
              show w_W _ _ _ (36, [(0, .ref 38), (1, .int (Int32.ofInt (y10_1))), (2, .int (Int32.ofInt (y10_2))), (3, .int (Int32.ofInt (y10_3)))], [.int (Int32.ofInt (v92)), .int (Int32.ofInt (7)), .ref 26], M90) _
              refine w_adv (n := 2) (F' := (38, [(0, .ref 38), (1, .int (Int32.ofInt (y10_1))), (2, .int (Int32.ofInt (y10_2))), (3, .int (Int32.ofInt (y10_3)))], [.int (Int32.ofInt ((-1))), .int (Int32.ofInt ((-1))), .int (Int32.ofInt (v92)), .int (Int32.ofInt (7)), .ref 26], M90)) rfl ?_
              refine w_call (cm := 94) (as := [(0, .ref 26), (1, .int (Int32.ofInt (7))), (2, .int (Int32.ofInt (v92))), (3, .int (Int32.ofInt ((-1)))), (4, .int (Int32.ofInt ((-1))))]) (rest := []) (o := some (8, 26)) rfl (w_fitR hR91a rfl) (c_mkn (7) (v92) ((-1)) ((-1)) hR91a (show 2 ≤ d by omega) ⟨by omega, by omega⟩ ⟨by omega, by omega⟩ ⟨by omega, by omega⟩ ⟨by omega, by omega⟩ (show 0 ≤ (I91a 1670) ∧ (I91a 1670) < 3016 by first | assumption | omega)) (fun r120 M121 q122 => ?_)
              rcases q122 with ⟨A123, e124, hR122a, f125, f126⟩
              rw [e124]
              replace hR122a : w_Rep w_TC fr X u l (w_up I91a 1670 ((I91a 1670) + 1)) A123 B91a C91a M121 := hR122a
              replace f125 : c_fa c_pa A91a A123 := f125
              replace f126 : c_mk A91a A123 (I91a 1670) 7 v92 (-1) (-1) := f126
              have k127 : c_Pxn A123 (c_r (I 2439) 0) (I91a 1670) (I91a 1670) (I_10 1670) := c_Pxn_mk f126 (c_Wn_win k117 (show (I_10 1670) ≤ (I_10 1670) by omega) (show (I91a 1670) ≤ (I91a 1670) by omega)) (show 0 ≤ (I_10 1670) by omega)
              have k128 : c_Pxq A123 (c_r (I 2439) 0) y10_1 y10_2 (I 1670) (I_10 1670) := c_Pxq_agl k115 f126.1 (show 0 ≤ (I 1670) by omega) (show (I_10 1670) ≤ (I91a 1670) by omega)
              clear k115
              have g129 : c_agl A A123 (I 1670) := c_agl_trans g116 f126.1 (show (I 1670) ≤ (I91a 1670) by omega)
              show w_W _ _ _ (41, [(0, .ref 38), (1, .int (Int32.ofInt (y10_1))), (2, .int (Int32.ofInt (y10_2))), (3, .int (Int32.ofInt (y10_3)))], [.int (Int32.ofInt ((I91a 1670)))], M121) _
              refine w_adv (n := 2) (F' := (44, [(4, .int (Int32.ofInt ((I91a 1670)))), (0, .ref 38), (1, .int (Int32.ofInt (y10_1))), (2, .int (Int32.ofInt (y10_2))), (3, .int (Int32.ofInt (y10_3)))], [.ref 38], M121)) rfl ?_
              refine w_gf (v := .ref 26) hR122a rfl rfl rfl rfl ?_
              refine w_adv (n := 2) (F' := (50, [(4, .int (Int32.ofInt ((I91a 1670)))), (0, .ref 38), (1, .int (Int32.ofInt (y10_1))), (2, .int (Int32.ofInt (y10_2))), (3, .int (Int32.ofInt (y10_3)))], [.int (Int32.ofInt ((I91a 1670))), .int (Int32.ofInt (y10_2)), .ref 26], M121)) rfl ?_
              refine w_call (cm := 115) (as := [(0, .ref 26), (1, .int (Int32.ofInt (y10_2))), (2, .int (Int32.ofInt ((I91a 1670))))]) (rest := []) (o := some (8, 26)) rfl (w_fitR hR122a rfl) (c_stb (y10_2) ((I91a 1670)) hR122a (show 2 ≤ d by omega) ⟨by omega, by omega⟩ ⟨by omega, by omega⟩) (fun r130 M131 q132 => ?_)
              rcases q132 with ⟨A133, e134, hR132a, f135, f136⟩
              rw [e134]
              replace hR132a : w_Rep w_TC fr X u l (w_up I91a 1670 ((I91a 1670) + 1)) A133 B91a C91a M131 := hR132a
              replace f135 : c_fa c_pa A123 A133 := f135
              replace f136 : c_bw A123 A133 y10_2 (I91a 1670) := f136
              have k137 : ∀ f', (y10_1 = -1 ∧ f' = (I91a 1670) ∨ y10_1 ≠ -1 ∧ f' = y10_1) → c_Pxq A133 (c_r (I 2439) 0) f' (I91a 1670) (I 1670) ((I91a 1670) + 1) := c_Pxq_app k128 k127 f136 (show 0 ≤ (I 1670) by omega) (show (I_10 1670) ≤ (I91a 1670) ∧ (I91a 1670) < 3016 by omega)
              have g138 : c_agl A123 A133 (I 1670) := c_agl_bw f136 (c_Pxq_l2 k128)
              have g139 : c_agl A A133 (I 1670) := c_agl_trans g129 g138 (show (I 1670) ≤ (I 1670) by omega)
              show w_W _ _ _ (53, [(4, .int (Int32.ofInt ((I91a 1670)))), (0, .ref 38), (1, .int (Int32.ofInt (y10_1))), (2, .int (Int32.ofInt (y10_2))), (3, .int (Int32.ofInt (y10_3)))], [], M131) _
              refine w_adv (n := 4) (F' := (58, [(2, .int (Int32.ofInt ((I91a 1670)))), (4, .int (Int32.ofInt ((I91a 1670)))), (0, .ref 38), (1, .int (Int32.ofInt (y10_1))), (3, .int (Int32.ofInt (y10_3)))], [.int (Int32.ofInt ((-1))), .int (Int32.ofInt (y10_1))], M131)) rfl ?_
              refine w_br2 (a := y10_1) (b := (-1)) rfl rfl ⟨by omega, by omega⟩ ⟨by omega, by omega⟩ (fun h140 => ?_) (fun h140 => ?_)
              · have h140 : ¬ y10_1 = (-1) := h140
                show w_W _ _ _ (66, [(2, .int (Int32.ofInt ((I91a 1670)))), (4, .int (Int32.ofInt ((I91a 1670)))), (0, .ref 38), (1, .int (Int32.ofInt (y10_1))), (3, .int (Int32.ofInt (y10_3)))], [], M131) _
                refine w_adv (n := 2) (F' := (68, [(1, .int (Int32.ofInt (y10_1))), (2, .int (Int32.ofInt ((I91a 1670)))), (4, .int (Int32.ofInt ((I91a 1670)))), (0, .ref 38), (3, .int (Int32.ofInt (y10_3)))], [], M131)) rfl ?_
                refine w_inc (nL := 5) (a := y10_3) rfl rfl rfl (by decide) ?_
                refine w_adv (n := 1) (F' := (10, [(3, .int (Int32.ofInt (y10_3 + 1))), (1, .int (Int32.ofInt (y10_1))), (2, .int (Int32.ofInt ((I91a 1670)))), (4, .int (Int32.ofInt ((I91a 1670)))), (0, .ref 38)], [], M131)) rfl ?_
                refine w_ls (ls := [(0, .ref 38), (1, .int (Int32.ofInt (y10_1))), (2, .int (Int32.ofInt ((I91a 1670)))), (3, .int (Int32.ofInt (y10_3 + 1)))]) (show List.Nodup [0, 1, 2, 3] by decide) (show List.Nodup [3, 1, 2, 4, 0] by decide) (List.forall_mem_cons.mpr ⟨(List.Mem.tail _ (List.Mem.tail _ (List.Mem.tail _ (List.Mem.tail _ (List.Mem.head _))))), (List.forall_mem_cons.mpr ⟨(List.Mem.tail _ (List.Mem.head _)), (List.forall_mem_cons.mpr ⟨(List.Mem.tail _ (List.Mem.tail _ (List.Mem.head _))), (List.forall_mem_cons.mpr ⟨(List.Mem.head _), (fun _ h => by cases h)⟩)⟩)⟩)⟩) ?_
                exact ih10  (y10_1) ((I91a 1670)) (y10_3 + 1) (w_up I91a 1670 ((I91a 1670) + 1)) A133 B91a C91a M131 hR132a ⟨by omega, by omega⟩ ⟨by omega, by omega⟩ ⟨by omega, by omega⟩ (show c_fi c_ps I (w_up I91a 1670 ((I91a 1670) + 1)) by exact (c_fi_up (c_fi_trans hi10_0 f96) rfl)) (show c_fa c_pa A A133 by exact (c_fa_trans (c_fa_trans (c_fa_trans hi10_1 f97) f125) f135)) (show (0 ≤ (I91a 2436) ∧ (I91a 2436) ≤ (I91a 773) ∧ ((I91a 2437) = 0 ∨ (I91a 2436) < (I91a 773))) ∧ ((I91a 773) = (I 773) ∧ (I91a 2439) = (I 2439) + 1 ∧ 0 ≤ (I91a 2117)) ∧ (I 2436) + 1 ≤ (I91a 2436) ∧ ((I91a 1670) + 1) + 2 ≤ (I 1670) + 2 * ((I91a 2436) - (I 2436)) ∧ (I 1670) ≤ (I91a 1670) + 1 by (repeat' apply And.intro) <;> first | assumption | omega) (show c_agl A A133 (I 1670) by exact g139) (show c_Pxq A133 (c_r (I 2439) 0) y10_1 (I91a 1670) (I 1670) ((I91a 1670) + 1) by exact k137 _ (by omega)) (show 0 ≤ (y10_3 + 1) ∧ (y10_3 + 1) ≤ 1500 by omega) (show 1500 - (y10_3 + 1) < (fu10 : Int) by omega)
              · have h140 : ¬ (¬ y10_1 = (-1)) := h140
                show w_W _ _ _ (61, [(2, .int (Int32.ofInt ((I91a 1670)))), (4, .int (Int32.ofInt ((I91a 1670)))), (0, .ref 38), (1, .int (Int32.ofInt (y10_1))), (3, .int (Int32.ofInt (y10_3)))], [], M131) _
                refine w_adv (n := 3) (F' := (68, [(1, .int (Int32.ofInt ((I91a 1670)))), (2, .int (Int32.ofInt ((I91a 1670)))), (4, .int (Int32.ofInt ((I91a 1670)))), (0, .ref 38), (3, .int (Int32.ofInt (y10_3)))], [], M131)) rfl ?_
                refine w_inc (nL := 5) (a := y10_3) rfl rfl rfl (by decide) ?_
                refine w_adv (n := 1) (F' := (10, [(3, .int (Int32.ofInt (y10_3 + 1))), (1, .int (Int32.ofInt ((I91a 1670)))), (2, .int (Int32.ofInt ((I91a 1670)))), (4, .int (Int32.ofInt ((I91a 1670)))), (0, .ref 38)], [], M131)) rfl ?_
                refine w_ls (ls := [(0, .ref 38), (1, .int (Int32.ofInt ((I91a 1670)))), (2, .int (Int32.ofInt ((I91a 1670)))), (3, .int (Int32.ofInt (y10_3 + 1)))]) (show List.Nodup [0, 1, 2, 3] by decide) (show List.Nodup [3, 1, 2, 4, 0] by decide) (List.forall_mem_cons.mpr ⟨(List.Mem.tail _ (List.Mem.tail _ (List.Mem.tail _ (List.Mem.tail _ (List.Mem.head _))))), (List.forall_mem_cons.mpr ⟨(List.Mem.tail _ (List.Mem.head _)), (List.forall_mem_cons.mpr ⟨(List.Mem.tail _ (List.Mem.tail _ (List.Mem.head _))), (List.forall_mem_cons.mpr ⟨(List.Mem.head _), (fun _ h => by cases h)⟩)⟩)⟩)⟩) ?_
                exact ih10  ((I91a 1670)) ((I91a 1670)) (y10_3 + 1) (w_up I91a 1670 ((I91a 1670) + 1)) A133 B91a C91a M131 hR132a ⟨by omega, by omega⟩ ⟨by omega, by omega⟩ ⟨by omega, by omega⟩ (show c_fi c_ps I (w_up I91a 1670 ((I91a 1670) + 1)) by exact (c_fi_up (c_fi_trans hi10_0 f96) rfl)) (show c_fa c_pa A A133 by exact (c_fa_trans (c_fa_trans (c_fa_trans hi10_1 f97) f125) f135)) (show (0 ≤ (I91a 2436) ∧ (I91a 2436) ≤ (I91a 773) ∧ ((I91a 2437) = 0 ∨ (I91a 2436) < (I91a 773))) ∧ ((I91a 773) = (I 773) ∧ (I91a 2439) = (I 2439) + 1 ∧ 0 ≤ (I91a 2117)) ∧ (I 2436) + 1 ≤ (I91a 2436) ∧ ((I91a 1670) + 1) + 2 ≤ (I 1670) + 2 * ((I91a 2436) - (I 2436)) ∧ (I 1670) ≤ (I91a 1670) + 1 by (repeat' apply And.intro) <;> first | assumption | omega) (show c_agl A A133 (I 1670) by exact g139) (show c_Pxq A133 (c_r (I 2439) 0) (I91a 1670) (I91a 1670) (I 1670) ((I91a 1670) + 1) by exact k137 _ (by omega)) (show 0 ≤ (y10_3 + 1) ∧ (y10_3 + 1) ≤ 1500 by omega) (show 1500 - (y10_3 + 1) < (fu10 : Int) by omega)
            · rw [e102]
              replace hR91b : w_Rep w_TC fr X (u + 6) (l + 64) I91b A91b B91b C91b M90 := hR91b
              replace f103 : c_fi c_ps I_10 I91b := f103
              replace f104 : c_fa c_pa A_10 A91b := f104
              replace f105 : M90.1[t101]? = some (.inr (11, [])) := f105
              exact Or.inr (⟨t101, I91b, A91b, B91b, C91b, rfl, hR91b, (show c_fi c_ps I I91b by exact (c_fi_trans hi10_0 f103)), (show c_fa c_pa A A91b by exact (c_fa_trans hi10_1 f104)), (show M90.1[t101]? = some (.inr (11, [])) by exact f105)⟩)
    refine w_ls (ls := [(0, .ref 38), (1, .int (Int32.ofInt ((-1)))), (2, .int (Int32.ofInt ((-1)))), (3, .int (Int32.ofInt (0)))]) (show List.Nodup [0, 1, 2, 3] by decide) (show List.Nodup [3, 2, 1, 0] by decide) (List.forall_mem_cons.mpr ⟨(List.Mem.tail _ (List.Mem.tail _ (List.Mem.tail _ (List.Mem.head _)))), (List.forall_mem_cons.mpr ⟨(List.Mem.tail _ (List.Mem.tail _ (List.Mem.head _))), (List.forall_mem_cons.mpr ⟨(List.Mem.tail _ (List.Mem.head _)), (List.forall_mem_cons.mpr ⟨(List.Mem.head _), (fun _ h => by cases h)⟩)⟩)⟩)⟩) ?_
    exact lp10 ((1500 - 0 : Int).toNat + 1)  ((-1)) ((-1)) (0) (w_up (w_up (w_up (w_up (w_up I 2436 ((I 2436) + 1)) 2441 (zt4)) 2437 (zk5)) 2438 (zv6)) 2439 ((I 2439) + 1)) A B C M2 hR3a ⟨by omega, by omega⟩ ⟨by omega, by omega⟩ ⟨by omega, by omega⟩ (show c_fi c_ps I (w_up (w_up (w_up (w_up (w_up I 2436 ((I 2436) + 1)) 2441 (zt4)) 2437 (zk5)) 2438 (zv6)) 2439 ((I 2439) + 1)) by exact (c_fi_up (c_fi_up (c_fi_up (c_fi_up (c_fi_up c_fi_refl rfl) rfl) rfl) rfl) rfl)) (show c_fa c_pa A A by exact c_fa_refl) (show (0 ≤ (I 2436) + 1 ∧ (I 2436) + 1 ≤ (I 773) ∧ (zk5 = 0 ∨ (I 2436) + 1 < (I 773))) ∧ ((I 773) = (I 773) ∧ (I 2439) + 1 = (I 2439) + 1 ∧ 0 ≤ (I 2117)) ∧ (I 2436) + 1 ≤ (I 2436) + 1 ∧ (I 1670) + 2 ≤ (I 1670) + 2 * (((I 2436) + 1) - (I 2436)) ∧ (I 1670) ≤ (I 1670) by (repeat' apply And.intro) <;> first | assumption | omega) (show c_agl A A (I 1670) by exact c_agl_refl) (show c_Pxq A (c_r (I 2439) 0) (((-1) : Int)) (((-1) : Int)) (I 1670) (I 1670) by exact c_Pxq_nil (show (I 1670) ≤ (I 1670) by omega)) (show 0 ≤ (0 : Int) ∧ (0 : Int) ≤ 1500 by omega) (show 1500 - 0 < (((1500 - 0 : Int).toNat + 1 : Nat) : Int) by omega)
  · rw [e11]
    replace hR3b : w_Rep w_TC fr X (u + 6) (l + 64) I3b A3b B3b C3b M2 := hR3b
    replace f12 : c_fi c_ps I I3b := f12
    replace f13 : c_fa c_pa A A3b := f13
    replace f14 : M2.1[t10]? = some (.inr (11, [])) := f14
    exact Or.inr (⟨t10, I3b, A3b, B3b, C3b, rfl, hR3b, (show c_fi c_ps I I3b by exact f12), (show c_fa c_pa A A3b by exact f13), (show M2.1[t10]? = some (.inr (11, [])) by exact f14)⟩)
