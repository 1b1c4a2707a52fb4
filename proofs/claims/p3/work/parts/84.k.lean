def c_apply_Q (fr : Nat → Bool) (X : Nat → Option (q_C (Nat → Int32))) (u l : Nat) (I : Nat → Int) (A : Nat → Int → Int) (B C : Nat → Nat) (M : w_M) : w_X → w_M → Prop := fun r M' => (∃ v : Int, ∃ (I' : Nat → Int) (A' : Nat → Int → Int) (B' C' : Nat → Nat), (r = .inl (some v)) ∧ (w_in v) ∧ (w_Rep w_TC fr X u l I' A' B' C' M') ∧ (c_fi c_ps I I') ∧ (c_fa c_pa A A') ∧ ((0 ≤ (I' 2436) ∧ (I' 2436) ≤ (I' 773) ∧ ((I' 2437) = 0 ∨ (I' 2436) < (I' 773))) ∧ ((I' 773) = (I 773) ∧ (I' 2439) = (I 2439) ∧ 0 ≤ (I' 2117)) ∧ (I 2436) + 1 ≤ (I' 2436) ∧ (I' 1670) + 1 ≤ (I 1670) + 2 * ((I' 2436) - (I 2436)) ∧ (I 1670) ≤ (I' 1670)) ∧ (c_agl A A' (I 1670)) ∧ (c_Wn A' (c_r (I 2439) 1) v (I 1670) (I' 1670))) ∨ (∃ t : Nat, ∃ (I' : Nat → Int) (A' : Nat → Int → Int) (B' C' : Nat → Nat), (r = .inr t) ∧ (w_Rep w_TC fr X (u + 6) (l + 64) I' A' B' C' M') ∧ (c_fi c_ps I I') ∧ (c_fa c_pa A A') ∧ (M'.1[t]? = some (.inr (11, []))))
set_option maxHeartbeats 100000000 in
set_option maxRecDepth 100000 in
theorem c_apply {L : Nat} {xs : Nat → Int32} {d : Nat} {fr : Nat → Bool} {X : Nat → Option (q_C (Nat → Int32))} {u l : Nat} {I : Nat → Int} {A : Nat → Int → Int} {B C : Nat → Nat} {M : w_M} (hA : c_ALL L xs d) (hR : w_Rep w_TC fr X u l I A B C M) (hd : 10 * (24 - (I 2439)) + 9 ≤ (d : Int)) (hl : l ≤ 7000000) (hNU : (0 ≤ (I 2436) ∧ (I 2436) ≤ (I 773) ∧ (I 773) ≤ 1501 ∧ ((I 2437) = 0 ∨ (I 2436) < (I 773))) ∧ (0 ≤ (I 2439) ∧ (I 2439) ≤ 24 ∧ 0 ≤ (I 2117)) ∧ 0 ≤ (I 1670) ∧ (I 1670) ≤ 2 * (I 2436) + 1) (hk0 : ¬ (I 2437) = 0) : w_W (z_P L xs) d 116 (0, [(0, .ref 38)], [], M) (c_apply_Q fr X u l I A B C M) := by
  obtain ⟨d, rfl⟩ : ∃ d0, d = d0 + 1 := ⟨d - 1, by omega⟩
  refine w_adv (n := 1) (F' := (1, [(0, .ref 38)], [.ref 38], M)) rfl ?_
  refine w_call (cm := 99) (as := [(0, .ref 38)]) (rest := []) (o := some (4, 38)) rfl (w_fitR hR rfl) (c_open hR (show 4 ≤ d by omega) (show l ≤ 7000000 by first | assumption | omega) (show -1 ≤ (I 2436) ∧ (I 2436) < (I 773) ∧ (I 773) ≤ 1501 by first | assumption | omega) (show 0 ≤ (I 2439) ∧ (I 2439) ≤ 24 by first | assumption | omega)) (fun r1 M2 q3 => ?_)
  rcases q3 with ⟨zt4, zk5, zv6, e7, hR3a, f8, f9⟩ | ⟨t10, I3b, A3b, B3b, C3b, e11, hR3b, f12, f13, f14⟩
  · rw [e7]
    replace hR3a : w_Rep w_TC fr X u l (w_up (w_up (w_up (w_up (w_up I 2436 ((I 2436) + 1)) 2441 (zt4)) 2437 (zk5)) 2438 (zv6)) 2439 ((I 2439) + 1)) A B C M2 := hR3a
    replace f8 : ((I 2436) + 1 < (I 773) ∨ zk5 = 0) := f8
    replace f9 : (I 2439) < 24 := f9
    show w_W _ _ _ (4, [(0, .ref 38)], [], M2) _
    refine w_adv (n := 1) (F' := (5, [(0, .ref 38)], [.ref 38], M2)) rfl ?_
    refine w_call (cm := 89) (as := [(0, .ref 38)]) (rest := []) (o := some (4, 38)) rfl (w_fitR hR3a rfl) ((hA d (Nat.lt_succ_self d)).1 hR3a (show 10 * (24 - ((I 2439) + 1)) + 13 ≤ (d : Int) by omega) (show l ≤ 7000000 by first | assumption | omega) (show (0 ≤ (I 2436) + 1 ∧ (I 2436) + 1 ≤ (I 773) ∧ (I 773) ≤ 1501 ∧ (zk5 = 0 ∨ (I 2436) + 1 < (I 773))) ∧ (0 ≤ (I 2439) + 1 ∧ (I 2439) + 1 ≤ 24 ∧ 0 ≤ (I 2117)) ∧ 0 ≤ (I 1670) ∧ (I 1670) ≤ 2 * ((I 2436) + 1) + 1 by (repeat' apply And.intro) <;> first | assumption | omega)) (fun r15 M16 q17 => ?_)
    rcases q17 with ⟨v18, I17a, A17a, B17a, C17a, e19, ⟨r20, r21⟩, hR17a, f22, f23, f24, f25, f26⟩ | ⟨t27, I17b, A17b, B17b, C17b, e28, hR17b, f29, f30, f31⟩
    · rw [e19]
      replace hR17a : w_Rep w_TC fr X u l I17a A17a B17a C17a M16 := hR17a
      replace f22 : c_fi c_ps (w_up (w_up (w_up (w_up (w_up I 2436 ((I 2436) + 1)) 2441 (zt4)) 2437 (zk5)) 2438 (zv6)) 2439 ((I 2439) + 1)) I17a := f22
      replace f23 : c_fa c_pa A A17a := f23
      replace f24 : (0 ≤ (I17a 2436) ∧ (I17a 2436) ≤ (I17a 773) ∧ ((I17a 2437) = 0 ∨ (I17a 2436) < (I17a 773))) ∧ ((I17a 773) = (I 773) ∧ (I17a 2439) = (I 2439) + 1 ∧ 0 ≤ (I17a 2117)) ∧ ((I 2436) + 1) + 1 ≤ (I17a 2436) ∧ (I17a 1670) + 1 ≤ (I 1670) + 2 * ((I17a 2436) - ((I 2436) + 1)) ∧ (I 1670) ≤ (I17a 1670) := f24
      obtain ⟨⟨n32, n33, n34⟩, ⟨n35, n36, n37⟩, n38, n39, n40⟩ := id f24
      clear f24
      replace f25 : c_agl A A17a (I 1670) := f25
      replace f26 : c_Wn A17a (c_r ((I 2439) + 1) 3) v18 (I 1670) (I17a 1670) := f26
      have g41 : c_agl A A17a (I 1670) := c_agl_trans c_agl_refl f25 (show (I 1670) ≤ (I 1670) by omega)
      have k42 : c_Wn A17a (c_r (I 2439) 0) v18 (I 1670) (I17a 1670) := c_Wn_up f26 (show c_r ((I 2439) + 1) 3 ≤ c_r (I 2439) 0 by unfold c_r; omega)
      obtain ⟨b43, b44⟩ := c_W_in k42.1
      show w_W _ _ _ (8, [(0, .ref 38)], [.int (Int32.ofInt (v18))], M16) _
      refine w_adv (n := 5) (F' := (13, [(3, .int (Int32.ofInt (1))), (2, .int (Int32.ofInt (v18))), (1, .int (Int32.ofInt (v18))), (0, .ref 38)], [], M16)) rfl ?_
      have lp13 : ∀ fu13 : Nat, ∀ (y13_2 : Int) (y13_3 : Int) (I_13 : Nat → Int) (A_13 : Nat → Int → Int) (B_13 C_13 : Nat → Nat) (M_13 : w_M) (hR_13 : w_Rep w_TC fr X u l I_13 A_13 B_13 C_13 M_13), w_in y13_2 → w_in y13_3 → c_fi c_ps I I_13 → c_fa c_pa A A_13 → (0 ≤ (I_13 2436) ∧ (I_13 2436) ≤ (I_13 773) ∧ ((I_13 2437) = 0 ∨ (I_13 2436) < (I_13 773))) ∧ ((I_13 773) = (I 773) ∧ (I_13 2439) = (I 2439) + 1 ∧ 0 ≤ (I_13 2117)) ∧ (I 2436) + 1 ≤ (I_13 2436) ∧ (I_13 1670) + 2 ≤ (I 1670) + 2 * ((I_13 2436) - (I 2436)) ∧ (I 1670) ≤ (I_13 1670) → c_agl A A_13 (I 1670) → c_Chq c_P0 A_13 (c_r (I 2439) 0) v18 y13_2 (I 1670) (I_13 1670) → 1 ≤ y13_3 ∧ y13_3 ≤ 34 → 34 - y13_3 < (fu13 : Int) → w_W (z_P L xs) (d + 1) 116 (13, [(0, .ref 38), (1, .int (Int32.ofInt (v18))), (2, .int (Int32.ofInt (y13_2))), (3, .int (Int32.ofInt (y13_3)))], [], M_13) (c_apply_Q fr X u l I A B C M) := by
        intro fu13
        induction fu13 with
        | zero =>
          intro y13_2 y13_3 I_13 A_13 B_13 C_13 M_13 hR_13 ⟨ra_y13_2, rb_y13_2⟩ ⟨ra_y13_3, rb_y13_3⟩ hi13_0 hi13_1 hi13_2 hi13_3 hi13_4 hi13_5 hn13
          exfalso
          omega
        | succ fu13 ih13 =>
          intro y13_2 y13_3 I_13 A_13 B_13 C_13 M_13 hR_13 ⟨ra_y13_2, rb_y13_2⟩ ⟨ra_y13_3, rb_y13_3⟩ hi13_0 hi13_1 hi13_2 hi13_3 hi13_4 hi13_5 hn13
          refine w_adv (n := 2) (F' := (16, [(0, .ref 38), (1, .int (Int32.ofInt (v18))), (2, .int (Int32.ofInt (y13_2))), (3, .int (Int32.ofInt (y13_3)))], [.int (Int32.ofInt (33)), .int (Int32.ofInt (y13_3))], M_13)) rfl ?_
          refine w_br2 (a := y13_3) (b := 33) rfl rfl ⟨by omega, by omega⟩ ⟨by omega, by omega⟩ (fun h45 => ?_) (fun h45 => ?_)
          · have h45 : y13_3 > 33 := h45
            show w_W _ _ _ (57, [(0, .ref 38), (1, .int (Int32.ofInt (v18))), (2, .int (Int32.ofInt (y13_2))), (3, .int (Int32.ofInt (y13_3)))], [], M_13) _
            refine w_adv (n := 2) (F' := (60, [(0, .ref 38), (1, .int (Int32.ofInt (v18))), (2, .int (Int32.ofInt (y13_2))), (3, .int (Int32.ofInt (y13_3)))], [.int (Int32.ofInt (8)), .ref 38], M_13)) rfl ?_
            refine w_call (cm := 113) (as := [(0, .ref 38), (1, .int (Int32.ofInt (8)))]) (rest := []) (o := some (4, 38)) rfl (w_fitR hR_13 rfl) (c_close (8) hR_13 (show 4 ≤ d by omega) ⟨by omega, by omega⟩ (show l ≤ 7000000 by first | assumption | omega) (show -1 ≤ (I_13 2436) ∧ ((I_13 2437) = 0 ∨ (I_13 2436) < (I_13 773)) ∧ (I_13 773) ≤ 1501 ∧ 1 ≤ 8 by first | assumption | omega) (show 0 ≤ (I_13 2439) ∧ (I_13 2439) ≤ 24 by first | assumption | omega)) (fun r46 M47 q48 => ?_)
            rcases q48 with ⟨zt49, zk50, zv51, e52, hR48a, f53, f54⟩ | ⟨t55, I48b, A48b, B48b, C48b, e56, hR48b, f57, f58, f59⟩
            · rw [e52]
              replace hR48a : w_Rep w_TC fr X u l (w_up (w_up (w_up (w_up (w_up I_13 2436 ((I_13 2436) + 1)) 2441 (zt49)) 2437 (zk50)) 2438 (zv51)) 2439 ((I_13 2439) - 1)) A_13 B_13 C_13 M47 := hR48a
              replace f53 : ((I_13 2436) + 1 < (I_13 773) ∨ zk50 = 0) := f53
              replace f54 : (I_13 2437) = 8 := f54
              show w_W _ _ _ (63, [(0, .ref 38), (1, .int (Int32.ofInt (v18))), (2, .int (Int32.ofInt (y13_2))), (3, .int (Int32.ofInt (y13_3)))], [], M47) _
              refine w_adv (n := 1) (F' := (64, [(0, .ref 38), (1, .int (Int32.ofInt (v18))), (2, .int (Int32.ofInt (y13_2))), (3, .int (Int32.ofInt (y13_3)))], [.ref 38], M47)) rfl ?_
              refine w_gf (v := .ref 26) hR48a rfl rfl rfl rfl ?_
              refine w_adv (n := 4) (F' := (72, [(0, .ref 38), (1, .int (Int32.ofInt (v18))), (2, .int (Int32.ofInt (y13_2))), (3, .int (Int32.ofInt (y13_3)))], [.int (Int32.ofInt ((-1))), .int (Int32.ofInt ((-1))), .int (Int32.ofInt (v18)), .int (Int32.ofInt (10)), .ref 26], M47)) rfl ?_
              refine w_call (cm := 94) (as := [(0, .ref 26), (1, .int (Int32.ofInt (10))), (2, .int (Int32.ofInt (v18))), (3, .int (Int32.ofInt ((-1)))), (4, .int (Int32.ofInt ((-1))))]) (rest := []) (o := some (8, 26)) rfl (w_fitR hR48a rfl) (c_mkn (10) (v18) ((-1)) ((-1)) hR48a (show 2 ≤ d by omega) ⟨by omega, by omega⟩ ⟨by omega, by omega⟩ ⟨by omega, by omega⟩ ⟨by omega, by omega⟩ (show 0 ≤ (I_13 1670) ∧ (I_13 1670) < 3016 by first | assumption | omega)) (fun r60 M61 q62 => ?_)
              rcases q62 with ⟨A63, e64, hR62a, f65, f66⟩
              rw [e64]
              replace hR62a : w_Rep w_TC fr X u l (w_up (w_up (w_up (w_up (w_up (w_up I_13 2436 ((I_13 2436) + 1)) 2441 (zt49)) 2437 (zk50)) 2438 (zv51)) 2439 ((I_13 2439) - 1)) 1670 ((I_13 1670) + 1)) A63 B_13 C_13 M61 := hR62a
              replace f65 : c_fa c_pa A_13 A63 := f65
              replace f66 : c_mk A_13 A63 (I_13 1670) 10 v18 (-1) (-1) := f66
              have k67 : c_Wn A63 (c_r (I 2439) 1) (I_13 1670) (I 1670) ((I_13 1670) + 1) := c_Wn_up ⟨c_W_10 f66 (show 0 ≤ (I 1670) by omega) (c_Ch_wide (fun _ _ => c_P0_win) (c_Chq_end hi13_4) (show (I 1670) ≤ (I 1670) by omega) (show (I_13 1670) ≤ (I_13 1670) by omega)), f66.2.2.2.2.2⟩ (show (c_r (I 2439) 0) + 1 ≤ (c_r (I 2439) 1) by unfold c_r; omega)
              have g68 : c_agl A A63 (I 1670) := c_agl_trans hi13_3 f66.1 (show (I 1670) ≤ (I_13 1670) by omega)
              show w_W _ _ _ (75, [(0, .ref 38), (1, .int (Int32.ofInt (v18))), (2, .int (Int32.ofInt (y13_2))), (3, .int (Int32.ofInt (y13_3)))], [.int (Int32.ofInt ((I_13 1670)))], M61) _
              refine w_fin (r := .inl (some ((I_13 1670)))) (M' := M61) rfl ?_
              exact Or.inl ⟨(I_13 1670), (w_up (w_up (w_up (w_up (w_up (w_up I_13 2436 ((I_13 2436) + 1)) 2441 (zt49)) 2437 (zk50)) 2438 (zv51)) 2439 ((I_13 2439) - 1)) 1670 ((I_13 1670) + 1)), A63, B_13, C_13, rfl, ⟨by omega, by omega⟩, hR62a, (show c_fi c_ps I (w_up (w_up (w_up (w_up (w_up (w_up I_13 2436 ((I_13 2436) + 1)) 2441 (zt49)) 2437 (zk50)) 2438 (zv51)) 2439 ((I_13 2439) - 1)) 1670 ((I_13 1670) + 1)) by exact (c_fi_up (c_fi_up (c_fi_up (c_fi_up (c_fi_up (c_fi_up hi13_0 rfl) rfl) rfl) rfl) rfl) rfl)), (show c_fa c_pa A A63 by exact (c_fa_trans hi13_1 f65)), (show (0 ≤ (I_13 2436) + 1 ∧ (I_13 2436) + 1 ≤ (I_13 773) ∧ (zk50 = 0 ∨ (I_13 2436) + 1 < (I_13 773))) ∧ ((I_13 773) = (I 773) ∧ (I_13 2439) - 1 = (I 2439) ∧ 0 ≤ (I_13 2117)) ∧ (I 2436) + 1 ≤ (I_13 2436) + 1 ∧ ((I_13 1670) + 1) + 1 ≤ (I 1670) + 2 * (((I_13 2436) + 1) - (I 2436)) ∧ (I 1670) ≤ (I_13 1670) + 1 by (repeat' apply And.intro) <;> first | assumption | omega), (show c_agl A A63 (I 1670) by exact g68), (show c_Wn A63 (c_r (I 2439) 1) (I_13 1670) (I 1670) ((I_13 1670) + 1) by exact c_Wn_win (c_Wn_up k67 (show c_r (I 2439) 1 ≤ c_r (I 2439) 1 by unfold c_r; omega)) (show (I 1670) ≤ (I 1670) by omega) (show ((I_13 1670) + 1) ≤ ((I_13 1670) + 1) by omega))⟩
            · rw [e56]
              replace hR48b : w_Rep w_TC fr X (u + 6) (l + 64) I48b A48b B48b C48b M47 := hR48b
              replace f57 : c_fi c_ps I_13 I48b := f57
              replace f58 : c_fa c_pa A_13 A48b := f58
              replace f59 : M47.1[t55]? = some (.inr (11, [])) := f59
              exact Or.inr (⟨t55, I48b, A48b, B48b, C48b, rfl, hR48b, (show c_fi c_ps I I48b by exact (c_fi_trans hi13_0 f57)), (show c_fa c_pa A A48b by exact (c_fa_trans hi13_1 f58)), (show M47.1[t55]? = some (.inr (11, [])) by exact f59)⟩)
          · have h45 : ¬ (y13_3 > 33) := h45
            show w_W _ _ _ (19, [(0, .ref 38), (1, .int (Int32.ofInt (v18))), (2, .int (Int32.ofInt (y13_2))), (3, .int (Int32.ofInt (y13_3)))], [], M_13) _
            refine w_adv (n := 1) (F' := (20, [(0, .ref 38), (1, .int (Int32.ofInt (v18))), (2, .int (Int32.ofInt (y13_2))), (3, .int (Int32.ofInt (y13_3)))], [.ref 38], M_13)) rfl ?_
            refine w_gf (v := .int (Int32.ofInt ((I_13 2437)))) hR_13 rfl rfl rfl rfl ?_
            obtain ⟨r69, r70⟩ : -2147483648 ≤ (I_13 2437) ∧ (I_13 2437) ≤ 2147483647 := hR_13.ri 2437
            refine w_adv (n := 1) (F' := (25, [(0, .ref 38), (1, .int (Int32.ofInt (v18))), (2, .int (Int32.ofInt (y13_2))), (3, .int (Int32.ofInt (y13_3)))], [.int (Int32.ofInt (8)), .int (Int32.ofInt ((I_13 2437)))], M_13)) rfl ?_
            refine w_br2 (a := (I_13 2437)) (b := 8) rfl rfl ⟨by omega, by omega⟩ ⟨by omega, by omega⟩ (fun h71 => ?_) (fun h71 => ?_)
            · have h71 : (I_13 2437) = 8 := h71
              show w_W _ _ _ (57, [(0, .ref 38), (1, .int (Int32.ofInt (v18))), (2, .int (Int32.ofInt (y13_2))), (3, .int (Int32.ofInt (y13_3)))], [], M_13) _
              refine w_adv (n := 2) (F' := (60, [(0, .ref 38), (1, .int (Int32.ofInt (v18))), (2, .int (Int32.ofInt (y13_2))), (3, .int (Int32.ofInt (y13_3)))], [.int (Int32.ofInt (8)), .ref 38], M_13)) rfl ?_
              refine w_call (cm := 113) (as := [(0, .ref 38), (1, .int (Int32.ofInt (8)))]) (rest := []) (o := some (4, 38)) rfl (w_fitR hR_13 rfl) (c_close (8) hR_13 (show 4 ≤ d by omega) ⟨by omega, by omega⟩ (show l ≤ 7000000 by first | assumption | omega) (show -1 ≤ (I_13 2436) ∧ ((I_13 2437) = 0 ∨ (I_13 2436) < (I_13 773)) ∧ (I_13 773) ≤ 1501 ∧ 1 ≤ 8 by first | assumption | omega) (show 0 ≤ (I_13 2439) ∧ (I_13 2439) ≤ 24 by first | assumption | omega)) (fun r72 M73 q74 => ?_)
              rcases q74 with ⟨zt75, zk76, zv77, e78, hR74a, f79, f80⟩ | ⟨t81, I74b, A74b, B74b, C74b, e82, hR74b, f83, f84, f85⟩
              · rw [e78]
                replace hR74a : w_Rep w_TC fr X u l (w_up (w_up (w_up (w_up (w_up I_13 2436 ((I_13 2436) + 1)) 2441 (zt75)) 2437 (zk76)) 2438 (zv77)) 2439 ((I_13 2439) - 1)) A_13 B_13 C_13 M73 := hR74a
                replace f79 : ((I_13 2436) + 1 < (I_13 773) ∨ zk76 = 0) := f79
                replace f80 : (I_13 2437) = 8 := f80
                show w_W _ _ _ (63, [(0, .ref 38), (1, .int (Int32.ofInt (v18))), (2, .int (Int32.ofInt (y13_2))), (3, .int (Int32.ofInt (y13_3)))], [], M73) _
                refine w_adv (n := 1) (F' := (64, [(0, .ref 38), (1, .int (Int32.ofInt (v18))), (2, .int (Int32.ofInt (y13_2))), (3, .int (Int32.ofInt (y13_3)))], [.ref 38], M73)) rfl ?_
                refine w_gf (v := .ref 26) hR74a rfl rfl rfl rfl ?_
                refine w_adv (n := 4) (F' := (72, [(0, .ref 38), (1, .int (Int32.ofInt (v18))), (2, .int (Int32.ofInt (y13_2))), (3, .int (Int32.ofInt (y13_3)))], [.int (Int32.ofInt ((-1))), .int (Int32.ofInt ((-1))), .int (Int32.ofInt (v18)), .int (Int32.ofInt (10)), .ref 26], M73)) rfl ?_
                refine w_call (cm := 94) (as := [(0, .ref 26), (1, .int (Int32.ofInt (10))), (2, .int (Int32.ofInt (v18))), (3, .int (Int32.ofInt ((-1)))), (4, .int (Int32.ofInt ((-1))))]) (rest := []) (o := some (8, 26)) rfl (w_fitR hR74a rfl) (c_mkn (10) (v18) ((-1)) ((-1)) hR74a (show 2 ≤ d by omega) ⟨by omega, by omega⟩ ⟨by omega, by omega⟩ ⟨by omega, by omega⟩ ⟨by omega, by omega⟩ (show 0 ≤ (I_13 1670) ∧ (I_13 1670) < 3016 by first | assumption | omega)) (fun r86 M87 q88 => ?_)
                rcases q88 with ⟨A89, e90, hR88a, f91, f92⟩
                rw [e90]
                replace hR88a : w_Rep w_TC fr X u l (w_up (w_up (w_up (w_up (w_up (w_up I_13 2436 ((I_13 2436) + 1)) 2441 (zt75)) 2437 (zk76)) 2438 (zv77)) 2439 ((I_13 2439) - 1)) 1670 ((I_13 1670) + 1)) A89 B_13 C_13 M87 := hR88a
                replace f91 : c_fa c_pa A_13 A89 := f91
                replace f92 : c_mk A_13 A89 (I_13 1670) 10 v18 (-1) (-1) := f92
                have k93 : c_Wn A89 (c_r (I 2439) 1) (I_13 1670) (I 1670) ((I_13 1670) + 1) := c_Wn_up ⟨c_W_10 f92 (show 0 ≤ (I 1670) by omega) (c_Ch_wide (fun _ _ => c_P0_win) (c_Chq_end hi13_4) (show (I 1670) ≤ (I 1670) by omega) (show (I_13 1670) ≤ (I_13 1670) by omega)), f92.2.2.2.2.2⟩ (show (c_r (I 2439) 0) + 1 ≤ (c_r (I 2439) 1) by unfold c_r; omega)
                have g94 : c_agl A A89 (I 1670) := c_agl_trans hi13_3 f92.1 (show (I 1670) ≤ (I_13 1670) by omega)
                show w_W _ _ _ (75, [(0, .ref 38), (1, .int (Int32.ofInt (v18))), (2, .int (Int32.ofInt (y13_2))), (3, .int (Int32.ofInt (y13_3)))], [.int (Int32.ofInt ((I_13 1670)))], M87) _
                refine w_fin (r := .inl (some ((I_13 1670)))) (M' := M87) rfl ?_
                exact Or.inl ⟨(I_13 1670), (w_up (w_up (w_up (w_up (w_up (w_up I_13 2436 ((I_13 2436) + 1)) 2441 (zt75)) 2437 (zk76)) 2438 (zv77)) 2439 ((I_13 2439) - 1)) 1670 ((I_13 1670) + 1)), A89, B_13, C_13, rfl, ⟨by omega, by omega⟩, hR88a, (show c_fi c_ps I (w_up (w_up (w_up (w_up (w_up (w_up I_13 2436 ((I_13 2436) + 1)) 2441 (zt75)) 2437 (zk76)) 2438 (zv77)) 2439 ((I_13 2439) - 1)) 1670 ((I_13 1670) + 1)) by exact (c_fi_up (c_fi_up (c_fi_up (c_fi_up (c_fi_up (c_fi_up hi13_0 rfl) rfl) rfl) rfl) rfl) rfl)), (show c_fa c_pa A A89 by exact (c_fa_trans hi13_1 f91)), (show (0 ≤ (I_13 2436) + 1 ∧ (I_13 2436) + 1 ≤ (I_13 773) ∧ (zk76 = 0 ∨ (I_13 2436) + 1 < (I_13 773))) ∧ ((I_13 773) = (I 773) ∧ (I_13 2439) - 1 = (I 2439) ∧ 0 ≤ (I_13 2117)) ∧ (I 2436) + 1 ≤ (I_13 2436) + 1 ∧ ((I_13 1670) + 1) + 1 ≤ (I 1670) + 2 * (((I_13 2436) + 1) - (I 2436)) ∧ (I 1670) ≤ (I_13 1670) + 1 by (repeat' apply And.intro) <;> first | assumption | omega), (show c_agl A A89 (I 1670) by exact g94), (show c_Wn A89 (c_r (I 2439) 1) (I_13 1670) (I 1670) ((I_13 1670) + 1) by exact c_Wn_win (c_Wn_up k93 (show c_r (I 2439) 1 ≤ c_r (I 2439) 1 by unfold c_r; omega)) (show (I 1670) ≤ (I 1670) by omega) (show ((I_13 1670) + 1) ≤ ((I_13 1670) + 1) by omega))⟩
              · rw [e82]
                replace hR74b : w_Rep w_TC fr X (u + 6) (l + 64) I74b A74b B74b C74b M73 := hR74b
                replace f83 : c_fi c_ps I_13 I74b := f83
                replace f84 : c_fa c_pa A_13 A74b := f84
                replace f85 : M73.1[t81]? = some (.inr (11, [])) := f85
                exact Or.inr (⟨t81, I74b, A74b, B74b, C74b, rfl, hR74b, (show c_fi c_ps I I74b by exact (c_fi_trans hi13_0 f83)), (show c_fa c_pa A A74b by exact (c_fa_trans hi13_1 f84)), (show M73.1[t81]? = some (.inr (11, [])) by exact f85)⟩)
            · have h71 : ¬ ((I_13 2437) = 8) := h71
              show w_W _ _ _ (28, [(0, .ref 38), (1, .int (Int32.ofInt (v18))), (2, .int (Int32.ofInt (y13_2))), (3, .int (Int32.ofInt (y13_3)))], [], M_13) _
              refine w_adv (n := 2) (F' := (31, [(0, .ref 38), (1, .int (Int32.ofInt (v18))), (2, .int (Int32.ofInt (y13_2))), (3, .int (Int32.ofInt (y13_3)))], [.int (Int32.ofInt (32)), .int (Int32.ofInt (y13_3))], M_13)) rfl ?_
              refine w_br2 (a := y13_3) (b := 32) rfl rfl ⟨by omega, by omega⟩ ⟨by omega, by omega⟩ (fun h95 => ?_) (fun h95 => ?_)
              · have h95 : y13_3 ≤ 32 := h95
                show w_W _ _ _ (38, [(0, .ref 38), (1, .int (Int32.ofInt (v18))), (2, .int (Int32.ofInt (y13_2))), (3, .int (Int32.ofInt (y13_3)))], [], M_13) _
                refine w_adv (n := 1) (F' := (39, [(0, .ref 38), (1, .int (Int32.ofInt (v18))), (2, .int (Int32.ofInt (y13_2))), (3, .int (Int32.ofInt (y13_3)))], [.ref 38], M_13)) rfl ?_
                refine w_gf (v := .ref 26) hR_13 rfl rfl rfl rfl ?_
                refine w_adv (n := 2) (F' := (44, [(0, .ref 38), (1, .int (Int32.ofInt (v18))), (2, .int (Int32.ofInt (y13_2))), (3, .int (Int32.ofInt (y13_3)))], [.ref 38, .int (Int32.ofInt (y13_2)), .ref 26], M_13)) rfl ?_
                refine w_call (cm := 89) (as := [(0, .ref 38)]) (rest := [.int (Int32.ofInt (y13_2)), .ref 26]) (o := some (4, 38)) rfl (w_fitR hR_13 rfl) ((hA d (Nat.lt_succ_self d)).1 hR_13 (show 10 * (24 - (I_13 2439)) + 13 ≤ (d : Int) by omega) (show l ≤ 7000000 by first | assumption | omega) (show (0 ≤ (I_13 2436) ∧ (I_13 2436) ≤ (I_13 773) ∧ (I_13 773) ≤ 1501 ∧ ((I_13 2437) = 0 ∨ (I_13 2436) < (I_13 773))) ∧ (0 ≤ (I_13 2439) ∧ (I_13 2439) ≤ 24 ∧ 0 ≤ (I_13 2117)) ∧ 0 ≤ (I_13 1670) ∧ (I_13 1670) ≤ 2 * (I_13 2436) + 1 by (repeat' apply And.intro) <;> first | assumption | omega)) (fun r96 M97 q98 => ?_)
                rcases q98 with ⟨v99, I98a, A98a, B98a, C98a, e100, ⟨r101, r102⟩, hR98a, f103, f104, f105, f106, f107⟩ | ⟨t108, I98b, A98b, B98b, C98b, e109, hR98b, f110, f111, f112⟩
                · rw [e100]
                  replace hR98a : w_Rep w_TC fr X u l I98a A98a B98a C98a M97 := hR98a
                  replace f103 : c_fi c_ps I_13 I98a := f103
                  replace f104 : c_fa c_pa A_13 A98a := f104
                  replace f105 : (0 ≤ (I98a 2436) ∧ (I98a 2436) ≤ (I98a 773) ∧ ((I98a 2437) = 0 ∨ (I98a 2436) < (I98a 773))) ∧ ((I98a 773) = (I_13 773) ∧ (I98a 2439) = (I_13 2439) ∧ 0 ≤ (I98a 2117)) ∧ (I_13 2436) + 1 ≤ (I98a 2436) ∧ (I98a 1670) + 1 ≤ (I_13 1670) + 2 * ((I98a 2436) - (I_13 2436)) ∧ (I_13 1670) ≤ (I98a 1670) := f105
                  obtain ⟨⟨n113, n114, n115⟩, ⟨n116, n117, n118⟩, n119, n120, n121⟩ := id f105
                  clear f105
                  replace f106 : c_agl A_13 A98a (I_13 1670) := f106
                  replace f107 : c_Wn A98a (c_r (I_13 2439) 3) v99 (I_13 1670) (I98a 1670) := f107
                  have k122 : c_Chq c_P0 A98a (c_r (I 2439) 0) v18 y13_2 (I 1670) (I_13 1670) := c_Chq_agl c_P0_fam hi13_4 f106 (show 0 ≤ (I 1670) by omega) (show (I_13 1670) ≤ (I_13 1670) by omega)
                  clear hi13_4
                  have g123 : c_agl A A98a (I 1670) := c_agl_trans hi13_3 f106 (show (I 1670) ≤ (I_13 1670) by omega)
                  have k124 : c_Wn A98a (c_r (I 2439) 0) v99 (I_13 1670) (I98a 1670) := c_Wn_up f107 (show c_r (I_13 2439) 3 ≤ c_r (I 2439) 0 by unfold c_r; omega)
                  obtain ⟨b125, b126⟩ := c_W_in k124.1
                  show w_W _ _ _ (47, [(0, .ref 38), (1, .int (Int32.ofInt (v18))), (2, .int (Int32.ofInt (y13_2))), (3, .int (Int32.ofInt (y13_3)))], [.int (Int32.ofInt (v99)), .int (Int32.ofInt (y13_2)), .ref 26], M97) _
                  refine w_call (cm := 106) (as := [(0, .ref 26), (1, .int (Int32.ofInt (y13_2))), (2, .int (Int32.ofInt (v99)))]) (rest := []) (o := some (8, 26)) rfl (w_fitR hR98a rfl) (c_chn (y13_2) (v99) hR98a (show 2 ≤ d by omega) ⟨by omega, by omega⟩ ⟨by omega, by omega⟩) (fun r127 M128 q129 => ?_)
                  rcases q129 with ⟨A130, e131, hR129a, f132, f133⟩
                  rw [e131]
                  replace hR129a : w_Rep w_TC fr X u l I98a A130 B98a C98a M128 := hR129a
                  replace f132 : c_fa c_pa A98a A130 := f132
                  replace f133 : c_nxw A98a A130 y13_2 v99 := f133
                  have k134 : ∀ f', (v18 = -1 ∧ f' = v99 ∨ v18 ≠ -1 ∧ f' = v18) → c_Chq c_P0 A130 (c_r (I 2439) 0) f' v99 (I 1670) (I98a 1670) := c_Chq_app c_P0_fam k122 (show (I_13 1670) ≤ (I_13 1670) by omega) f133 (show 0 ≤ (I 1670) by omega) (show (I_13 1670) ≤ 3016 by omega) (show (I_13 1670) ≤ v99 ∧ v99 < (I98a 1670) by omega) k124.1 k124.2 c_P0_win
                  have g135 : c_agl A98a A130 (I 1670) := c_agl_nxw f133 (c_Chq_l k122)
                  have g136 : c_agl A A130 (I 1670) := c_agl_trans g123 g135 (show (I 1670) ≤ (I 1670) by omega)
                  show w_W _ _ _ (50, [(0, .ref 38), (1, .int (Int32.ofInt (v18))), (2, .int (Int32.ofInt (y13_2))), (3, .int (Int32.ofInt (y13_3)))], [.int (Int32.ofInt (v99))], M128) _
                  refine w_adv (n := 1) (F' := (51, [(2, .int (Int32.ofInt (v99))), (0, .ref 38), (1, .int (Int32.ofInt (v18))), (3, .int (Int32.ofInt (y13_3)))], [], M128)) rfl ?_
                  refine w_inc (nL := 4) (a := y13_3) rfl rfl rfl (by decide) ?_
                  refine w_adv (n := 1) (F' := (13, [(3, .int (Int32.ofInt (y13_3 + 1))), (2, .int (Int32.ofInt (v99))), (0, .ref 38), (1, .int (Int32.ofInt (v18)))], [], M128)) rfl ?_
                  refine w_ls (ls := [(0, .ref 38), (1, .int (Int32.ofInt (v18))), (2, .int (Int32.ofInt (v99))), (3, .int (Int32.ofInt (y13_3 + 1)))]) (show List.Nodup [0, 1, 2, 3] by decide) (show List.Nodup [3, 2, 0, 1] by decide) (List.forall_mem_cons.mpr ⟨(List.Mem.tail _ (List.Mem.tail _ (List.Mem.head _))), (List.forall_mem_cons.mpr ⟨(List.Mem.tail _ (List.Mem.tail _ (List.Mem.tail _ (List.Mem.head _)))), (List.forall_mem_cons.mpr ⟨(List.Mem.tail _ (List.Mem.head _)), (List.forall_mem_cons.mpr ⟨(List.Mem.head _), (fun _ h => by cases h)⟩)⟩)⟩)⟩) ?_
                  exact ih13  (v99) (y13_3 + 1) I98a A130 B98a C98a M128 hR129a ⟨by omega, by omega⟩ ⟨by omega, by omega⟩ (show c_fi c_ps I I98a by exact (c_fi_trans hi13_0 f103)) (show c_fa c_pa A A130 by exact (c_fa_trans (c_fa_trans hi13_1 f104) f132)) (show (0 ≤ (I98a 2436) ∧ (I98a 2436) ≤ (I98a 773) ∧ ((I98a 2437) = 0 ∨ (I98a 2436) < (I98a 773))) ∧ ((I98a 773) = (I 773) ∧ (I98a 2439) = (I 2439) + 1 ∧ 0 ≤ (I98a 2117)) ∧ (I 2436) + 1 ≤ (I98a 2436) ∧ (I98a 1670) + 2 ≤ (I 1670) + 2 * ((I98a 2436) - (I 2436)) ∧ (I 1670) ≤ (I98a 1670) by (repeat' apply And.intro) <;> first | assumption | omega) (show c_agl A A130 (I 1670) by exact g136) (show c_Chq c_P0 A130 (c_r (I 2439) 0) v18 v99 (I 1670) (I98a 1670) by exact k134 _ (by omega)) (show 1 ≤ (y13_3 + 1) ∧ (y13_3 + 1) ≤ 34 by omega) (show 34 - (y13_3 + 1) < (fu13 : Int) by omega)
                · rw [e109]
                  replace hR98b : w_Rep w_TC fr X (u + 6) (l + 64) I98b A98b B98b C98b M97 := hR98b
                  replace f110 : c_fi c_ps I_13 I98b := f110
                  replace f111 : c_fa c_pa A_13 A98b := f111
                  replace f112 : M97.1[t108]? = some (.inr (11, [])) := f112
                  exact Or.inr (⟨t108, I98b, A98b, B98b, C98b, rfl, hR98b, (show c_fi c_ps I I98b by exact (c_fi_trans hi13_0 f110)), (show c_fa c_pa A A98b by exact (c_fa_trans hi13_1 f111)), (show M97.1[t108]? = some (.inr (11, [])) by exact f112)⟩)
              · have h95 : ¬ (y13_3 ≤ 32) := h95
                show w_W _ _ _ (34, [(0, .ref 38), (1, .int (Int32.ofInt (v18))), (2, .int (Int32.ofInt (y13_2))), (3, .int (Int32.ofInt (y13_3)))], [], M_13) _
                refine w_adv (n := 1) (F' := (35, [(0, .ref 38), (1, .int (Int32.ofInt (v18))), (2, .int (Int32.ofInt (y13_2))), (3, .int (Int32.ofInt (y13_3)))], [.ref 38], M_13)) rfl ?_
                refine w_call (cm := 108) (as := [(0, .ref 38)]) (rest := []) (o := some (4, 38)) rfl (w_fitR hR_13 rfl) (c_refuseExp hR_13 (show 4 ≤ d by omega) (show l ≤ 7000000 by first | assumption | omega)) (fun r137 M138 q139 => ?_)
                rcases q139 with ⟨t140, I139a, A139a, B139a, C139a, e141, hR139a, f142, f143, f144⟩
                rw [e141]
                replace hR139a : w_Rep w_TC fr X (u + 6) (l + 64) I139a A139a B139a C139a M138 := hR139a
                replace f142 : c_fi c_ps I_13 I139a := f142
                replace f143 : c_fa c_pa A_13 A139a := f143
                replace f144 : M138.1[t140]? = some (.inr (11, [])) := f144
                exact Or.inr (⟨t140, I139a, A139a, B139a, C139a, rfl, hR139a, (show c_fi c_ps I I139a by exact (c_fi_trans hi13_0 f142)), (show c_fa c_pa A A139a by exact (c_fa_trans hi13_1 f143)), (show M138.1[t140]? = some (.inr (11, [])) by exact f144)⟩)
      refine w_ls (ls := [(0, .ref 38), (1, .int (Int32.ofInt (v18))), (2, .int (Int32.ofInt (v18))), (3, .int (Int32.ofInt (1)))]) (show List.Nodup [0, 1, 2, 3] by decide) (show List.Nodup [3, 2, 1, 0] by decide) (List.forall_mem_cons.mpr ⟨(List.Mem.tail _ (List.Mem.tail _ (List.Mem.tail _ (List.Mem.head _)))), (List.forall_mem_cons.mpr ⟨(List.Mem.tail _ (List.Mem.tail _ (List.Mem.head _))), (List.forall_mem_cons.mpr ⟨(List.Mem.tail _ (List.Mem.head _)), (List.forall_mem_cons.mpr ⟨(List.Mem.head _), (fun _ h => by cases h)⟩)⟩)⟩)⟩) ?_
      exact lp13 ((34 - 1 : Int).toNat + 1)  (v18) (1) I17a A17a B17a C17a M16 hR17a ⟨by omega, by omega⟩ ⟨by omega, by omega⟩ (show c_fi c_ps I I17a by exact (c_fi_trans (c_fi_up (c_fi_up (c_fi_up (c_fi_up (c_fi_up c_fi_refl rfl) rfl) rfl) rfl) rfl) f22)) (show c_fa c_pa A A17a by exact f23) (show (0 ≤ (I17a 2436) ∧ (I17a 2436) ≤ (I17a 773) ∧ ((I17a 2437) = 0 ∨ (I17a 2436) < (I17a 773))) ∧ ((I17a 773) = (I 773) ∧ (I17a 2439) = (I 2439) + 1 ∧ 0 ≤ (I17a 2117)) ∧ (I 2436) + 1 ≤ (I17a 2436) ∧ (I17a 1670) + 2 ≤ (I 1670) + 2 * ((I17a 2436) - (I 2436)) ∧ (I 1670) ≤ (I17a 1670) by (repeat' apply And.intro) <;> first | assumption | omega) (show c_agl A A17a (I 1670) by exact g41) (show c_Chq c_P0 A17a (c_r (I 2439) 0) v18 v18 (I 1670) (I17a 1670) by exact c_Chq_one k42 (show 0 ≤ (I 1670) by omega)) (show 1 ≤ (1 : Int) ∧ (1 : Int) ≤ 34 by omega) (show 34 - 1 < (((34 - 1 : Int).toNat + 1 : Nat) : Int) by omega)
    · rw [e28]
      replace hR17b : w_Rep w_TC fr X (u + 6) (l + 64) I17b A17b B17b C17b M16 := hR17b
      replace f29 : c_fi c_ps (w_up (w_up (w_up (w_up (w_up I 2436 ((I 2436) + 1)) 2441 (zt4)) 2437 (zk5)) 2438 (zv6)) 2439 ((I 2439) + 1)) I17b := f29
      replace f30 : c_fa c_pa A A17b := f30
      replace f31 : M16.1[t27]? = some (.inr (11, [])) := f31
      exact Or.inr (⟨t27, I17b, A17b, B17b, C17b, rfl, hR17b, (show c_fi c_ps I I17b by exact (c_fi_trans (c_fi_up (c_fi_up (c_fi_up (c_fi_up (c_fi_up c_fi_refl rfl) rfl) rfl) rfl) rfl) f29)), (show c_fa c_pa A A17b by exact f30), (show M16.1[t27]? = some (.inr (11, [])) by exact f31)⟩)
  · rw [e11]
    replace hR3b : w_Rep w_TC fr X (u + 6) (l + 64) I3b A3b B3b C3b M2 := hR3b
    replace f12 : c_fi c_ps I I3b := f12
    replace f13 : c_fa c_pa A A3b := f13
    replace f14 : M2.1[t10]? = some (.inr (11, [])) := f14
    exact Or.inr (⟨t10, I3b, A3b, B3b, C3b, rfl, hR3b, (show c_fi c_ps I I3b by exact f12), (show c_fa c_pa A A3b by exact f13), (show M2.1[t10]? = some (.inr (11, [])) by exact f14)⟩)
