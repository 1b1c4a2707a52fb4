/-! PARSER of the class: slots, patterns. -/
def c_slots_Q (fr : Nat → Bool) (X : Nat → Option (q_C (Nat → Int32))) (u l : Nat) (I : Nat → Int) (A : Nat → Int → Int) (B C : Nat → Nat) (M : w_M) : w_X → w_M → Prop := fun r M' => (∃ v : Int, ∃ (I' : Nat → Int) (A' : Nat → Int → Int) (B' C' : Nat → Nat), (r = .inl (some v)) ∧ (w_in v) ∧ (w_Rep w_TC fr X u l I' A' B' C' M') ∧ (c_fi c_ps I I') ∧ (c_fa c_pa A A') ∧ ((0 ≤ (I' 2436) ∧ (I' 2436) ≤ (I' 773) ∧ ((I' 2437) = 0 ∨ (I' 2436) < (I' 773))) ∧ ((I' 773) = (I 773) ∧ (I' 2439) = (I 2439) ∧ 0 ≤ (I' 2117)) ∧ (I 2436) + 2 ≤ (I' 2436) ∧ (I' 1670) + 0 ≤ (I 1670) + 2 * ((I' 2436) - (I 2436)) ∧ (I 1670) ≤ (I' 1670)) ∧ (c_agl A A' (I 1670))) ∨ (∃ t : Nat, ∃ (I' : Nat → Int) (A' : Nat → Int → Int) (B' C' : Nat → Nat), (r = .inr t) ∧ (w_Rep w_TC fr X (u + 6) (l + 64) I' A' B' C' M') ∧ (c_fi c_ps I I') ∧ (c_fa c_pa A A') ∧ (M'.1[None]? = some (.inr (11, []))))
set_option maxHeartbeats 100000000 in
set_option maxRecDepth 100000 in
theorem c_slots {L : Nat} {xs : Nat → Int32} {d : Nat} {fr : Nat → Bool} {X : Nat → Option (q_C (Nat → Int32))} {u l : Nat} {I : Nat → Int} {A : Nat → Int → Int} {B C : Nat → Nat} {M : w_M} (hR : w_Rep w_TC fr X u l I A B C M) (hd : 6 ≤ d) (hl : l ≤ 100000) (hNU : (0 ≤ (I 2436) ∧ (I 2436) ≤ (I 773) ∧ (I 773) ≤ 1501 ∧ ((I 2437) = 0 ∨ (I 2436) < (I 773))) ∧ (0 ≤ (I 2439) ∧ (I 2439) ≤ 24 ∧ 0 ≤ (I 2117)) ∧ 0 ≤ (I 1670) ∧ (I 1670) ≤ 2 * (I 2436) + 1) (hk0 : ¬ (I 2437) = 0) : w_W (z_P L xs) d 127 (0, [(0, .ref 38)], [], M) (c_slots_Q fr X u l I A B C M) := by
  obtain ⟨d, rfl⟩ : ∃ d0, d = d0 + 1 := ⟨d - 1, by omega⟩
  refine w_adv (n := 1) (F' := (1, [(0, .ref 38)], [.ref 38], M)) rfl ?_
  refine w_call (cm := 99) (as := [(0, .ref 38)]) (rest := []) (o := some (4, 38)) rfl (w_fitR hR rfl) (c_open hR (show 4 ≤ d by omega) (show l ≤ 100000 by first | assumption | omega) (show -1 ≤ (I 2436) ∧ (I 2436) < (I 773) ∧ (I 773) ≤ 1501 by first | assumption | omega) (show 0 ≤ (I 2439) ∧ (I 2439) ≤ 24 by first | assumption | omega)) (fun r1 M2 q3 => ?_)
  rcases q3 with ⟨zt4, zk5, zv6, e7, hR3a, f8, f9⟩ | ⟨t10, I3b, A3b, B3b, C3b, e11, hR3b, f12, f13, f14⟩
  · rw [e7]
    replace hR3a : w_Rep w_TC fr X u l (w_up (w_up (w_up (w_up (w_up I 2436 ((I 2436) + 1)) 2441 (zt4)) 2437 (zk5)) 2438 (zv6)) 2439 ((I 2439) + 1)) A B C M2 := hR3a
    replace f8 : ((I 2436) + 1 < (I 773) ∨ zk5 = 0) := f8
    replace f9 : (I 2439) < 24 := f9
    show w_W _ _ _ (4, [(0, .ref 38)], [], M2) _
    refine w_adv (n := 1) (F' := (5, [(0, .ref 38)], [.ref 38], M2)) rfl ?_
    refine w_gf (v := .int (Int32.ofInt (zk5))) hR3a rfl rfl rfl rfl ?_
    obtain ⟨r15, r16⟩ : -2147483648 ≤ zk5 ∧ zk5 ≤ 2147483647 := hR3a.ri 2437
    refine w_call (cm := 101) (as := [(0, .int (Int32.ofInt (zk5)))]) (rest := []) (o := none) rfl (trivial) (c_isFeature (zk5) hR3a ⟨by omega, by omega⟩) (fun r17 M18 q19 => ?_)
    rcases q19 with ⟨e20, e21, f22⟩ | ⟨e23, e24⟩
    · rw [e20, e21]
      replace f22 : ¬ zk5 = 0 := f22
      show w_W _ _ _ (11, [(0, .ref 38)], [.int (Int32.ofInt (1))], M2) _
      refine w_adv (n := 2) (F' := (13, [(1, .int (Int32.ofInt (1))), (0, .ref 38)], [.ref 38], M2)) rfl ?_
      refine w_gf (v := .ref 33) hR3a rfl rfl rfl rfl ?_
      refine w_call (cm := 118) (as := [(0, .ref 33)]) (rest := []) (o := some (5, 33)) rfl (w_fitR hR3a rfl) (c_snext hR3a) (fun r25 M26 q27 => ?_)
      rcases q27 with ⟨e28, e29⟩
      rw [e28, e29]
      show w_W _ _ _ (19, [(1, .int (Int32.ofInt (1))), (0, .ref 38)], [.int (Int32.ofInt ((I 2117)))], M2) _
      refine w_adv (n := 7) (F' := (28, [(5, .int (Int32.ofInt (1))), (4, .int (Int32.ofInt ((-1)))), (3, .int (Int32.ofInt ((-1)))), (2, .int (Int32.ofInt ((I 2117)))), (1, .int (Int32.ofInt (1))), (0, .ref 38)], [], M2)) rfl ?_
      have lp28 : ∀ fu28 : Nat, ∀ (y28_3 : Int) (y28_4 : Int) (y28_5 : Int) (I_28 : Nat → Int) (A_28 : Nat → Int → Int) (B_28 C_28 : Nat → Nat) (M_28 : w_M) (hR_28 : w_Rep w_TC fr X u l I_28 A_28 B_28 C_28 M_28), w_in y28_3 → w_in y28_4 → w_in y28_5 → c_fi c_ps I I_28 → c_fa c_pa A A_28 → (0 ≤ (I_28 2436) ∧ (I_28 2436) ≤ (I_28 773) ∧ ((I_28 2437) = 0 ∨ (I_28 2436) < (I_28 773))) ∧ ((I_28 773) = (I 773) ∧ (I_28 2439) = (I 2439) + 1 ∧ 0 ≤ (I_28 2117)) ∧ (I 2436) + 1 ≤ (I_28 2436) ∧ (I_28 1670) + 2 ≤ (I 1670) + 2 * ((I_28 2436) - (I 2436)) ∧ (I 1670) ≤ (I_28 1670) → c_agl A A_28 (I 1670) → 1 ≤ y28_5 ∧ y28_5 ≤ 34 → y28_4 = -1 ∨ (I 1670) ≤ y28_4 → 34 - y28_5 < (fu28 : Int) → w_W (z_P L xs) (d + 1) 127 (28, [(0, .ref 38), (1, .int (Int32.ofInt (1))), (2, .int (Int32.ofInt ((I 2117)))), (3, .int (Int32.ofInt (y28_3))), (4, .int (Int32.ofInt (y28_4))), (5, .int (Int32.ofInt (y28_5)))], [], M_28) (c_slots_Q fr X u l I A B C M) := by
        intro fu28
        induction fu28 with
        | zero =>
          intro y28_3 y28_4 y28_5 I_28 A_28 B_28 C_28 M_28 hR_28 ⟨ra_y28_3, rb_y28_3⟩ ⟨ra_y28_4, rb_y28_4⟩ ⟨ra_y28_5, rb_y28_5⟩ hi28_0 hi28_1 hi28_2 hi28_3 hi28_4 hi28_5 hn28
          exfalso
          omega
        | succ fu28 ih28 =>
          intro y28_3 y28_4 y28_5 I_28 A_28 B_28 C_28 M_28 hR_28 ⟨ra_y28_3, rb_y28_3⟩ ⟨ra_y28_4, rb_y28_4⟩ ⟨ra_y28_5, rb_y28_5⟩ hi28_0 hi28_1 hi28_2 hi28_3 hi28_4 hi28_5 hn28
          refine w_adv (n := 2) (F' := (32, [(0, .ref 38), (1, .int (Int32.ofInt (1))), (2, .int (Int32.ofInt ((I 2117)))), (3, .int (Int32.ofInt (y28_3))), (4, .int (Int32.ofInt (y28_4))), (5, .int (Int32.ofInt (y28_5)))], [.int (Int32.ofInt (33)), .int (Int32.ofInt (y28_5))], M_28)) rfl ?_
          refine w_br2 (a := y28_5) (b := 33) rfl rfl ⟨by omega, by omega⟩ ⟨by omega, by omega⟩ (fun h30 => ?_) (fun h30 => ?_)
          · have h30 : y28_5 > 33 := h30
            show w_W _ _ _ (109, [(0, .ref 38), (1, .int (Int32.ofInt (1))), (2, .int (Int32.ofInt ((I 2117)))), (3, .int (Int32.ofInt (y28_3))), (4, .int (Int32.ofInt (y28_4))), (5, .int (Int32.ofInt (y28_5)))], [], M_28) _
            refine w_adv (n := 2) (F' := (112, [(0, .ref 38), (1, .int (Int32.ofInt (1))), (2, .int (Int32.ofInt ((I 2117)))), (3, .int (Int32.ofInt (y28_3))), (4, .int (Int32.ofInt (y28_4))), (5, .int (Int32.ofInt (y28_5)))], [.int (Int32.ofInt (6)), .ref 38], M_28)) rfl ?_
            refine w_call (cm := 113) (as := [(0, .ref 38), (1, .int (Int32.ofInt (6)))]) (rest := []) (o := some (4, 38)) rfl (w_fitR hR_28 rfl) (c_close (6) hR_28 (show 4 ≤ d by omega) ⟨by omega, by omega⟩ (show l ≤ 100000 by first | assumption | omega) (show -1 ≤ (I_28 2436) ∧ ((I_28 2437) = 0 ∨ (I_28 2436) < (I_28 773)) ∧ (I_28 773) ≤ 1501 ∧ 1 ≤ 6 by first | assumption | omega) (show 0 ≤ (I_28 2439) ∧ (I_28 2439) ≤ 24 by first | assumption | omega)) (fun r31 M32 q33 => ?_)
            rcases q33 with ⟨zt34, zk35, zv36, e37, hR33a, f38, f39⟩ | ⟨t40, I33b, A33b, B33b, C33b, e41, hR33b, f42, f43, f44⟩
            · rw [e37]
              replace hR33a : w_Rep w_TC fr X u l (w_up (w_up (w_up (w_up (w_up I_28 2436 ((I_28 2436) + 1)) 2441 (zt34)) 2437 (zk35)) 2438 (zv36)) 2439 ((I_28 2439) - 1)) A_28 B_28 C_28 M32 := hR33a
              replace f38 : ((I_28 2436) + 1 < (I_28 773) ∨ zk35 = 0) := f38
              replace f39 : (I_28 2437) = 6 := f39
              show w_W _ _ _ (115, [(0, .ref 38), (1, .int (Int32.ofInt (1))), (2, .int (Int32.ofInt ((I 2117)))), (3, .int (Int32.ofInt (y28_3))), (4, .int (Int32.ofInt (y28_4))), (5, .int (Int32.ofInt (y28_5)))], [], M32) _
              refine w_adv (n := 1) (F' := (116, [(0, .ref 38), (1, .int (Int32.ofInt (1))), (2, .int (Int32.ofInt ((I 2117)))), (3, .int (Int32.ofInt (y28_3))), (4, .int (Int32.ofInt (y28_4))), (5, .int (Int32.ofInt (y28_5)))], [.int (Int32.ofInt (y28_3))], M32)) rfl ?_
              refine w_fin (r := .inl (some (y28_3))) (M' := M32) rfl ?_
              exact Or.inl ⟨y28_3, (w_up (w_up (w_up (w_up (w_up I_28 2436 ((I_28 2436) + 1)) 2441 (zt34)) 2437 (zk35)) 2438 (zv36)) 2439 ((I_28 2439) - 1)), A_28, B_28, C_28, rfl, ⟨by omega, by omega⟩, hR33a, (show c_fi c_ps I (w_up (w_up (w_up (w_up (w_up I_28 2436 ((I_28 2436) + 1)) 2441 (zt34)) 2437 (zk35)) 2438 (zv36)) 2439 ((I_28 2439) - 1)) by exact (c_fi_up (c_fi_up (c_fi_up (c_fi_up (c_fi_up hi28_0 rfl) rfl) rfl) rfl) rfl)), (show c_fa c_pa A A_28 by exact hi28_1), (show (0 ≤ (I_28 2436) + 1 ∧ (I_28 2436) + 1 ≤ (I_28 773) ∧ (zk35 = 0 ∨ (I_28 2436) + 1 < (I_28 773))) ∧ ((I_28 773) = (I 773) ∧ (I_28 2439) - 1 = (I 2439) ∧ 0 ≤ (I_28 2117)) ∧ (I 2436) + 2 ≤ (I_28 2436) + 1 ∧ (I_28 1670) + 0 ≤ (I 1670) + 2 * (((I_28 2436) + 1) - (I 2436)) ∧ (I 1670) ≤ (I_28 1670) by (repeat' apply And.intro) <;> first | assumption | omega), (show c_agl A A_28 (I 1670) by exact hi28_3)⟩
            · rw [e41]
              replace hR33b : w_Rep w_TC fr X (u + 6) (l + 64) I33b A33b B33b C33b M32 := hR33b
              replace f42 : c_fi c_ps I_28 I33b := f42
              replace f43 : c_fa c_pa A_28 A33b := f43
              replace f44 : M32.1[t40]? = some (.inr (11, [])) := f44
              exact Or.inr (⟨t40, I33b, A33b, B33b, C33b, rfl, hR33b, (show c_fi c_ps I I33b by exact (c_fi_trans hi28_0 f42)), (show c_fa c_pa A A33b by exact (c_fa_trans hi28_1 f43)), (show M32.1[t40]? = some (.inr (11, [])) by exact f44)⟩)
          · have h30 : ¬ (y28_5 > 33) := h30
            show w_W _ _ _ (35, [(0, .ref 38), (1, .int (Int32.ofInt (1))), (2, .int (Int32.ofInt ((I 2117)))), (3, .int (Int32.ofInt (y28_3))), (4, .int (Int32.ofInt (y28_4))), (5, .int (Int32.ofInt (y28_5)))], [], M_28) _
            refine w_adv (n := 1) (F' := (36, [(0, .ref 38), (1, .int (Int32.ofInt (1))), (2, .int (Int32.ofInt ((I 2117)))), (3, .int (Int32.ofInt (y28_3))), (4, .int (Int32.ofInt (y28_4))), (5, .int (Int32.ofInt (y28_5)))], [.ref 38], M_28)) rfl ?_
            refine w_gf (v := .int (Int32.ofInt ((I_28 2437)))) hR_28 rfl rfl rfl rfl ?_
            obtain ⟨r45, r46⟩ : -2147483648 ≤ (I_28 2437) ∧ (I_28 2437) ≤ 2147483647 := hR_28.ri 2437
            refine w_adv (n := 1) (F' := (41, [(0, .ref 38), (1, .int (Int32.ofInt (1))), (2, .int (Int32.ofInt ((I 2117)))), (3, .int (Int32.ofInt (y28_3))), (4, .int (Int32.ofInt (y28_4))), (5, .int (Int32.ofInt (y28_5)))], [.int (Int32.ofInt (6)), .int (Int32.ofInt ((I_28 2437)))], M_28)) rfl ?_
            refine w_br2 (a := (I_28 2437)) (b := 6) rfl rfl ⟨by omega, by omega⟩ ⟨by omega, by omega⟩ (fun h47 => ?_) (fun h47 => ?_)
            · have h47 : (I_28 2437) = 6 := h47
              show w_W _ _ _ (109, [(0, .ref 38), (1, .int (Int32.ofInt (1))), (2, .int (Int32.ofInt ((I 2117)))), (3, .int (Int32.ofInt (y28_3))), (4, .int (Int32.ofInt (y28_4))), (5, .int (Int32.ofInt (y28_5)))], [], M_28) _
              refine w_adv (n := 2) (F' := (112, [(0, .ref 38), (1, .int (Int32.ofInt (1))), (2, .int (Int32.ofInt ((I 2117)))), (3, .int (Int32.ofInt (y28_3))), (4, .int (Int32.ofInt (y28_4))), (5, .int (Int32.ofInt (y28_5)))], [.int (Int32.ofInt (6)), .ref 38], M_28)) rfl ?_
              refine w_call (cm := 113) (as := [(0, .ref 38), (1, .int (Int32.ofInt (6)))]) (rest := []) (o := some (4, 38)) rfl (w_fitR hR_28 rfl) (c_close (6) hR_28 (show 4 ≤ d by omega) ⟨by omega, by omega⟩ (show l ≤ 100000 by first | assumption | omega) (show -1 ≤ (I_28 2436) ∧ ((I_28 2437) = 0 ∨ (I_28 2436) < (I_28 773)) ∧ (I_28 773) ≤ 1501 ∧ 1 ≤ 6 by first | assumption | omega) (show 0 ≤ (I_28 2439) ∧ (I_28 2439) ≤ 24 by first | assumption | omega)) (fun r48 M49 q50 => ?_)
              rcases q50 with ⟨zt51, zk52, zv53, e54, hR50a, f55, f56⟩ | ⟨t57, I50b, A50b, B50b, C50b, e58, hR50b, f59, f60, f61⟩
              · rw [e54]
                replace hR50a : w_Rep w_TC fr X u l (w_up (w_up (w_up (w_up (w_up I_28 2436 ((I_28 2436) + 1)) 2441 (zt51)) 2437 (zk52)) 2438 (zv53)) 2439 ((I_28 2439) - 1)) A_28 B_28 C_28 M49 := hR50a
                replace f55 : ((I_28 2436) + 1 < (I_28 773) ∨ zk52 = 0) := f55
                replace f56 : (I_28 2437) = 6 := f56
                show w_W _ _ _ (115, [(0, .ref 38), (1, .int (Int32.ofInt (1))), (2, .int (Int32.ofInt ((I 2117)))), (3, .int (Int32.ofInt (y28_3))), (4, .int (Int32.ofInt (y28_4))), (5, .int (Int32.ofInt (y28_5)))], [], M49) _
                refine w_adv (n := 1) (F' := (116, [(0, .ref 38), (1, .int (Int32.ofInt (1))), (2, .int (Int32.ofInt ((I 2117)))), (3, .int (Int32.ofInt (y28_3))), (4, .int (Int32.ofInt (y28_4))), (5, .int (Int32.ofInt (y28_5)))], [.int (Int32.ofInt (y28_3))], M49)) rfl ?_
                refine w_fin (r := .inl (some (y28_3))) (M' := M49) rfl ?_
                exact Or.inl ⟨y28_3, (w_up (w_up (w_up (w_up (w_up I_28 2436 ((I_28 2436) + 1)) 2441 (zt51)) 2437 (zk52)) 2438 (zv53)) 2439 ((I_28 2439) - 1)), A_28, B_28, C_28, rfl, ⟨by omega, by omega⟩, hR50a, (show c_fi c_ps I (w_up (w_up (w_up (w_up (w_up I_28 2436 ((I_28 2436) + 1)) 2441 (zt51)) 2437 (zk52)) 2438 (zv53)) 2439 ((I_28 2439) - 1)) by exact (c_fi_up (c_fi_up (c_fi_up (c_fi_up (c_fi_up hi28_0 rfl) rfl) rfl) rfl) rfl)), (show c_fa c_pa A A_28 by exact hi28_1), (show (0 ≤ (I_28 2436) + 1 ∧ (I_28 2436) + 1 ≤ (I_28 773) ∧ (zk52 = 0 ∨ (I_28 2436) + 1 < (I_28 773))) ∧ ((I_28 773) = (I 773) ∧ (I_28 2439) - 1 = (I 2439) ∧ 0 ≤ (I_28 2117)) ∧ (I 2436) + 2 ≤ (I_28 2436) + 1 ∧ (I_28 1670) + 0 ≤ (I 1670) + 2 * (((I_28 2436) + 1) - (I 2436)) ∧ (I 1670) ≤ (I_28 1670) by (repeat' apply And.intro) <;> first | assumption | omega), (show c_agl A A_28 (I 1670) by exact hi28_3)⟩
              · rw [e58]
                replace hR50b : w_Rep w_TC fr X (u + 6) (l + 64) I50b A50b B50b C50b M49 := hR50b
                replace f59 : c_fi c_ps I_28 I50b := f59
                replace f60 : c_fa c_pa A_28 A50b := f60
                replace f61 : M49.1[t57]? = some (.inr (11, [])) := f61
                exact Or.inr (⟨t57, I50b, A50b, B50b, C50b, rfl, hR50b, (show c_fi c_ps I I50b by exact (c_fi_trans hi28_0 f59)), (show c_fa c_pa A A50b by exact (c_fa_trans hi28_1 f60)), (show M49.1[t57]? = some (.inr (11, [])) by exact f61)⟩)
            · have h47 : ¬ ((I_28 2437) = 6) := h47
              show w_W _ _ _ (44, [(0, .ref 38), (1, .int (Int32.ofInt (1))), (2, .int (Int32.ofInt ((I 2117)))), (3, .int (Int32.ofInt (y28_3))), (4, .int (Int32.ofInt (y28_4))), (5, .int (Int32.ofInt (y28_5)))], [], M_28) _
              refine w_adv (n := 7) (F' := (56, [(6, .int (Int32.ofInt (y28_5))), (0, .ref 38), (1, .int (Int32.ofInt (1))), (2, .int (Int32.ofInt ((I 2117)))), (3, .int (Int32.ofInt (y28_3))), (4, .int (Int32.ofInt (y28_4))), (5, .int (Int32.ofInt (y28_5)))], [.int (Int32.ofInt (y28_5)), .int (Int32.ofInt (y28_3)), .ref 38], M_28)) rfl ?_
              refine w_call (cm := 103) (as := [(0, .ref 38), (1, .int (Int32.ofInt (y28_3))), (2, .int (Int32.ofInt (y28_5)))]) (rest := []) (o := some (4, 38)) rfl (w_fitR hR_28 rfl) (c_feature (y28_3) (y28_5) hR_28 (show 3 ≤ d by omega) ⟨by omega, by omega⟩ ⟨by omega, by omega⟩ (show l ≤ 100000 by first | assumption | omega)) (fun r62 M63 q64 => ?_)
              rcases q64 with ⟨v65, e66, ⟨r67, r68⟩, e69, f70⟩ | ⟨t71, I64b, A64b, B64b, C64b, e72, hR64b, f73, f74, f75⟩
              · rw [e66, e69]
                replace f70 : ¬ (I_28 2437) = 0 := f70
                show w_W _ _ _ (59, [(6, .int (Int32.ofInt (y28_5))), (0, .ref 38), (1, .int (Int32.ofInt (1))), (2, .int (Int32.ofInt ((I 2117)))), (3, .int (Int32.ofInt (y28_3))), (4, .int (Int32.ofInt (y28_4))), (5, .int (Int32.ofInt (y28_5)))], [.int (Int32.ofInt (v65))], M_28) _
                refine w_adv (n := 2) (F' := (62, [(6, .int (Int32.ofInt (v65))), (0, .ref 38), (1, .int (Int32.ofInt (1))), (2, .int (Int32.ofInt ((I 2117)))), (3, .int (Int32.ofInt (y28_3))), (4, .int (Int32.ofInt (y28_4))), (5, .int (Int32.ofInt (y28_5)))], [.ref 38], M_28)) rfl ?_
                refine w_call (cm := 80) (as := [(0, .ref 38)]) (rest := []) (o := some (4, 38)) rfl (w_fitR hR_28 rfl) (c_advance hR_28 (show 3 ≤ d by omega) (show l ≤ 100000 by first | assumption | omega) (show -1 ≤ (I_28 2436) ∧ (I_28 2436) < (I_28 773) ∧ (I_28 773) ≤ 1501 by first | assumption | omega)) (fun r76 M77 q78 => ?_)
                rcases q78 with ⟨zt79, zk80, zv81, e82, hR78a, f83⟩ | ⟨t84, I78b, A78b, B78b, C78b, e85, hR78b, f86, f87, f88⟩
                · rw [e82]
                  replace hR78a : w_Rep w_TC fr X u l (w_up (w_up (w_up (w_up I_28 2436 ((I_28 2436) + 1)) 2441 (zt79)) 2437 (zk80)) 2438 (zv81)) A_28 B_28 C_28 M77 := hR78a
                  replace f83 : ((I_28 2436) + 1 < (I_28 773) ∨ zk80 = 0) := f83
                  show w_W _ _ _ (65, [(6, .int (Int32.ofInt (v65))), (0, .ref 38), (1, .int (Int32.ofInt (1))), (2, .int (Int32.ofInt ((I 2117)))), (3, .int (Int32.ofInt (y28_3))), (4, .int (Int32.ofInt (y28_4))), (5, .int (Int32.ofInt (y28_5)))], [], M77) _
                  refine w_adv (n := 2) (F' := (68, [(6, .int (Int32.ofInt (v65))), (0, .ref 38), (1, .int (Int32.ofInt (1))), (2, .int (Int32.ofInt ((I 2117)))), (3, .int (Int32.ofInt (y28_3))), (4, .int (Int32.ofInt (y28_4))), (5, .int (Int32.ofInt (y28_5)))], [.int (Int32.ofInt (11)), .ref 38], M77)) rfl ?_
                  refine w_call (cm := 105) (as := [(0, .ref 38), (1, .int (Int32.ofInt (11)))]) (rest := []) (o := some (4, 38)) rfl (w_fitR hR78a rfl) (c_need (11) hR78a (show 4 ≤ d by omega) ⟨by omega, by omega⟩ (show l ≤ 100000 by first | assumption | omega) (show -1 ≤ (I_28 2436) + 1 ∧ (zk80 = 0 ∨ (I_28 2436) + 1 < (I_28 773)) ∧ (I_28 773) ≤ 1501 ∧ 1 ≤ 11 by first | assumption | omega)) (fun r89 M90 q91 => ?_)
                  rcases q91 with ⟨zt92, zk93, zv94, e95, hR91a, f96, f97⟩ | ⟨t98, I91b, A91b, B91b, C91b, e99, hR91b, f100, f101, f102⟩
                  · rw [e95]
                    replace hR91a : w_Rep w_TC fr X u l (w_up (w_up (w_up (w_up I_28 2436 ((I_28 2436) + 1 + 1)) 2441 (zt92)) 2437 (zk93)) 2438 (zv94)) A_28 B_28 C_28 M90 := w_Rep.up hR91a (show (w_up (w_up (w_up (w_up I_28 2436 ((I_28 2436) + 1 + 1)) 2441 (zt92)) 2437 (zk93)) 2438 (zv94)) = _ from (funext fun s => if e0 : s = 2436 then (by subst e0; rfl) else if e1 : s = 2437 then (by subst e1; rfl) else if e2 : s = 2438 then (by subst e2; rfl) else if e3 : s = 2441 then (by subst e3; rfl) else (by simp only [w_up_ne e0, w_up_ne e1, w_up_ne e2, w_up_ne e3]))) rfl
                    replace f96 : ((I_28 2436) + 1 + 1 < (I_28 773) ∨ zk93 = 0) := f96
                    replace f97 : zk80 = 11 := f97
                    show w_W _ _ _ (71, [(6, .int (Int32.ofInt (v65))), (0, .ref 38), (1, .int (Int32.ofInt (1))), (2, .int (Int32.ofInt ((I 2117)))), (3, .int (Int32.ofInt (y28_3))), (4, .int (Int32.ofInt (y28_4))), (5, .int (Int32.ofInt (y28_5)))], [], M90) _
                    refine w_adv (n := 1) (F' := (72, [(6, .int (Int32.ofInt (v65))), (0, .ref 38), (1, .int (Int32.ofInt (1))), (2, .int (Int32.ofInt ((I 2117)))), (3, .int (Int32.ofInt (y28_3))), (4, .int (Int32.ofInt (y28_4))), (5, .int (Int32.ofInt (y28_5)))], [.ref 38], M90)) rfl ?_
                    refine w_gf (v := .ref 26) hR91a rfl rfl rfl rfl ?_
                    refine w_adv (n := 5) (F' := (83, [(6, .int (Int32.ofInt (v65))), (0, .ref 38), (1, .int (Int32.ofInt (1))), (2, .int (Int32.ofInt ((I 2117)))), (3, .int (Int32.ofInt (y28_3))), (4, .int (Int32.ofInt (y28_4))), (5, .int (Int32.ofInt (y28_5)))], [.int (Int32.ofInt (y28_5)), .int (Int32.ofInt (v65)), .int (Int32.ofInt ((I 2117))), .ref 38, .int (Int32.ofInt (y28_4)), .ref 26], M90)) rfl ?_
                    refine w_call (cm := 128) (as := [(0, .ref 38), (1, .int (Int32.ofInt ((I 2117)))), (2, .int (Int32.ofInt (v65))), (3, .int (Int32.ofInt (y28_5)))]) (rest := [.int (Int32.ofInt (y28_4)), .ref 26]) (o := some (4, 38)) rfl (w_fitR hR91a rfl) (c_slot ((I 2117)) (v65) (y28_5) hR91a (show 4 ≤ d by omega) ⟨by omega, by omega⟩ ⟨by omega, by omega⟩ ⟨by omega, by omega⟩ (show l ≤ 100000 by first | assumption | omega) (show (0 ≤ (I_28 2436) + 1 + 1 ∧ (I_28 2436) + 1 + 1 ≤ (I_28 773) ∧ (I_28 773) ≤ 1501 ∧ (zk93 = 0 ∨ (I_28 2436) + 1 + 1 < (I_28 773))) ∧ (0 ≤ (I_28 2439) ∧ (I_28 2439) ≤ 24 ∧ 0 ≤ (I_28 2117)) ∧ 0 ≤ (I_28 1670) ∧ (I_28 1670) ≤ 2 * ((I_28 2436) + 1 + 1) + 1 by (repeat' apply And.intro) <;> first | assumption | omega)) (fun r103 M104 q105 => ?_)
                    rcases q105 with ⟨v106, I105a, A105a, B105a, C105a, e107, ⟨r108, r109⟩, hR105a, f110, f111, f112, f113, f114⟩ | ⟨t115, I105b, A105b, B105b, C105b, e116, hR105b, f117, f118, f119⟩
                    · rw [e107]
                      replace hR105a : w_Rep w_TC fr X u l I105a A105a B105a C105a M104 := hR105a
                      replace f110 : c_fi c_ps (w_up (w_up (w_up (w_up I_28 2436 ((I_28 2436) + 1 + 1)) 2441 (zt92)) 2437 (zk93)) 2438 (zv94)) I105a := f110
                      replace f111 : c_fa c_pa A_28 A105a := f111
                      replace f112 : (0 ≤ (I105a 2436) ∧ (I105a 2436) ≤ (I105a 773) ∧ ((I105a 2437) = 0 ∨ (I105a 2436) < (I105a 773))) ∧ ((I105a 773) = (I_28 773) ∧ (I105a 2439) = (I_28 2439) ∧ 0 ≤ (I105a 2117)) ∧ ((I_28 2436) + 1 + 1) + 1 ≤ (I105a 2436) ∧ (I105a 1670) + 1 ≤ (I_28 1670) + 2 * ((I105a 2436) - ((I_28 2436) + 1 + 1)) ∧ (I_28 1670) ≤ (I105a 1670) := f112
                      obtain ⟨⟨n120, n121, n122⟩, ⟨n123, n124, n125⟩, n126, n127, n128⟩ := id f112
                      clear f112
                      replace f113 : c_agl A_28 A105a (I_28 1670) := f113
                      replace f114 : (I_28 1670) ≤ v106 ∧ v106 < (I105a 1670) := f114
                      obtain ⟨n129, n130⟩ := id f114
                      clear f114
                      have g131 : c_agl A A105a (I 1670) := c_agl_trans hi28_3 f113 (show (I 1670) ≤ (I_28 1670) by omega)
                      show w_W _ _ _ (86, [(6, .int (Int32.ofInt (v65))), (0, .ref 38), (1, .int (Int32.ofInt (1))), (2, .int (Int32.ofInt ((I 2117)))), (3, .int (Int32.ofInt (y28_3))), (4, .int (Int32.ofInt (y28_4))), (5, .int (Int32.ofInt (y28_5)))], [.int (Int32.ofInt (v106)), .int (Int32.ofInt (y28_4)), .ref 26], M104) _
                      refine w_call (cm := 106) (as := [(0, .ref 26), (1, .int (Int32.ofInt (y28_4))), (2, .int (Int32.ofInt (v106)))]) (rest := []) (o := some (8, 26)) rfl (w_fitR hR105a rfl) (c_chn (y28_4) (v106) hR105a (show 2 ≤ d by omega) ⟨by omega, by omega⟩ ⟨by omega, by omega⟩) (fun r132 M133 q134 => ?_)
                      rcases q134 with ⟨A135, e136, hR134a, f137, f138⟩
                      rw [e136]
                      replace hR134a : w_Rep w_TC fr X u l I105a A135 B105a C105a M133 := hR134a
                      replace f137 : c_fa c_pa A105a A135 := f137
                      replace f138 : c_nxw A105a A135 y28_4 v106 := f138
                      have g139 : c_agl A105a A135 (I 1670) := c_agl_nxw f138 (show (I 1670) ≤ y28_4 ∨ y28_4 < 0 by omega)
                      have g140 : c_agl A A135 (I 1670) := c_agl_trans g131 g139 (show (I 1670) ≤ (I 1670) by omega)
                      show w_W _ _ _ (89, [(6, .int (Int32.ofInt (v65))), (0, .ref 38), (1, .int (Int32.ofInt (1))), (2, .int (Int32.ofInt ((I 2117)))), (3, .int (Int32.ofInt (y28_3))), (4, .int (Int32.ofInt (y28_4))), (5, .int (Int32.ofInt (y28_5)))], [.int (Int32.ofInt (v106))], M133) _
                      refine w_adv (n := 3) (F' := (93, [(4, .int (Int32.ofInt (v106))), (6, .int (Int32.ofInt (v65))), (0, .ref 38), (1, .int (Int32.ofInt (1))), (2, .int (Int32.ofInt ((I 2117)))), (3, .int (Int32.ofInt (y28_3))), (5, .int (Int32.ofInt (y28_5)))], [.int (Int32.ofInt ((-1))), .int (Int32.ofInt (y28_3))], M133)) rfl ?_
                      refine w_br2 (a := y28_3) (b := (-1)) rfl rfl ⟨by omega, by omega⟩ ⟨by omega, by omega⟩ (fun h141 => ?_) (fun h141 => ?_)
                      · have h141 : ¬ y28_3 = (-1) := h141
                        show w_W _ _ _ (101, [(4, .int (Int32.ofInt (v106))), (6, .int (Int32.ofInt (v65))), (0, .ref 38), (1, .int (Int32.ofInt (1))), (2, .int (Int32.ofInt ((I 2117)))), (3, .int (Int32.ofInt (y28_3))), (5, .int (Int32.ofInt (y28_5)))], [], M133) _
                        refine w_adv (n := 2) (F' := (103, [(3, .int (Int32.ofInt (y28_3))), (4, .int (Int32.ofInt (v106))), (6, .int (Int32.ofInt (v65))), (0, .ref 38), (1, .int (Int32.ofInt (1))), (2, .int (Int32.ofInt ((I 2117)))), (5, .int (Int32.ofInt (y28_5)))], [], M133)) rfl ?_
                        refine w_inc (nL := 7) (a := y28_5) rfl rfl rfl (by decide) ?_
                        refine w_adv (n := 1) (F' := (28, [(5, .int (Int32.ofInt (y28_5 + 1))), (3, .int (Int32.ofInt (y28_3))), (4, .int (Int32.ofInt (v106))), (6, .int (Int32.ofInt (v65))), (0, .ref 38), (1, .int (Int32.ofInt (1))), (2, .int (Int32.ofInt ((I 2117))))], [], M133)) rfl ?_
                        refine w_ls (ls := [(0, .ref 38), (1, .int (Int32.ofInt (1))), (2, .int (Int32.ofInt ((I 2117)))), (3, .int (Int32.ofInt (y28_3))), (4, .int (Int32.ofInt (v106))), (5, .int (Int32.ofInt (y28_5 + 1)))]) (show List.Nodup [0, 1, 2, 3, 4, 5] by decide) (show List.Nodup [5, 3, 4, 6, 0, 1, 2] by decide) (List.forall_mem_cons.mpr ⟨(List.Mem.tail _ (List.Mem.tail _ (List.Mem.tail _ (List.Mem.tail _ (List.Mem.head _))))), (List.forall_mem_cons.mpr ⟨(List.Mem.tail _ (List.Mem.tail _ (List.Mem.tail _ (List.Mem.tail _ (List.Mem.tail _ (List.Mem.head _)))))), (List.forall_mem_cons.mpr ⟨(List.Mem.tail _ (List.Mem.tail _ (List.Mem.tail _ (List.Mem.tail _ (List.Mem.tail _ (List.Mem.tail _ (List.Mem.head _))))))), (List.forall_mem_cons.mpr ⟨(List.Mem.tail _ (List.Mem.head _)), (List.forall_mem_cons.mpr ⟨(List.Mem.tail _ (List.Mem.tail _ (List.Mem.head _))), (List.forall_mem_cons.mpr ⟨(List.Mem.head _), (fun _ h => by cases h)⟩)⟩)⟩)⟩)⟩)⟩) ?_
                        exact ih28  (y28_3) (v106) (y28_5 + 1) I105a A135 B105a C105a M133 hR134a ⟨by omega, by omega⟩ ⟨by omega, by omega⟩ ⟨by omega, by omega⟩ (show c_fi c_ps I I105a by exact (c_fi_trans (c_fi_up (c_fi_up (c_fi_up (c_fi_up hi28_0 rfl) rfl) rfl) rfl) f110)) (show c_fa c_pa A A135 by exact (c_fa_trans (c_fa_trans hi28_1 f111) f137)) (show (0 ≤ (I105a 2436) ∧ (I105a 2436) ≤ (I105a 773) ∧ ((I105a 2437) = 0 ∨ (I105a 2436) < (I105a 773))) ∧ ((I105a 773) = (I 773) ∧ (I105a 2439) = (I 2439) + 1 ∧ 0 ≤ (I105a 2117)) ∧ (I 2436) + 1 ≤ (I105a 2436) ∧ (I105a 1670) + 2 ≤ (I 1670) + 2 * ((I105a 2436) - (I 2436)) ∧ (I 1670) ≤ (I105a 1670) by (repeat' apply And.intro) <;> first | assumption | omega) (show c_agl A A135 (I 1670) by exact g140) (show 1 ≤ (y28_5 + 1) ∧ (y28_5 + 1) ≤ 34 by omega) (show v106 = -1 ∨ (I 1670) ≤ v106 by omega) (show 34 - (y28_5 + 1) < (fu28 : Int) by omega)
                      · have h141 : ¬ (¬ y28_3 = (-1)) := h141
                        show w_W _ _ _ (96, [(4, .int (Int32.ofInt (v106))), (6, .int (Int32.ofInt (v65))), (0, .ref 38), (1, .int (Int32.ofInt (1))), (2, .int (Int32.ofInt ((I 2117)))), (3, .int (Int32.ofInt (y28_3))), (5, .int (Int32.ofInt (y28_5)))], [], M133) _
                        refine w_adv (n := 3) (F' := (103, [(3, .int (Int32.ofInt (v106))), (4, .int (Int32.ofInt (v106))), (6, .int (Int32.ofInt (v65))), (0, .ref 38), (1, .int (Int32.ofInt (1))), (2, .int (Int32.ofInt ((I 2117)))), (5, .int (Int32.ofInt (y28_5)))], [], M133)) rfl ?_
                        refine w_inc (nL := 7) (a := y28_5) rfl rfl rfl (by decide) ?_
                        refine w_adv (n := 1) (F' := (28, [(5, .int (Int32.ofInt (y28_5 + 1))), (3, .int (Int32.ofInt (v106))), (4, .int (Int32.ofInt (v106))), (6, .int (Int32.ofInt (v65))), (0, .ref 38), (1, .int (Int32.ofInt (1))), (2, .int (Int32.ofInt ((I 2117))))], [], M133)) rfl ?_
                        refine w_ls (ls := [(0, .ref 38), (1, .int (Int32.ofInt (1))), (2, .int (Int32.ofInt ((I 2117)))), (3, .int (Int32.ofInt (v106))), (4, .int (Int32.ofInt (v106))), (5, .int (Int32.ofInt (y28_5 + 1)))]) (show List.Nodup [0, 1, 2, 3, 4, 5] by decide) (show List.Nodup [5, 3, 4, 6, 0, 1, 2] by decide) (List.forall_mem_cons.mpr ⟨(List.Mem.tail _ (List.Mem.tail _ (List.Mem.tail _ (List.Mem.tail _ (List.Mem.head _))))), (List.forall_mem_cons.mpr ⟨(List.Mem.tail _ (List.Mem.tail _ (List.Mem.tail _ (List.Mem.tail _ (List.Mem.tail _ (List.Mem.head _)))))), (List.forall_mem_cons.mpr ⟨(List.Mem.tail _ (List.Mem.tail _ (List.Mem.tail _ (List.Mem.tail _ (List.Mem.tail _ (List.Mem.tail _ (List.Mem.head _))))))), (List.forall_mem_cons.mpr ⟨(List.Mem.tail _ (List.Mem.head _)), (List.forall_mem_cons.mpr ⟨(List.Mem.tail _ (List.Mem.tail _ (List.Mem.head _))), (List.forall_mem_cons.mpr ⟨(List.Mem.head _), (fun _ h => by cases h)⟩)⟩)⟩)⟩)⟩)⟩) ?_
                        exact ih28  (v106) (v106) (y28_5 + 1) I105a A135 B105a C105a M133 hR134a ⟨by omega, by omega⟩ ⟨by omega, by omega⟩ ⟨by omega, by omega⟩ (show c_fi c_ps I I105a by exact (c_fi_trans (c_fi_up (c_fi_up (c_fi_up (c_fi_up hi28_0 rfl) rfl) rfl) rfl) f110)) (show c_fa c_pa A A135 by exact (c_fa_trans (c_fa_trans hi28_1 f111) f137)) (show (0 ≤ (I105a 2436) ∧ (I105a 2436) ≤ (I105a 773) ∧ ((I105a 2437) = 0 ∨ (I105a 2436) < (I105a 773))) ∧ ((I105a 773) = (I 773) ∧ (I105a 2439) = (I 2439) + 1 ∧ 0 ≤ (I105a 2117)) ∧ (I 2436) + 1 ≤ (I105a 2436) ∧ (I105a 1670) + 2 ≤ (I 1670) + 2 * ((I105a 2436) - (I 2436)) ∧ (I 1670) ≤ (I105a 1670) by (repeat' apply And.intro) <;> first | assumption | omega) (show c_agl A A135 (I 1670) by exact g140) (show 1 ≤ (y28_5 + 1) ∧ (y28_5 + 1) ≤ 34 by omega) (show v106 = -1 ∨ (I 1670) ≤ v106 by omega) (show 34 - (y28_5 + 1) < (fu28 : Int) by omega)
                    · rw [e116]
                      replace hR105b : w_Rep w_TC fr X (u + 6) (l + 64) I105b A105b B105b C105b M104 := hR105b
                      replace f117 : c_fi c_ps (w_up (w_up (w_up (w_up I_28 2436 ((I_28 2436) + 1 + 1)) 2441 (zt92)) 2437 (zk93)) 2438 (zv94)) I105b := f117
                      replace f118 : c_fa c_pa A_28 A105b := f118
                      replace f119 : M104.1[t115]? = some (.inr (11, [])) := f119
                      exact Or.inr (⟨t115, I105b, A105b, B105b, C105b, rfl, hR105b, (show c_fi c_ps I I105b by exact (c_fi_trans (c_fi_up (c_fi_up (c_fi_up (c_fi_up hi28_0 rfl) rfl) rfl) rfl) f117)), (show c_fa c_pa A A105b by exact (c_fa_trans hi28_1 f118)), (show M104.1[t115]? = some (.inr (11, [])) by exact f119)⟩)
                  · rw [e99]
                    replace hR91b : w_Rep w_TC fr X (u + 6) (l + 64) I91b A91b B91b C91b M90 := hR91b
                    replace f100 : c_fi c_ps (w_up (w_up (w_up (w_up I_28 2436 ((I_28 2436) + 1)) 2441 (zt79)) 2437 (zk80)) 2438 (zv81)) I91b := f100
                    replace f101 : c_fa c_pa A_28 A91b := f101
                    replace f102 : M90.1[t98]? = some (.inr (11, [])) := f102
                    exact Or.inr (⟨t98, I91b, A91b, B91b, C91b, rfl, hR91b, (show c_fi c_ps I I91b by exact (c_fi_trans (c_fi_up (c_fi_up (c_fi_up (c_fi_up hi28_0 rfl) rfl) rfl) rfl) f100)), (show c_fa c_pa A A91b by exact (c_fa_trans hi28_1 f101)), (show M90.1[t98]? = some (.inr (11, [])) by exact f102)⟩)
                · rw [e85]
                  replace hR78b : w_Rep w_TC fr X (u + 6) (l + 64) I78b A78b B78b C78b M77 := hR78b
                  replace f86 : c_fi c_ps I_28 I78b := f86
                  replace f87 : c_fa c_pa A_28 A78b := f87
                  replace f88 : M77.1[t84]? = some (.inr (11, [])) := f88
                  exact Or.inr (⟨t84, I78b, A78b, B78b, C78b, rfl, hR78b, (show c_fi c_ps I I78b by exact (c_fi_trans hi28_0 f86)), (show c_fa c_pa A A78b by exact (c_fa_trans hi28_1 f87)), (show M77.1[t84]? = some (.inr (11, [])) by exact f88)⟩)
              · rw [e72]
                replace hR64b : w_Rep w_TC fr X (u + 6) (l + 64) I64b A64b B64b C64b M63 := hR64b
                replace f73 : c_fi c_ps I_28 I64b := f73
                replace f74 : c_fa c_pa A_28 A64b := f74
                replace f75 : M63.1[t71]? = some (.inr (11, [])) := f75
                exact Or.inr (⟨t71, I64b, A64b, B64b, C64b, rfl, hR64b, (show c_fi c_ps I I64b by exact (c_fi_trans hi28_0 f73)), (show c_fa c_pa A A64b by exact (c_fa_trans hi28_1 f74)), (show M63.1[t71]? = some (.inr (11, [])) by exact f75)⟩)
      refine w_ls (ls := [(0, .ref 38), (1, .int (Int32.ofInt (1))), (2, .int (Int32.ofInt ((I 2117)))), (3, .int (Int32.ofInt ((-1)))), (4, .int (Int32.ofInt ((-1)))), (5, .int (Int32.ofInt (1)))]) (show List.Nodup [0, 1, 2, 3, 4, 5] by decide) (show List.Nodup [5, 4, 3, 2, 1, 0] by decide) (List.forall_mem_cons.mpr ⟨(List.Mem.tail _ (List.Mem.tail _ (List.Mem.tail _ (List.Mem.tail _ (List.Mem.tail _ (List.Mem.head _)))))), (List.forall_mem_cons.mpr ⟨(List.Mem.tail _ (List.Mem.tail _ (List.Mem.tail _ (List.Mem.tail _ (List.Mem.head _))))), (List.forall_mem_cons.mpr ⟨(List.Mem.tail _ (List.Mem.tail _ (List.Mem.tail _ (List.Mem.head _)))), (List.forall_mem_cons.mpr ⟨(List.Mem.tail _ (List.Mem.tail _ (List.Mem.head _))), (List.forall_mem_cons.mpr ⟨(List.Mem.tail _ (List.Mem.head _)), (List.forall_mem_cons.mpr ⟨(List.Mem.head _), (fun _ h => by cases h)⟩)⟩)⟩)⟩)⟩)⟩) ?_
      exact lp28 ((34 - 1 : Int).toNat + 1)  ((-1)) ((-1)) (1) (w_up (w_up (w_up (w_up (w_up I 2436 ((I 2436) + 1)) 2441 (zt4)) 2437 (zk5)) 2438 (zv6)) 2439 ((I 2439) + 1)) A B C M2 hR3a ⟨by omega, by omega⟩ ⟨by omega, by omega⟩ ⟨by omega, by omega⟩ (show c_fi c_ps I (w_up (w_up (w_up (w_up (w_up I 2436 ((I 2436) + 1)) 2441 (zt4)) 2437 (zk5)) 2438 (zv6)) 2439 ((I 2439) + 1)) by exact (c_fi_up (c_fi_up (c_fi_up (c_fi_up (c_fi_up c_fi_refl rfl) rfl) rfl) rfl) rfl)) (show c_fa c_pa A A by exact c_fa_refl) (show (0 ≤ (I 2436) + 1 ∧ (I 2436) + 1 ≤ (I 773) ∧ (zk5 = 0 ∨ (I 2436) + 1 < (I 773))) ∧ ((I 773) = (I 773) ∧ (I 2439) + 1 = (I 2439) + 1 ∧ 0 ≤ (I 2117)) ∧ (I 2436) + 1 ≤ (I 2436) + 1 ∧ (I 1670) + 2 ≤ (I 1670) + 2 * (((I 2436) + 1) - (I 2436)) ∧ (I 1670) ≤ (I 1670) by (repeat' apply And.intro) <;> first | assumption | omega) (show c_agl A A (I 1670) by exact c_agl_refl) (show 1 ≤ (1 : Int) ∧ (1 : Int) ≤ 34 by omega) (show ((-1) : Int) = -1 ∨ (I 1670) ≤ ((-1) : Int) by omega) (show 34 - 1 < (((34 - 1 : Int).toNat + 1 : Nat) : Int) by omega)
    · rw [e23, e24]
      show w_W _ _ _ (11, [(0, .ref 38)], [.int (Int32.ofInt (0))], M2) _
      refine w_adv (n := 2) (F' := (13, [(1, .int (Int32.ofInt (0))), (0, .ref 38)], [.ref 38], M2)) rfl ?_
      refine w_gf (v := .ref 33) hR3a rfl rfl rfl rfl ?_
      refine w_call (cm := 118) (as := [(0, .ref 33)]) (rest := []) (o := some (5, 33)) rfl (w_fitR hR3a rfl) (c_snext hR3a) (fun r142 M143 q144 => ?_)
      rcases q144 with ⟨e145, e146⟩
      rw [e145, e146]
      show w_W _ _ _ (19, [(1, .int (Int32.ofInt (0))), (0, .ref 38)], [.int (Int32.ofInt ((I 2117)))], M2) _
      refine w_adv (n := 7) (F' := (28, [(5, .int (Int32.ofInt (1))), (4, .int (Int32.ofInt ((-1)))), (3, .int (Int32.ofInt ((-1)))), (2, .int (Int32.ofInt ((I 2117)))), (1, .int (Int32.ofInt (0))), (0, .ref 38)], [], M2)) rfl ?_
      have lp28 : ∀ fu28 : Nat, ∀ (y28_3 : Int) (y28_4 : Int) (y28_5 : Int) (I_28 : Nat → Int) (A_28 : Nat → Int → Int) (B_28 C_28 : Nat → Nat) (M_28 : w_M) (hR_28 : w_Rep w_TC fr X u l I_28 A_28 B_28 C_28 M_28), w_in y28_3 → w_in y28_4 → w_in y28_5 → c_fi c_ps I I_28 → c_fa c_pa A A_28 → (0 ≤ (I_28 2436) ∧ (I_28 2436) ≤ (I_28 773) ∧ ((I_28 2437) = 0 ∨ (I_28 2436) < (I_28 773))) ∧ ((I_28 773) = (I 773) ∧ (I_28 2439) = (I 2439) + 1 ∧ 0 ≤ (I_28 2117)) ∧ (I 2436) + 1 ≤ (I_28 2436) ∧ (I_28 1670) + 2 ≤ (I 1670) + 2 * ((I_28 2436) - (I 2436)) ∧ (I 1670) ≤ (I_28 1670) → c_agl A A_28 (I 1670) → 1 ≤ y28_5 ∧ y28_5 ≤ 34 → y28_4 = -1 ∨ (I 1670) ≤ y28_4 → 34 - y28_5 < (fu28 : Int) → w_W (z_P L xs) (d + 1) 127 (28, [(0, .ref 38), (1, .int (Int32.ofInt (0))), (2, .int (Int32.ofInt ((I 2117)))), (3, .int (Int32.ofInt (y28_3))), (4, .int (Int32.ofInt (y28_4))), (5, .int (Int32.ofInt (y28_5)))], [], M_28) (c_slots_Q fr X u l I A B C M) := by
        intro fu28
        induction fu28 with
        | zero =>
          intro y28_3 y28_4 y28_5 I_28 A_28 B_28 C_28 M_28 hR_28 ⟨ra_y28_3, rb_y28_3⟩ ⟨ra_y28_4, rb_y28_4⟩ ⟨ra_y28_5, rb_y28_5⟩ hi28_0 hi28_1 hi28_2 hi28_3 hi28_4 hi28_5 hn28
          exfalso
          omega
        | succ fu28 ih28 =>
          intro y28_3 y28_4 y28_5 I_28 A_28 B_28 C_28 M_28 hR_28 ⟨ra_y28_3, rb_y28_3⟩ ⟨ra_y28_4, rb_y28_4⟩ ⟨ra_y28_5, rb_y28_5⟩ hi28_0 hi28_1 hi28_2 hi28_3 hi28_4 hi28_5 hn28
          refine w_adv (n := 2) (F' := (32, [(0, .ref 38), (1, .int (Int32.ofInt (0))), (2, .int (Int32.ofInt ((I 2117)))), (3, .int (Int32.ofInt (y28_3))), (4, .int (Int32.ofInt (y28_4))), (5, .int (Int32.ofInt (y28_5)))], [.int (Int32.ofInt (33)), .int (Int32.ofInt (y28_5))], M_28)) rfl ?_
          refine w_br2 (a := y28_5) (b := 33) rfl rfl ⟨by omega, by omega⟩ ⟨by omega, by omega⟩ (fun h147 => ?_) (fun h147 => ?_)
          · have h147 : y28_5 > 33 := h147
            show w_W _ _ _ (109, [(0, .ref 38), (1, .int (Int32.ofInt (0))), (2, .int (Int32.ofInt ((I 2117)))), (3, .int (Int32.ofInt (y28_3))), (4, .int (Int32.ofInt (y28_4))), (5, .int (Int32.ofInt (y28_5)))], [], M_28) _
            refine w_adv (n := 2) (F' := (112, [(0, .ref 38), (1, .int (Int32.ofInt (0))), (2, .int (Int32.ofInt ((I 2117)))), (3, .int (Int32.ofInt (y28_3))), (4, .int (Int32.ofInt (y28_4))), (5, .int (Int32.ofInt (y28_5)))], [.int (Int32.ofInt (6)), .ref 38], M_28)) rfl ?_
            refine w_call (cm := 113) (as := [(0, .ref 38), (1, .int (Int32.ofInt (6)))]) (rest := []) (o := some (4, 38)) rfl (w_fitR hR_28 rfl) (c_close (6) hR_28 (show 4 ≤ d by omega) ⟨by omega, by omega⟩ (show l ≤ 100000 by first | assumption | omega) (show -1 ≤ (I_28 2436) ∧ ((I_28 2437) = 0 ∨ (I_28 2436) < (I_28 773)) ∧ (I_28 773) ≤ 1501 ∧ 1 ≤ 6 by first | assumption | omega) (show 0 ≤ (I_28 2439) ∧ (I_28 2439) ≤ 24 by first | assumption | omega)) (fun r148 M149 q150 => ?_)
            rcases q150 with ⟨zt151, zk152, zv153, e154, hR150a, f155, f156⟩ | ⟨t157, I150b, A150b, B150b, C150b, e158, hR150b, f159, f160, f161⟩
            · rw [e154]
              replace hR150a : w_Rep w_TC fr X u l (w_up (w_up (w_up (w_up (w_up I_28 2436 ((I_28 2436) + 1)) 2441 (zt151)) 2437 (zk152)) 2438 (zv153)) 2439 ((I_28 2439) - 1)) A_28 B_28 C_28 M149 := hR150a
              replace f155 : ((I_28 2436) + 1 < (I_28 773) ∨ zk152 = 0) := f155
              replace f156 : (I_28 2437) = 6 := f156
              show w_W _ _ _ (115, [(0, .ref 38), (1, .int (Int32.ofInt (0))), (2, .int (Int32.ofInt ((I 2117)))), (3, .int (Int32.ofInt (y28_3))), (4, .int (Int32.ofInt (y28_4))), (5, .int (Int32.ofInt (y28_5)))], [], M149) _
              refine w_adv (n := 1) (F' := (116, [(0, .ref 38), (1, .int (Int32.ofInt (0))), (2, .int (Int32.ofInt ((I 2117)))), (3, .int (Int32.ofInt (y28_3))), (4, .int (Int32.ofInt (y28_4))), (5, .int (Int32.ofInt (y28_5)))], [.int (Int32.ofInt (y28_3))], M149)) rfl ?_
              refine w_fin (r := .inl (some (y28_3))) (M' := M149) rfl ?_
              exact Or.inl ⟨y28_3, (w_up (w_up (w_up (w_up (w_up I_28 2436 ((I_28 2436) + 1)) 2441 (zt151)) 2437 (zk152)) 2438 (zv153)) 2439 ((I_28 2439) - 1)), A_28, B_28, C_28, rfl, ⟨by omega, by omega⟩, hR150a, (show c_fi c_ps I (w_up (w_up (w_up (w_up (w_up I_28 2436 ((I_28 2436) + 1)) 2441 (zt151)) 2437 (zk152)) 2438 (zv153)) 2439 ((I_28 2439) - 1)) by exact (c_fi_up (c_fi_up (c_fi_up (c_fi_up (c_fi_up hi28_0 rfl) rfl) rfl) rfl) rfl)), (show c_fa c_pa A A_28 by exact hi28_1), (show (0 ≤ (I_28 2436) + 1 ∧ (I_28 2436) + 1 ≤ (I_28 773) ∧ (zk152 = 0 ∨ (I_28 2436) + 1 < (I_28 773))) ∧ ((I_28 773) = (I 773) ∧ (I_28 2439) - 1 = (I 2439) ∧ 0 ≤ (I_28 2117)) ∧ (I 2436) + 2 ≤ (I_28 2436) + 1 ∧ (I_28 1670) + 0 ≤ (I 1670) + 2 * (((I_28 2436) + 1) - (I 2436)) ∧ (I 1670) ≤ (I_28 1670) by (repeat' apply And.intro) <;> first | assumption | omega), (show c_agl A A_28 (I 1670) by exact hi28_3)⟩
            · rw [e158]
              replace hR150b : w_Rep w_TC fr X (u + 6) (l + 64) I150b A150b B150b C150b M149 := hR150b
              replace f159 : c_fi c_ps I_28 I150b := f159
              replace f160 : c_fa c_pa A_28 A150b := f160
              replace f161 : M149.1[t157]? = some (.inr (11, [])) := f161
              exact Or.inr (⟨t157, I150b, A150b, B150b, C150b, rfl, hR150b, (show c_fi c_ps I I150b by exact (c_fi_trans hi28_0 f159)), (show c_fa c_pa A A150b by exact (c_fa_trans hi28_1 f160)), (show M149.1[t157]? = some (.inr (11, [])) by exact f161)⟩)
          · have h147 : ¬ (y28_5 > 33) := h147
            show w_W _ _ _ (35, [(0, .ref 38), (1, .int (Int32.ofInt (0))), (2, .int (Int32.ofInt ((I 2117)))), (3, .int (Int32.ofInt (y28_3))), (4, .int (Int32.ofInt (y28_4))), (5, .int (Int32.ofInt (y28_5)))], [], M_28) _
            refine w_adv (n := 1) (F' := (36, [(0, .ref 38), (1, .int (Int32.ofInt (0))), (2, .int (Int32.ofInt ((I 2117)))), (3, .int (Int32.ofInt (y28_3))), (4, .int (Int32.ofInt (y28_4))), (5, .int (Int32.ofInt (y28_5)))], [.ref 38], M_28)) rfl ?_
            refine w_gf (v := .int (Int32.ofInt ((I_28 2437)))) hR_28 rfl rfl rfl rfl ?_
            obtain ⟨r162, r163⟩ : -2147483648 ≤ (I_28 2437) ∧ (I_28 2437) ≤ 2147483647 := hR_28.ri 2437
            refine w_adv (n := 1) (F' := (41, [(0, .ref 38), (1, .int (Int32.ofInt (0))), (2, .int (Int32.ofInt ((I 2117)))), (3, .int (Int32.ofInt (y28_3))), (4, .int (Int32.ofInt (y28_4))), (5, .int (Int32.ofInt (y28_5)))], [.int (Int32.ofInt (6)), .int (Int32.ofInt ((I_28 2437)))], M_28)) rfl ?_
            refine w_br2 (a := (I_28 2437)) (b := 6) rfl rfl ⟨by omega, by omega⟩ ⟨by omega, by omega⟩ (fun h164 => ?_) (fun h164 => ?_)
            · have h164 : (I_28 2437) = 6 := h164
              show w_W _ _ _ (109, [(0, .ref 38), (1, .int (Int32.ofInt (0))), (2, .int (Int32.ofInt ((I 2117)))), (3, .int (Int32.ofInt (y28_3))), (4, .int (Int32.ofInt (y28_4))), (5, .int (Int32.ofInt (y28_5)))], [], M_28) _
              refine w_adv (n := 2) (F' := (112, [(0, .ref 38), (1, .int (Int32.ofInt (0))), (2, .int (Int32.ofInt ((I 2117)))), (3, .int (Int32.ofInt (y28_3))), (4, .int (Int32.ofInt (y28_4))), (5, .int (Int32.ofInt (y28_5)))], [.int (Int32.ofInt (6)), .ref 38], M_28)) rfl ?_
              refine w_call (cm := 113) (as := [(0, .ref 38), (1, .int (Int32.ofInt (6)))]) (rest := []) (o := some (4, 38)) rfl (w_fitR hR_28 rfl) (c_close (6) hR_28 (show 4 ≤ d by omega) ⟨by omega, by omega⟩ (show l ≤ 100000 by first | assumption | omega) (show -1 ≤ (I_28 2436) ∧ ((I_28 2437) = 0 ∨ (I_28 2436) < (I_28 773)) ∧ (I_28 773) ≤ 1501 ∧ 1 ≤ 6 by first | assumption | omega) (show 0 ≤ (I_28 2439) ∧ (I_28 2439) ≤ 24 by first | assumption | omega)) (fun r165 M166 q167 => ?_)
              rcases q167 with ⟨zt168, zk169, zv170, e171, hR167a, f172, f173⟩ | ⟨t174, I167b, A167b, B167b, C167b, e175, hR167b, f176, f177, f178⟩
              · rw [e171]
                replace hR167a : w_Rep w_TC fr X u l (w_up (w_up (w_up (w_up (w_up I_28 2436 ((I_28 2436) + 1)) 2441 (zt168)) 2437 (zk169)) 2438 (zv170)) 2439 ((I_28 2439) - 1)) A_28 B_28 C_28 M166 := hR167a
                replace f172 : ((I_28 2436) + 1 < (I_28 773) ∨ zk169 = 0) := f172
                replace f173 : (I_28 2437) = 6 := f173
                show w_W _ _ _ (115, [(0, .ref 38), (1, .int (Int32.ofInt (0))), (2, .int (Int32.ofInt ((I 2117)))), (3, .int (Int32.ofInt (y28_3))), (4, .int (Int32.ofInt (y28_4))), (5, .int (Int32.ofInt (y28_5)))], [], M166) _
                refine w_adv (n := 1) (F' := (116, [(0, .ref 38), (1, .int (Int32.ofInt (0))), (2, .int (Int32.ofInt ((I 2117)))), (3, .int (Int32.ofInt (y28_3))), (4, .int (Int32.ofInt (y28_4))), (5, .int (Int32.ofInt (y28_5)))], [.int (Int32.ofInt (y28_3))], M166)) rfl ?_
                refine w_fin (r := .inl (some (y28_3))) (M' := M166) rfl ?_
                exact Or.inl ⟨y28_3, (w_up (w_up (w_up (w_up (w_up I_28 2436 ((I_28 2436) + 1)) 2441 (zt168)) 2437 (zk169)) 2438 (zv170)) 2439 ((I_28 2439) - 1)), A_28, B_28, C_28, rfl, ⟨by omega, by omega⟩, hR167a, (show c_fi c_ps I (w_up (w_up (w_up (w_up (w_up I_28 2436 ((I_28 2436) + 1)) 2441 (zt168)) 2437 (zk169)) 2438 (zv170)) 2439 ((I_28 2439) - 1)) by exact (c_fi_up (c_fi_up (c_fi_up (c_fi_up (c_fi_up hi28_0 rfl) rfl) rfl) rfl) rfl)), (show c_fa c_pa A A_28 by exact hi28_1), (show (0 ≤ (I_28 2436) + 1 ∧ (I_28 2436) + 1 ≤ (I_28 773) ∧ (zk169 = 0 ∨ (I_28 2436) + 1 < (I_28 773))) ∧ ((I_28 773) = (I 773) ∧ (I_28 2439) - 1 = (I 2439) ∧ 0 ≤ (I_28 2117)) ∧ (I 2436) + 2 ≤ (I_28 2436) + 1 ∧ (I_28 1670) + 0 ≤ (I 1670) + 2 * (((I_28 2436) + 1) - (I 2436)) ∧ (I 1670) ≤ (I_28 1670) by (repeat' apply And.intro) <;> first | assumption | omega), (show c_agl A A_28 (I 1670) by exact hi28_3)⟩
              · rw [e175]
                replace hR167b : w_Rep w_TC fr X (u + 6) (l + 64) I167b A167b B167b C167b M166 := hR167b
                replace f176 : c_fi c_ps I_28 I167b := f176
                replace f177 : c_fa c_pa A_28 A167b := f177
                replace f178 : M166.1[t174]? = some (.inr (11, [])) := f178
                exact Or.inr (⟨t174, I167b, A167b, B167b, C167b, rfl, hR167b, (show c_fi c_ps I I167b by exact (c_fi_trans hi28_0 f176)), (show c_fa c_pa A A167b by exact (c_fa_trans hi28_1 f177)), (show M166.1[t174]? = some (.inr (11, [])) by exact f178)⟩)
            · have h164 : ¬ ((I_28 2437) = 6) := h164
              show w_W _ _ _ (44, [(0, .ref 38), (1, .int (Int32.ofInt (0))), (2, .int (Int32.ofInt ((I 2117)))), (3, .int (Int32.ofInt (y28_3))), (4, .int (Int32.ofInt (y28_4))), (5, .int (Int32.ofInt (y28_5)))], [], M_28) _
              refine w_adv (n := 5) (F' := (72, [(6, .int (Int32.ofInt (y28_5))), (0, .ref 38), (1, .int (Int32.ofInt (0))), (2, .int (Int32.ofInt ((I 2117)))), (3, .int (Int32.ofInt (y28_3))), (4, .int (Int32.ofInt (y28_4))), (5, .int (Int32.ofInt (y28_5)))], [.ref 38], M_28)) rfl ?_
              refine w_gf (v := .ref 26) hR_28 rfl rfl rfl rfl ?_
              refine w_adv (n := 5) (F' := (83, [(6, .int (Int32.ofInt (y28_5))), (0, .ref 38), (1, .int (Int32.ofInt (0))), (2, .int (Int32.ofInt ((I 2117)))), (3, .int (Int32.ofInt (y28_3))), (4, .int (Int32.ofInt (y28_4))), (5, .int (Int32.ofInt (y28_5)))], [.int (Int32.ofInt (y28_5)), .int (Int32.ofInt (y28_5)), .int (Int32.ofInt ((I 2117))), .ref 38, .int (Int32.ofInt (y28_4)), .ref 26], M_28)) rfl ?_
              refine w_call (cm := 128) (as := [(0, .ref 38), (1, .int (Int32.ofInt ((I 2117)))), (2, .int (Int32.ofInt (y28_5))), (3, .int (Int32.ofInt (y28_5)))]) (rest := [.int (Int32.ofInt (y28_4)), .ref 26]) (o := some (4, 38)) rfl (w_fitR hR_28 rfl) (c_slot ((I 2117)) (y28_5) (y28_5) hR_28 (show 4 ≤ d by omega) ⟨by omega, by omega⟩ ⟨by omega, by omega⟩ ⟨by omega, by omega⟩ (show l ≤ 100000 by first | assumption | omega) (show (0 ≤ (I_28 2436) ∧ (I_28 2436) ≤ (I_28 773) ∧ (I_28 773) ≤ 1501 ∧ ((I_28 2437) = 0 ∨ (I_28 2436) < (I_28 773))) ∧ (0 ≤ (I_28 2439) ∧ (I_28 2439) ≤ 24 ∧ 0 ≤ (I_28 2117)) ∧ 0 ≤ (I_28 1670) ∧ (I_28 1670) ≤ 2 * (I_28 2436) + 1 by (repeat' apply And.intro) <;> first | assumption | omega)) (fun r179 M180 q181 => ?_)
              rcases q181 with ⟨v182, I181a, A181a, B181a, C181a, e183, ⟨r184, r185⟩, hR181a, f186, f187, f188, f189, f190⟩ | ⟨t191, I181b, A181b, B181b, C181b, e192, hR181b, f193, f194, f195⟩
              · rw [e183]
                replace hR181a : w_Rep w_TC fr X u l I181a A181a B181a C181a M180 := hR181a
                replace f186 : c_fi c_ps I_28 I181a := f186
                replace f187 : c_fa c_pa A_28 A181a := f187
                replace f188 : (0 ≤ (I181a 2436) ∧ (I181a 2436) ≤ (I181a 773) ∧ ((I181a 2437) = 0 ∨ (I181a 2436) < (I181a 773))) ∧ ((I181a 773) = (I_28 773) ∧ (I181a 2439) = (I_28 2439) ∧ 0 ≤ (I181a 2117)) ∧ (I_28 2436) + 1 ≤ (I181a 2436) ∧ (I181a 1670) + 1 ≤ (I_28 1670) + 2 * ((I181a 2436) - (I_28 2436)) ∧ (I_28 1670) ≤ (I181a 1670) := f188
                obtain ⟨⟨n196, n197, n198⟩, ⟨n199, n200, n201⟩, n202, n203, n204⟩ := id f188
                clear f188
                replace f189 : c_agl A_28 A181a (I_28 1670) := f189
                replace f190 : (I_28 1670) ≤ v182 ∧ v182 < (I181a 1670) := f190
                obtain ⟨n205, n206⟩ := id f190
                clear f190
                have g207 : c_agl A A181a (I 1670) := c_agl_trans hi28_3 f189 (show (I 1670) ≤ (I_28 1670) by omega)
                show w_W _ _ _ (86, [(6, .int (Int32.ofInt (y28_5))), (0, .ref 38), (1, .int (Int32.ofInt (0))), (2, .int (Int32.ofInt ((I 2117)))), (3, .int (Int32.ofInt (y28_3))), (4, .int (Int32.ofInt (y28_4))), (5, .int (Int32.ofInt (y28_5)))], [.int (Int32.ofInt (v182)), .int (Int32.ofInt (y28_4)), .ref 26], M180) _
                refine w_call (cm := 106) (as := [(0, .ref 26), (1, .int (Int32.ofInt (y28_4))), (2, .int (Int32.ofInt (v182)))]) (rest := []) (o := some (8, 26)) rfl (w_fitR hR181a rfl) (c_chn (y28_4) (v182) hR181a (show 2 ≤ d by omega) ⟨by omega, by omega⟩ ⟨by omega, by omega⟩) (fun r208 M209 q210 => ?_)
                rcases q210 with ⟨A211, e212, hR210a, f213, f214⟩
                rw [e212]
                replace hR210a : w_Rep w_TC fr X u l I181a A211 B181a C181a M209 := hR210a
                replace f213 : c_fa c_pa A181a A211 := f213
                replace f214 : c_nxw A181a A211 y28_4 v182 := f214
                have g215 : c_agl A181a A211 (I 1670) := c_agl_nxw f214 (show (I 1670) ≤ y28_4 ∨ y28_4 < 0 by omega)
                have g216 : c_agl A A211 (I 1670) := c_agl_trans g207 g215 (show (I 1670) ≤ (I 1670) by omega)
                show w_W _ _ _ (89, [(6, .int (Int32.ofInt (y28_5))), (0, .ref 38), (1, .int (Int32.ofInt (0))), (2, .int (Int32.ofInt ((I 2117)))), (3, .int (Int32.ofInt (y28_3))), (4, .int (Int32.ofInt (y28_4))), (5, .int (Int32.ofInt (y28_5)))], [.int (Int32.ofInt (v182))], M209) _
                refine w_adv (n := 3) (F' := (93, [(4, .int (Int32.ofInt (v182))), (6, .int (Int32.ofInt (y28_5))), (0, .ref 38), (1, .int (Int32.ofInt (0))), (2, .int (Int32.ofInt ((I 2117)))), (3, .int (Int32.ofInt (y28_3))), (5, .int (Int32.ofInt (y28_5)))], [.int (Int32.ofInt ((-1))), .int (Int32.ofInt (y28_3))], M209)) rfl ?_
                refine w_br2 (a := y28_3) (b := (-1)) rfl rfl ⟨by omega, by omega⟩ ⟨by omega, by omega⟩ (fun h217 => ?_) (fun h217 => ?_)
                · have h217 : ¬ y28_3 = (-1) := h217
                  show w_W _ _ _ (101, [(4, .int (Int32.ofInt (v182))), (6, .int (Int32.ofInt (y28_5))), (0, .ref 38), (1, .int (Int32.ofInt (0))), (2, .int (Int32.ofInt ((I 2117)))), (3, .int (Int32.ofInt (y28_3))), (5, .int (Int32.ofInt (y28_5)))], [], M209) _
                  refine w_adv (n := 2) (F' := (103, [(3, .int (Int32.ofInt (y28_3))), (4, .int (Int32.ofInt (v182))), (6, .int (Int32.ofInt (y28_5))), (0, .ref 38), (1, .int (Int32.ofInt (0))), (2, .int (Int32.ofInt ((I 2117)))), (5, .int (Int32.ofInt (y28_5)))], [], M209)) rfl ?_
                  refine w_inc (nL := 7) (a := y28_5) rfl rfl rfl (by decide) ?_
                  refine w_adv (n := 1) (F' := (28, [(5, .int (Int32.ofInt (y28_5 + 1))), (3, .int (Int32.ofInt (y28_3))), (4, .int (Int32.ofInt (v182))), (6, .int (Int32.ofInt (y28_5))), (0, .ref 38), (1, .int (Int32.ofInt (0))), (2, .int (Int32.ofInt ((I 2117))))], [], M209)) rfl ?_
                  refine w_ls (ls := [(0, .ref 38), (1, .int (Int32.ofInt (0))), (2, .int (Int32.ofInt ((I 2117)))), (3, .int (Int32.ofInt (y28_3))), (4, .int (Int32.ofInt (v182))), (5, .int (Int32.ofInt (y28_5 + 1)))]) (show List.Nodup [0, 1, 2, 3, 4, 5] by decide) (show List.Nodup [5, 3, 4, 6, 0, 1, 2] by decide) (List.forall_mem_cons.mpr ⟨(List.Mem.tail _ (List.Mem.tail _ (List.Mem.tail _ (List.Mem.tail _ (List.Mem.head _))))), (List.forall_mem_cons.mpr ⟨(List.Mem.tail _ (List.Mem.tail _ (List.Mem.tail _ (List.Mem.tail _ (List.Mem.tail _ (List.Mem.head _)))))), (List.forall_mem_cons.mpr ⟨(List.Mem.tail _ (List.Mem.tail _ (List.Mem.tail _ (List.Mem.tail _ (List.Mem.tail _ (List.Mem.tail _ (List.Mem.head _))))))), (List.forall_mem_cons.mpr ⟨(List.Mem.tail _ (List.Mem.head _)), (List.forall_mem_cons.mpr ⟨(List.Mem.tail _ (List.Mem.tail _ (List.Mem.head _))), (List.forall_mem_cons.mpr ⟨(List.Mem.head _), (fun _ h => by cases h)⟩)⟩)⟩)⟩)⟩)⟩) ?_
                  exact ih28  (y28_3) (v182) (y28_5 + 1) I181a A211 B181a C181a M209 hR210a ⟨by omega, by omega⟩ ⟨by omega, by omega⟩ ⟨by omega, by omega⟩ (show c_fi c_ps I I181a by exact (c_fi_trans hi28_0 f186)) (show c_fa c_pa A A211 by exact (c_fa_trans (c_fa_trans hi28_1 f187) f213)) (show (0 ≤ (I181a 2436) ∧ (I181a 2436) ≤ (I181a 773) ∧ ((I181a 2437) = 0 ∨ (I181a 2436) < (I181a 773))) ∧ ((I181a 773) = (I 773) ∧ (I181a 2439) = (I 2439) + 1 ∧ 0 ≤ (I181a 2117)) ∧ (I 2436) + 1 ≤ (I181a 2436) ∧ (I181a 1670) + 2 ≤ (I 1670) + 2 * ((I181a 2436) - (I 2436)) ∧ (I 1670) ≤ (I181a 1670) by (repeat' apply And.intro) <;> first | assumption | omega) (show c_agl A A211 (I 1670) by exact g216) (show 1 ≤ (y28_5 + 1) ∧ (y28_5 + 1) ≤ 34 by omega) (show v182 = -1 ∨ (I 1670) ≤ v182 by omega) (show 34 - (y28_5 + 1) < (fu28 : Int) by omega)
                · have h217 : ¬ (¬ y28_3 = (-1)) := h217
                  show w_W _ _ _ (96, [(4, .int (Int32.ofInt (v182))), (6, .int (Int32.ofInt (y28_5))), (0, .ref 38), (1, .int (Int32.ofInt (0))), (2, .int (Int32.ofInt ((I 2117)))), (3, .int (Int32.ofInt (y28_3))), (5, .int (Int32.ofInt (y28_5)))], [], M209) _
                  refine w_adv (n := 3) (F' := (103, [(3, .int (Int32.ofInt (v182))), (4, .int (Int32.ofInt (v182))), (6, .int (Int32.ofInt (y28_5))), (0, .ref 38), (1, .int (Int32.ofInt (0))), (2, .int (Int32.ofInt ((I 2117)))), (5, .int (Int32.ofInt (y28_5)))], [], M209)) rfl ?_
                  refine w_inc (nL := 7) (a := y28_5) rfl rfl rfl (by decide) ?_
                  refine w_adv (n := 1) (F' := (28, [(5, .int (Int32.ofInt (y28_5 + 1))), (3, .int (Int32.ofInt (v182))), (4, .int (Int32.ofInt (v182))), (6, .int (Int32.ofInt (y28_5))), (0, .ref 38), (1, .int (Int32.ofInt (0))), (2, .int (Int32.ofInt ((I 2117))))], [], M209)) rfl ?_
                  refine w_ls (ls := [(0, .ref 38), (1, .int (Int32.ofInt (0))), (2, .int (Int32.ofInt ((I 2117)))), (3, .int (Int32.ofInt (v182))), (4, .int (Int32.ofInt (v182))), (5, .int (Int32.ofInt (y28_5 + 1)))]) (show List.Nodup [0, 1, 2, 3, 4, 5] by decide) (show List.Nodup [5, 3, 4, 6, 0, 1, 2] by decide) (List.forall_mem_cons.mpr ⟨(List.Mem.tail _ (List.Mem.tail _ (List.Mem.tail _ (List.Mem.tail _ (List.Mem.head _))))), (List.forall_mem_cons.mpr ⟨(List.Mem.tail _ (List.Mem.tail _ (List.Mem.tail _ (List.Mem.tail _ (List.Mem.tail _ (List.Mem.head _)))))), (List.forall_mem_cons.mpr ⟨(List.Mem.tail _ (List.Mem.tail _ (List.Mem.tail _ (List.Mem.tail _ (List.Mem.tail _ (List.Mem.tail _ (List.Mem.head _))))))), (List.forall_mem_cons.mpr ⟨(List.Mem.tail _ (List.Mem.head _)), (List.forall_mem_cons.mpr ⟨(List.Mem.tail _ (List.Mem.tail _ (List.Mem.head _))), (List.forall_mem_cons.mpr ⟨(List.Mem.head _), (fun _ h => by cases h)⟩)⟩)⟩)⟩)⟩)⟩) ?_
                  exact ih28  (v182) (v182) (y28_5 + 1) I181a A211 B181a C181a M209 hR210a ⟨by omega, by omega⟩ ⟨by omega, by omega⟩ ⟨by omega, by omega⟩ (show c_fi c_ps I I181a by exact (c_fi_trans hi28_0 f186)) (show c_fa c_pa A A211 by exact (c_fa_trans (c_fa_trans hi28_1 f187) f213)) (show (0 ≤ (I181a 2436) ∧ (I181a 2436) ≤ (I181a 773) ∧ ((I181a 2437) = 0 ∨ (I181a 2436) < (I181a 773))) ∧ ((I181a 773) = (I 773) ∧ (I181a 2439) = (I 2439) + 1 ∧ 0 ≤ (I181a 2117)) ∧ (I 2436) + 1 ≤ (I181a 2436) ∧ (I181a 1670) + 2 ≤ (I 1670) + 2 * ((I181a 2436) - (I 2436)) ∧ (I 1670) ≤ (I181a 1670) by (repeat' apply And.intro) <;> first | assumption | omega) (show c_agl A A211 (I 1670) by exact g216) (show 1 ≤ (y28_5 + 1) ∧ (y28_5 + 1) ≤ 34 by omega) (show v182 = -1 ∨ (I 1670) ≤ v182 by omega) (show 34 - (y28_5 + 1) < (fu28 : Int) by omega)
              · rw [e192]
                replace hR181b : w_Rep w_TC fr X (u + 6) (l + 64) I181b A181b B181b C181b M180 := hR181b
                replace f193 : c_fi c_ps I_28 I181b := f193
                replace f194 : c_fa c_pa A_28 A181b := f194
                replace f195 : M180.1[t191]? = some (.inr (11, [])) := f195
                exact Or.inr (⟨t191, I181b, A181b, B181b, C181b, rfl, hR181b, (show c_fi c_ps I I181b by exact (c_fi_trans hi28_0 f193)), (show c_fa c_pa A A181b by exact (c_fa_trans hi28_1 f194)), (show M180.1[t191]? = some (.inr (11, [])) by exact f195)⟩)
      refine w_ls (ls := [(0, .ref 38), (1, .int (Int32.ofInt (0))), (2, .int (Int32.ofInt ((I 2117)))), (3, .int (Int32.ofInt ((-1)))), (4, .int (Int32.ofInt ((-1)))), (5, .int (Int32.ofInt (1)))]) (show List.Nodup [0, 1, 2, 3, 4, 5] by decide) (show List.Nodup [5, 4, 3, 2, 1, 0] by decide) (List.forall_mem_cons.mpr ⟨(List.Mem.tail _ (List.Mem.tail _ (List.Mem.tail _ (List.Mem.tail _ (List.Mem.tail _ (List.Mem.head _)))))), (List.forall_mem_cons.mpr ⟨(List.Mem.tail _ (List.Mem.tail _ (List.Mem.tail _ (List.Mem.tail _ (List.Mem.head _))))), (List.forall_mem_cons.mpr ⟨(List.Mem.tail _ (List.Mem.tail _ (List.Mem.tail _ (List.Mem.head _)))), (List.forall_mem_cons.mpr ⟨(List.Mem.tail _ (List.Mem.tail _ (List.Mem.head _))), (List.forall_mem_cons.mpr ⟨(List.Mem.tail _ (List.Mem.head _)), (List.forall_mem_cons.mpr ⟨(List.Mem.head _), (fun _ h => by cases h)⟩)⟩)⟩)⟩)⟩)⟩) ?_
      exact lp28 ((34 - 1 : Int).toNat + 1)  ((-1)) ((-1)) (1) (w_up (w_up (w_up (w_up (w_up I 2436 ((I 2436) + 1)) 2441 (zt4)) 2437 (zk5)) 2438 (zv6)) 2439 ((I 2439) + 1)) A B C M2 hR3a ⟨by omega, by omega⟩ ⟨by omega, by omega⟩ ⟨by omega, by omega⟩ (show c_fi c_ps I (w_up (w_up (w_up (w_up (w_up I 2436 ((I 2436) + 1)) 2441 (zt4)) 2437 (zk5)) 2438 (zv6)) 2439 ((I 2439) + 1)) by exact (c_fi_up (c_fi_up (c_fi_up (c_fi_up (c_fi_up c_fi_refl rfl) rfl) rfl) rfl) rfl)) (show c_fa c_pa A A by exact c_fa_refl) (show (0 ≤ (I 2436) + 1 ∧ (I 2436) + 1 ≤ (I 773) ∧ (zk5 = 0 ∨ (I 2436) + 1 < (I 773))) ∧ ((I 773) = (I 773) ∧ (I 2439) + 1 = (I 2439) + 1 ∧ 0 ≤ (I 2117)) ∧ (I 2436) + 1 ≤ (I 2436) + 1 ∧ (I 1670) + 2 ≤ (I 1670) + 2 * (((I 2436) + 1) - (I 2436)) ∧ (I 1670) ≤ (I 1670) by (repeat' apply And.intro) <;> first | assumption | omega) (show c_agl A A (I 1670) by exact c_agl_refl) (show 1 ≤ (1 : Int) ∧ (1 : Int) ≤ 34 by omega) (show ((-1) : Int) = -1 ∨ (I 1670) ≤ ((-1) : Int) by omega) (show 34 - 1 < (((34 - 1 : Int).toNat + 1 : Nat) : Int) by omega)
  · rw [e11]
    replace hR3b : w_Rep w_TC fr X (u + 6) (l + 64) I3b A3b B3b C3b M2 := hR3b
    replace f12 : c_fi c_ps I I3b := f12
    replace f13 : c_fa c_pa A A3b := f13
    replace f14 : M2.1[t10]? = some (.inr (11, [])) := f14
    exact Or.inr (⟨t10, I3b, A3b, B3b, C3b, rfl, hR3b, (show c_fi c_ps I I3b by exact f12), (show c_fa c_pa A A3b by exact f13), (show M2.1[t10]? = some (.inr (11, [])) by exact f14)⟩)
