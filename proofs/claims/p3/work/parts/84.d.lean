/-! PARSER of the class: slots, patterns. -/
def c_slots_Q (fr : Nat → Bool) (X : Nat → Option (q_C (Nat → Int32))) (u l : Nat) (I : Nat → Int) (A : Nat → Int → Int) (B C : Nat → Nat) (M : w_M) : w_X → w_M → Prop := fun r M' => (∃ v : Int, ∃ (I' : Nat → Int) (A' : Nat → Int → Int) (B' C' : Nat → Nat), (r = .inl (some v)) ∧ (w_in v) ∧ (w_Rep w_TC fr X u l I' A' B' C' M') ∧ (c_fi c_ps I I') ∧ (c_fa c_pa A A') ∧ ((0 ≤ (I' 2436) ∧ (I' 2436) ≤ (I' 773) ∧ ((I' 2437) = 0 ∨ (I' 2436) < (I' 773))) ∧ ((I' 773) = (I 773) ∧ (I' 2439) = (I 2439) ∧ 0 ≤ (I' 2117)) ∧ (I 2436) + 2 ≤ (I' 2436) ∧ (I' 1670) + 0 ≤ (I 1670) + 2 * ((I' 2436) - (I 2436)) ∧ (I 1670) ≤ (I' 1670)) ∧ (c_agl A A' (I 1670))) ∨ (∃ t : Nat, ∃ (I' : Nat → Int) (A' : Nat → Int → Int) (B' C' : Nat → Nat), (r = .inr t) ∧ (w_Rep w_TC fr X (u + 6) (l + 64) I' A' B' C' M') ∧ (c_fi c_ps I I') ∧ (c_fa c_pa A A') ∧ (M'.1[t]? = some (.inr (11, []))))
set_option maxHeartbeats 100000000 in
set_option maxRecDepth 100000 in
theorem c_slots {L : Nat} {xs : Nat → Int32} {d : Nat} {fr : Nat → Bool} {X : Nat → Option (q_C (Nat → Int32))} {u l : Nat} {I : Nat → Int} {A : Nat → Int → Int} {B C : Nat → Nat} {M : w_M} (hR : w_Rep w_TC fr X u l I A B C M) (hd : 6 ≤ d) (hl : l ≤ 7000000) (hNU : (0 ≤ (I 2436) ∧ (I 2436) ≤ (I 773) ∧ (I 773) ≤ 1501 ∧ ((I 2437) = 0 ∨ (I 2436) < (I 773))) ∧ (0 ≤ (I 2439) ∧ (I 2439) ≤ 24 ∧ 0 ≤ (I 2117)) ∧ 0 ≤ (I 1670) ∧ (I 1670) ≤ 2 * (I 2436) + 1) (hk0 : ¬ (I 2437) = 0) : w_W (z_P L xs) d 127 (0, [(0, .ref 38)], [], M) (c_slots_Q fr X u l I A B C M) := by
  obtain ⟨d, rfl⟩ : ∃ d0, d = d0 + 1 := ⟨d - 1, by omega⟩
  refine w_adv (n := 1) (F' := (1, [(0, .ref 38)], [.ref 38], M)) rfl ?_
  refine w_call (cm := 99) (as := [(0, .ref 38)]) (rest := []) (o := some (4, 38)) rfl (w_fitR hR rfl) (c_open hR (show 4 ≤ d by omega) (show l ≤ 7000000 by first | assumption | omega) (show -1 ≤ (I 2436) ∧ (I 2436) < (I 773) ∧ (I 773) ≤ 1501 by first | assumption | omega) (show 0 ≤ (I 2439) ∧ (I 2439) ≤ 24 by first | assumption | omega)) (fun r1 M2 q3 => ?_)
  rcases q3 with ⟨zt4, zk5, zv6, e7, hR3a, f8, f9⟩ | ⟨t10, I3b, A3b, B3b, C3b, e11, hR3b, f12, f13, f14⟩
  · rw [e7]
    replace hR3a : w_Rep w_TC fr X u l (w_up (w_up (w_up (w_up (w_up I 2436 ((I 2436) + 1)) 2441 (zt4)) 2437 (zk5)) 2438 (zv6)) 2439 ((I 2439) + 1)) A B C M2 := hR3a
    replace f8 : ((I 2436) + 1 < (I 773) ∨ zk5 = 0) := f8
    replace f9 : (I 2439) < 24 := f9
    show w_W _ _ _ (4, [(0, .ref 38)], [], M2) _
    refine w_adv (n := 1) (F' := (5, [(0, .ref 38)], [.ref 38], M2)) rfl ?_
    refine w_gf (v := .int (Int32.ofInt (zk5))) hR3a rfl rfl rfl rfl ?_
    obtain ⟨r15, r16⟩ : -2147483648 ≤ zk5 ∧ zk5 ≤ 2147483647 := hR3a.ri 2437
    refine w_call (cm := 101) (as := [(0, .int (Int32.ofInt (zk5)))]) (rest := []) (o := none) rfl (trivial) (c_isFeature (zk5) hR3a ⟨by omega, by omega⟩) (fun r17 M18 q19 => ?_)
    rcases q19 with ⟨e20, e21, f22⟩ | ⟨e23, e24⟩
    · rw [e20, e21]
      replace f22 : ¬ zk5 = 0 := f22
      show w_W _ _ _ (11, [(0, .ref 38)], [.int (Int32.ofInt (1))], M2) _
      refine w_adv (n := 2) (F' := (13, [(1, .int (Int32.ofInt (1))), (0, .ref 38)], [.ref 38], M2)) rfl ?_
      refine w_gf (v := .ref 33) hR3a rfl rfl rfl rfl ?_
      refine w_call (cm := 118) (as := [(0, .ref 33)]) (rest := []) (o := some (5, 33)) rfl (w_fitR hR3a rfl) (c_snext hR3a) (fun r25 M26 q27 => ?_)
      rcases q27 with ⟨e28, e29⟩
      rw [e28, e29]
      obtain ⟨r30, r31⟩ : -2147483648 ≤ (I 2117) ∧ (I 2117) ≤ 2147483647 := hR3a.ri 2117
      show w_W _ _ _ (19, [(1, .int (Int32.ofInt (1))), (0, .ref 38)], [.int (Int32.ofInt ((I 2117)))], M2) _
      refine w_adv (n := 7) (F' := (28, [(5, .int (Int32.ofInt (1))), (4, .int (Int32.ofInt ((-1)))), (3, .int (Int32.ofInt ((-1)))), (2, .int (Int32.ofInt ((I 2117)))), (1, .int (Int32.ofInt (1))), (0, .ref 38)], [], M2)) rfl ?_
      have lp28 : ∀ fu28 : Nat, ∀ (y28_3 : Int) (y28_4 : Int) (y28_5 : Int) (I_28 : Nat → Int) (A_28 : Nat → Int → Int) (B_28 C_28 : Nat → Nat) (M_28 : w_M) (hR_28 : w_Rep w_TC fr X u l I_28 A_28 B_28 C_28 M_28), w_in y28_3 → w_in y28_4 → w_in y28_5 → c_fi c_ps I I_28 → c_fa c_pa A A_28 → (0 ≤ (I_28 2436) ∧ (I_28 2436) ≤ (I_28 773) ∧ ((I_28 2437) = 0 ∨ (I_28 2436) < (I_28 773))) ∧ ((I_28 773) = (I 773) ∧ (I_28 2439) = (I 2439) + 1 ∧ 0 ≤ (I_28 2117)) ∧ (I 2436) + 1 ≤ (I_28 2436) ∧ (I_28 1670) + 2 ≤ (I 1670) + 2 * ((I_28 2436) - (I 2436)) ∧ (I 1670) ≤ (I_28 1670) → c_agl A A_28 (I 1670) → 1 ≤ y28_5 ∧ y28_5 ≤ 34 → y28_4 = -1 ∨ (I 1670) ≤ y28_4 → 34 - y28_5 < (fu28 : Int) → w_W (z_P L xs) (d + 1) 127 (28, [(0, .ref 38), (1, .int (Int32.ofInt (1))), (2, .int (Int32.ofInt ((I 2117)))), (3, .int (Int32.ofInt (y28_3))), (4, .int (Int32.ofInt (y28_4))), (5, .int (Int32.ofInt (y28_5)))], [], M_28) (c_slots_Q fr X u l I A B C M) := by
        intro fu28
        induction fu28 with
        | zero =>
          intro y28_3 y28_4 y28_5 I_28 A_28 B_28 C_28 M_28 hR_28 ⟨ra_y28_3, rb_y28_3⟩ ⟨ra_y28_4, rb_y28_4⟩ ⟨ra_y28_5, rb_y28_5⟩ hi28_0 hi28_1 hi28_2 hi28_3 hi28_4 hi28_5 hn28
          exfalso
          omega
        | succ fu28 ih28 =>
          intro y28_3 y28_4 y28_5 I_28 A_28 B_28 C_28 M_28 hR_28 ⟨ra_y28_3, rb_y28_3⟩ ⟨ra_y28_4, rb_y28_4⟩ ⟨ra_y28_5, rb_y28_5⟩ hi28_0 hi28_1 hi28_2 hi28_3 hi28_4 hi28_5 hn28
          refine w_adv (n := 2) (F' := (32, [(0, .ref 38), (1, .int (Int32.ofInt (1))), (2, .int (Int32.ofInt ((I 2117)))), (3, .int (Int32.ofInt (y28_3))), (4, .int (Int32.ofInt (y28_4))), (5, .int (Int32.ofInt (y28_5)))], [.int (Int32.ofInt (33)), .int (Int32.ofInt (y28_5))], M_28)) rfl ?_
          refine w_br2 (a := y28_5) (b := 33) rfl rfl ⟨by omega, by omega⟩ ⟨by omega, by omega⟩ (fun h32 => ?_) (fun h32 => ?_)
          · have h32 : y28_5 > 33 := h32
            show w_W _ _ _ (109, [(0, .ref 38), (1, .int (Int32.ofInt (1))), (2, .int (Int32.ofInt ((I 2117)))), (3, .int (Int32.ofInt (y28_3))), (4, .int (Int32.ofInt (y28_4))), (5, .int (Int32.ofInt (y28_5)))], [], M_28) _
            refine w_adv (n := 2) (F' := (112, [(0, .ref 38), (1, .int (Int32.ofInt (1))), (2, .int (Int32.ofInt ((I 2117)))), (3, .int (Int32.ofInt (y28_3))), (4, .int (Int32.ofInt (y28_4))), (5, .int (Int32.ofInt (y28_5)))], [.int (Int32.ofInt (6)), .ref 38], M_28)) rfl ?_
            refine w_call (cm := 113) (as := [(0, .ref 38), (1, .int (Int32.ofInt (6)))]) (rest := []) (o := some (4, 38)) rfl (w_fitR hR_28 rfl) (c_close (6) hR_28 (show 4 ≤ d by omega) ⟨by omega, by omega⟩ (show l ≤ 7000000 by first | assumption | omega) (show -1 ≤ (I_28 2436) ∧ ((I_28 2437) = 0 ∨ (I_28 2436) < (I_28 773)) ∧ (I_28 773) ≤ 1501 ∧ 1 ≤ 6 by first | assumption | omega) (show 0 ≤ (I_28 2439) ∧ (I_28 2439) ≤ 24 by first | assumption | omega)) (fun r33 M34 q35 => ?_)
            rcases q35 with ⟨zt36, zk37, zv38, e39, hR35a, f40, f41⟩ | ⟨t42, I35b, A35b, B35b, C35b, e43, hR35b, f44, f45, f46⟩
            · rw [e39]
              replace hR35a : w_Rep w_TC fr X u l (w_up (w_up (w_up (w_up (w_up I_28 2436 ((I_28 2436) + 1)) 2441 (zt36)) 2437 (zk37)) 2438 (zv38)) 2439 ((I_28 2439) - 1)) A_28 B_28 C_28 M34 := hR35a
              replace f40 : ((I_28 2436) + 1 < (I_28 773) ∨ zk37 = 0) := f40
              replace f41 : (I_28 2437) = 6 := f41
              show w_W _ _ _ (115, [(0, .ref 38), (1, .int (Int32.ofInt (1))), (2, .int (Int32.ofInt ((I 2117)))), (3, .int (Int32.ofInt (y28_3))), (4, .int (Int32.ofInt (y28_4))), (5, .int (Int32.ofInt (y28_5)))], [], M34) _
              refine w_adv (n := 1) (F' := (116, [(0, .ref 38), (1, .int (Int32.ofInt (1))), (2, .int (Int32.ofInt ((I 2117)))), (3, .int (Int32.ofInt (y28_3))), (4, .int (Int32.ofInt (y28_4))), (5, .int (Int32.ofInt (y28_5)))], [.int (Int32.ofInt (y28_3))], M34)) rfl ?_
              refine w_fin (r := .inl (some (y28_3))) (M' := M34) rfl ?_
              exact Or.inl ⟨y28_3, (w_up (w_up (w_up (w_up (w_up I_28 2436 ((I_28 2436) + 1)) 2441 (zt36)) 2437 (zk37)) 2438 (zv38)) 2439 ((I_28 2439) - 1)), A_28, B_28, C_28, rfl, ⟨by omega, by omega⟩, hR35a, (show c_fi c_ps I (w_up (w_up (w_up (w_up (w_up I_28 2436 ((I_28 2436) + 1)) 2441 (zt36)) 2437 (zk37)) 2438 (zv38)) 2439 ((I_28 2439) - 1)) by exact (c_fi_up (c_fi_up (c_fi_up (c_fi_up (c_fi_up hi28_0 rfl) rfl) rfl) rfl) rfl)), (show c_fa c_pa A A_28 by exact hi28_1), (show (0 ≤ (I_28 2436) + 1 ∧ (I_28 2436) + 1 ≤ (I_28 773) ∧ (zk37 = 0 ∨ (I_28 2436) + 1 < (I_28 773))) ∧ ((I_28 773) = (I 773) ∧ (I_28 2439) - 1 = (I 2439) ∧ 0 ≤ (I_28 2117)) ∧ (I 2436) + 2 ≤ (I_28 2436) + 1 ∧ (I_28 1670) + 0 ≤ (I 1670) + 2 * (((I_28 2436) + 1) - (I 2436)) ∧ (I 1670) ≤ (I_28 1670) by (repeat' apply And.intro) <;> first | assumption | omega), (show c_agl A A_28 (I 1670) by exact hi28_3)⟩
            · rw [e43]
              replace hR35b : w_Rep w_TC fr X (u + 6) (l + 64) I35b A35b B35b C35b M34 := hR35b
              replace f44 : c_fi c_ps I_28 I35b := f44
              replace f45 : c_fa c_pa A_28 A35b := f45
              replace f46 : M34.1[t42]? = some (.inr (11, [])) := f46
              exact Or.inr (⟨t42, I35b, A35b, B35b, C35b, rfl, hR35b, (show c_fi c_ps I I35b by exact (c_fi_trans hi28_0 f44)), (show c_fa c_pa A A35b by exact (c_fa_trans hi28_1 f45)), (show M34.1[t42]? = some (.inr (11, [])) by exact f46)⟩)
          · have h32 : ¬ (y28_5 > 33) := h32
            show w_W _ _ _ (35, [(0, .ref 38), (1, .int (Int32.ofInt (1))), (2, .int (Int32.ofInt ((I 2117)))), (3, .int (Int32.ofInt (y28_3))), (4, .int (Int32.ofInt (y28_4))), (5, .int (Int32.ofInt (y28_5)))], [], M_28) _
            refine w_adv (n := 1) (F' := (36, [(0, .ref 38), (1, .int (Int32.ofInt (1))), (2, .int (Int32.ofInt ((I 2117)))), (3, .int (Int32.ofInt (y28_3))), (4, .int (Int32.ofInt (y28_4))), (5, .int (Int32.ofInt (y28_5)))], [.ref 38], M_28)) rfl ?_
            refine w_gf (v := .int (Int32.ofInt ((I_28 2437)))) hR_28 rfl rfl rfl rfl ?_
            obtain ⟨r47, r48⟩ : -2147483648 ≤ (I_28 2437) ∧ (I_28 2437) ≤ 2147483647 := hR_28.ri 2437
            refine w_adv (n := 1) (F' := (41, [(0, .ref 38), (1, .int (Int32.ofInt (1))), (2, .int (Int32.ofInt ((I 2117)))), (3, .int (Int32.ofInt (y28_3))), (4, .int (Int32.ofInt (y28_4))), (5, .int (Int32.ofInt (y28_5)))], [.int (Int32.ofInt (6)), .int (Int32.ofInt ((I_28 2437)))], M_28)) rfl ?_
            refine w_br2 (a := (I_28 2437)) (b := 6) rfl rfl ⟨by omega, by omega⟩ ⟨by omega, by omega⟩ (fun h49 => ?_) (fun h49 => ?_)
            · have h49 : (I_28 2437) = 6 := h49
              show w_W _ _ _ (109, [(0, .ref 38), (1, .int (Int32.ofInt (1))), (2, .int (Int32.ofInt ((I 2117)))), (3, .int (Int32.ofInt (y28_3))), (4, .int (Int32.ofInt (y28_4))), (5, .int (Int32.ofInt (y28_5)))], [], M_28) _
              refine w_adv (n := 2) (F' := (112, [(0, .ref 38), (1, .int (Int32.ofInt (1))), (2, .int (Int32.ofInt ((I 2117)))), (3, .int (Int32.ofInt (y28_3))), (4, .int (Int32.ofInt (y28_4))), (5, .int (Int32.ofInt (y28_5)))], [.int (Int32.ofInt (6)), .ref 38], M_28)) rfl ?_
              refine w_call (cm := 113) (as := [(0, .ref 38), (1, .int (Int32.ofInt (6)))]) (rest := []) (o := some (4, 38)) rfl (w_fitR hR_28 rfl) (c_close (6) hR_28 (show 4 ≤ d by omega) ⟨by omega, by omega⟩ (show l ≤ 7000000 by first | assumption | omega) (show -1 ≤ (I_28 2436) ∧ ((I_28 2437) = 0 ∨ (I_28 2436) < (I_28 773)) ∧ (I_28 773) ≤ 1501 ∧ 1 ≤ 6 by first | assumption | omega) (show 0 ≤ (I_28 2439) ∧ (I_28 2439) ≤ 24 by first | assumption | omega)) (fun r50 M51 q52 => ?_)
              rcases q52 with ⟨zt53, zk54, zv55, e56, hR52a, f57, f58⟩ | ⟨t59, I52b, A52b, B52b, C52b, e60, hR52b, f61, f62, f63⟩
              · rw [e56]
                replace hR52a : w_Rep w_TC fr X u l (w_up (w_up (w_up (w_up (w_up I_28 2436 ((I_28 2436) + 1)) 2441 (zt53)) 2437 (zk54)) 2438 (zv55)) 2439 ((I_28 2439) - 1)) A_28 B_28 C_28 M51 := hR52a
                replace f57 : ((I_28 2436) + 1 < (I_28 773) ∨ zk54 = 0) := f57
                replace f58 : (I_28 2437) = 6 := f58
                show w_W _ _ _ (115, [(0, .ref 38), (1, .int (Int32.ofInt (1))), (2, .int (Int32.ofInt ((I 2117)))), (3, .int (Int32.ofInt (y28_3))), (4, .int (Int32.ofInt (y28_4))), (5, .int (Int32.ofInt (y28_5)))], [], M51) _
                refine w_adv (n := 1) (F' := (116, [(0, .ref 38), (1, .int (Int32.ofInt (1))), (2, .int (Int32.ofInt ((I 2117)))), (3, .int (Int32.ofInt (y28_3))), (4, .int (Int32.ofInt (y28_4))), (5, .int (Int32.ofInt (y28_5)))], [.int (Int32.ofInt (y28_3))], M51)) rfl ?_
                refine w_fin (r := .inl (some (y28_3))) (M' := M51) rfl ?_
                exact Or.inl ⟨y28_3, (w_up (w_up (w_up (w_up (w_up I_28 2436 ((I_28 2436) + 1)) 2441 (zt53)) 2437 (zk54)) 2438 (zv55)) 2439 ((I_28 2439) - 1)), A_28, B_28, C_28, rfl, ⟨by omega, by omega⟩, hR52a, (show c_fi c_ps I (w_up (w_up (w_up (w_up (w_up I_28 2436 ((I_28 2436) + 1)) 2441 (zt53)) 2437 (zk54)) 2438 (zv55)) 2439 ((I_28 2439) - 1)) by exact (c_fi_up (c_fi_up (c_fi_up (c_fi_up (c_fi_up hi28_0 rfl) rfl) rfl) rfl) rfl)), (show c_fa c_pa A A_28 by exact hi28_1), (show (0 ≤ (I_28 2436) + 1 ∧ (I_28 2436) + 1 ≤ (I_28 773) ∧ (zk54 = 0 ∨ (I_28 2436) + 1 < (I_28 773))) ∧ ((I_28 773) = (I 773) ∧ (I_28 2439) - 1 = (I 2439) ∧ 0 ≤ (I_28 2117)) ∧ (I 2436) + 2 ≤ (I_28 2436) + 1 ∧ (I_28 1670) + 0 ≤ (I 1670) + 2 * (((I_28 2436) + 1) - (I 2436)) ∧ (I 1670) ≤ (I_28 1670) by (repeat' apply And.intro) <;> first | assumption | omega), (show c_agl A A_28 (I 1670) by exact hi28_3)⟩
              · rw [e60]
                replace hR52b : w_Rep w_TC fr X (u + 6) (l + 64) I52b A52b B52b C52b M51 := hR52b
                replace f61 : c_fi c_ps I_28 I52b := f61
                replace f62 : c_fa c_pa A_28 A52b := f62
                replace f63 : M51.1[t59]? = some (.inr (11, [])) := f63
                exact Or.inr (⟨t59, I52b, A52b, B52b, C52b, rfl, hR52b, (show c_fi c_ps I I52b by exact (c_fi_trans hi28_0 f61)), (show c_fa c_pa A A52b by exact (c_fa_trans hi28_1 f62)), (show M51.1[t59]? = some (.inr (11, [])) by exact f63)⟩)
            · have h49 : ¬ ((I_28 2437) = 6) := h49
              show w_W _ _ _ (44, [(0, .ref 38), (1, .int (Int32.ofInt (1))), (2, .int (Int32.ofInt ((I 2117)))), (3, .int (Int32.ofInt (y28_3))), (4, .int (Int32.ofInt (y28_4))), (5, .int (Int32.ofInt (y28_5)))], [], M_28) _
              refine w_adv (n := 7) (F' := (56, [(6, .int (Int32.ofInt (y28_5))), (0, .ref 38), (1, .int (Int32.ofInt (1))), (2, .int (Int32.ofInt ((I 2117)))), (3, .int (Int32.ofInt (y28_3))), (4, .int (Int32.ofInt (y28_4))), (5, .int (Int32.ofInt (y28_5)))], [.int (Int32.ofInt (y28_5)), .int (Int32.ofInt (y28_3)), .ref 38], M_28)) rfl ?_
              refine w_call (cm := 103) (as := [(0, .ref 38), (1, .int (Int32.ofInt (y28_3))), (2, .int (Int32.ofInt (y28_5)))]) (rest := []) (o := some (4, 38)) rfl (w_fitR hR_28 rfl) (c_feature (y28_3) (y28_5) hR_28 (show 3 ≤ d by omega) ⟨by omega, by omega⟩ ⟨by omega, by omega⟩ (show l ≤ 7000000 by first | assumption | omega)) (fun r64 M65 q66 => ?_)
              rcases q66 with ⟨v67, e68, ⟨r69, r70⟩, e71, f72⟩ | ⟨t73, I66b, A66b, B66b, C66b, e74, hR66b, f75, f76, f77⟩
              · rw [e68, e71]
                replace f72 : ¬ (I_28 2437) = 0 := f72
                show w_W _ _ _ (59, [(6, .int (Int32.ofInt (y28_5))), (0, .ref 38), (1, .int (Int32.ofInt (1))), (2, .int (Int32.ofInt ((I 2117)))), (3, .int (Int32.ofInt (y28_3))), (4, .int (Int32.ofInt (y28_4))), (5, .int (Int32.ofInt (y28_5)))], [.int (Int32.ofInt (v67))], M_28) _
                refine w_adv (n := 2) (F' := (62, [(6, .int (Int32.ofInt (v67))), (0, .ref 38), (1, .int (Int32.ofInt (1))), (2, .int (Int32.ofInt ((I 2117)))), (3, .int (Int32.ofInt (y28_3))), (4, .int (Int32.ofInt (y28_4))), (5, .int (Int32.ofInt (y28_5)))], [.ref 38], M_28)) rfl ?_
                refine w_call (cm := 80) (as := [(0, .ref 38)]) (rest := []) (o := some (4, 38)) rfl (w_fitR hR_28 rfl) (c_advance hR_28 (show 3 ≤ d by omega) (show l ≤ 7000000 by first | assumption | omega) (show -1 ≤ (I_28 2436) ∧ (I_28 2436) < (I_28 773) ∧ (I_28 773) ≤ 1501 by first | assumption | omega)) (fun r78 M79 q80 => ?_)
                rcases q80 with ⟨zt81, zk82, zv83, e84, hR80a, f85⟩ | ⟨t86, I80b, A80b, B80b, C80b, e87, hR80b, f88, f89, f90⟩
                · rw [e84]
                  replace hR80a : w_Rep w_TC fr X u l (w_up (w_up (w_up (w_up I_28 2436 ((I_28 2436) + 1)) 2441 (zt81)) 2437 (zk82)) 2438 (zv83)) A_28 B_28 C_28 M79 := hR80a
                  replace f85 : ((I_28 2436) + 1 < (I_28 773) ∨ zk82 = 0) := f85
                  show w_W _ _ _ (65, [(6, .int (Int32.ofInt (v67))), (0, .ref 38), (1, .int (Int32.ofInt (1))), (2, .int (Int32.ofInt ((I 2117)))), (3, .int (Int32.ofInt (y28_3))), (4, .int (Int32.ofInt (y28_4))), (5, .int (Int32.ofInt (y28_5)))], [], M79) _
                  refine w_adv (n := 2) (F' := (68, [(6, .int (Int32.ofInt (v67))), (0, .ref 38), (1, .int (Int32.ofInt (1))), (2, .int (Int32.ofInt ((I 2117)))), (3, .int (Int32.ofInt (y28_3))), (4, .int (Int32.ofInt (y28_4))), (5, .int (Int32.ofInt (y28_5)))], [.int (Int32.ofInt (11)), .ref 38], M79)) rfl ?_
                  refine w_call (cm := 105) (as := [(0, .ref 38), (1, .int (Int32.ofInt (11)))]) (rest := []) (o := some (4, 38)) rfl (w_fitR hR80a rfl) (c_need (11) hR80a (show 4 ≤ d by omega) ⟨by omega, by omega⟩ (show l ≤ 7000000 by first | assumption | omega) (show -1 ≤ (I_28 2436) + 1 ∧ (zk82 = 0 ∨ (I_28 2436) + 1 < (I_28 773)) ∧ (I_28 773) ≤ 1501 ∧ 1 ≤ 11 by first | assumption | omega)) (fun r91 M92 q93 => ?_)
                  rcases q93 with ⟨zt94, zk95, zv96, e97, hR93a, f98, f99⟩ | ⟨t100, I93b, A93b, B93b, C93b, e101, hR93b, f102, f103, f104⟩
                  · rw [e97]
                    replace hR93a : w_Rep w_TC fr X u l (w_up (w_up (w_up (w_up I_28 2436 ((I_28 2436) + 1 + 1)) 2441 (zt94)) 2437 (zk95)) 2438 (zv96)) A_28 B_28 C_28 M92 := w_Rep.up hR93a (show (w_up (w_up (w_up (w_up I_28 2436 ((I_28 2436) + 1 + 1)) 2441 (zt94)) 2437 (zk95)) 2438 (zv96)) = _ from (funext fun s => if e0 : s = 2436 then (by subst e0; rfl) else if e1 : s = 2437 then (by subst e1; rfl) else if e2 : s = 2438 then (by subst e2; rfl) else if e3 : s = 2441 then (by subst e3; rfl) else (by simp only [w_up_ne e0, w_up_ne e1, w_up_ne e2, w_up_ne e3]))) rfl
                    replace f98 : ((I_28 2436) + 1 + 1 < (I_28 773) ∨ zk95 = 0) := f98
                    replace f99 : zk82 = 11 := f99
                    show w_W _ _ _ (71, [(6, .int (Int32.ofInt (v67))), (0, .ref 38), (1, .int (Int32.ofInt (1))), (2, .int (Int32.ofInt ((I 2117)))), (3, .int (Int32.ofInt (y28_3))), (4, .int (Int32.ofInt (y28_4))), (5, .int (Int32.ofInt (y28_5)))], [], M92) _
                    refine w_adv (n := 1) (F' := (72, [(6, .int (Int32.ofInt (v67))), (0, .ref 38), (1, .int (Int32.ofInt (1))), (2, .int (Int32.ofInt ((I 2117)))), (3, .int (Int32.ofInt (y28_3))), (4, .int (Int32.ofInt (y28_4))), (5, .int (Int32.ofInt (y28_5)))], [.ref 38], M92)) rfl ?_
                    refine w_gf (v := .ref 26) hR93a rfl rfl rfl rfl ?_
                    refine w_adv (n := 5) (F' := (83, [(6, .int (Int32.ofInt (v67))), (0, .ref 38), (1, .int (Int32.ofInt (1))), (2, .int (Int32.ofInt ((I 2117)))), (3, .int (Int32.ofInt (y28_3))), (4, .int (Int32.ofInt (y28_4))), (5, .int (Int32.ofInt (y28_5)))], [.int (Int32.ofInt (y28_5)), .int (Int32.ofInt (v67)), .int (Int32.ofInt ((I 2117))), .ref 38, .int (Int32.ofInt (y28_4)), .ref 26], M92)) rfl ?_
                    refine w_call (cm := 128) (as := [(0, .ref 38), (1, .int (Int32.ofInt ((I 2117)))), (2, .int (Int32.ofInt (v67))), (3, .int (Int32.ofInt (y28_5)))]) (rest := [.int (Int32.ofInt (y28_4)), .ref 26]) (o := some (4, 38)) rfl (w_fitR hR93a rfl) (c_slot ((I 2117)) (v67) (y28_5) hR93a (show 4 ≤ d by omega) ⟨by omega, by omega⟩ ⟨by omega, by omega⟩ ⟨by omega, by omega⟩ (show l ≤ 7000000 by first | assumption | omega) (show (0 ≤ (I_28 2436) + 1 + 1 ∧ (I_28 2436) + 1 + 1 ≤ (I_28 773) ∧ (I_28 773) ≤ 1501 ∧ (zk95 = 0 ∨ (I_28 2436) + 1 + 1 < (I_28 773))) ∧ (0 ≤ (I_28 2439) ∧ (I_28 2439) ≤ 24 ∧ 0 ≤ (I_28 2117)) ∧ 0 ≤ (I_28 1670) ∧ (I_28 1670) ≤ 2 * ((I_28 2436) + 1 + 1) + 1 by (repeat' apply And.intro) <;> first | assumption | omega)) (fun r105 M106 q107 => ?_)
                    rcases q107 with ⟨v108, I107a, A107a, B107a, C107a, e109, ⟨r110, r111⟩, hR107a, f112, f113, f114, f115, f116⟩ | ⟨t117, I107b, A107b, B107b, C107b, e118, hR107b, f119, f120, f121⟩
                    · rw [e109]
                      replace hR107a : w_Rep w_TC fr X u l I107a A107a B107a C107a M106 := hR107a
                      replace f112 : c_fi c_ps (w_up (w_up (w_up (w_up I_28 2436 ((I_28 2436) + 1 + 1)) 2441 (zt94)) 2437 (zk95)) 2438 (zv96)) I107a := f112
                      replace f113 : c_fa c_pa A_28 A107a := f113
                      replace f114 : (0 ≤ (I107a 2436) ∧ (I107a 2436) ≤ (I107a 773) ∧ ((I107a 2437) = 0 ∨ (I107a 2436) < (I107a 773))) ∧ ((I107a 773) = (I_28 773) ∧ (I107a 2439) = (I_28 2439) ∧ 0 ≤ (I107a 2117)) ∧ ((I_28 2436) + 1 + 1) + 1 ≤ (I107a 2436) ∧ (I107a 1670) + 1 ≤ (I_28 1670) + 2 * ((I107a 2436) - ((I_28 2436) + 1 + 1)) ∧ (I_28 1670) ≤ (I107a 1670) := f114
                      obtain ⟨⟨n122, n123, n124⟩, ⟨n125, n126, n127⟩, n128, n129, n130⟩ := id f114
                      clear f114
                      replace f115 : c_agl A_28 A107a (I_28 1670) := f115
                      replace f116 : (I_28 1670) ≤ v108 ∧ v108 < (I107a 1670) := f116
                      obtain ⟨n131, n132⟩ := id f116
                      clear f116
                      have g133 : c_agl A A107a (I 1670) := c_agl_trans hi28_3 f115 (show (I 1670) ≤ (I_28 1670) by omega)
                      show w_W _ _ _ (86, [(6, .int (Int32.ofInt (v67))), (0, .ref 38), (1, .int (Int32.ofInt (1))), (2, .int (Int32.ofInt ((I 2117)))), (3, .int (Int32.ofInt (y28_3))), (4, .int (Int32.ofInt (y28_4))), (5, .int (Int32.ofInt (y28_5)))], [.int (Int32.ofInt (v108)), .int (Int32.ofInt (y28_4)), .ref 26], M106) _
                      refine w_call (cm := 106) (as := [(0, .ref 26), (1, .int (Int32.ofInt (y28_4))), (2, .int (Int32.ofInt (v108)))]) (rest := []) (o := some (8, 26)) rfl (w_fitR hR107a rfl) (c_chn (y28_4) (v108) hR107a (show 2 ≤ d by omega) ⟨by omega, by omega⟩ ⟨by omega, by omega⟩) (fun r134 M135 q136 => ?_)
                      rcases q136 with ⟨A137, e138, hR136a, f139, f140⟩
                      rw [e138]
                      replace hR136a : w_Rep w_TC fr X u l I107a A137 B107a C107a M135 := hR136a
                      replace f139 : c_fa c_pa A107a A137 := f139
                      replace f140 : c_nxw A107a A137 y28_4 v108 := f140
                      have g141 : c_agl A107a A137 (I 1670) := c_agl_nxw f140 (show (I 1670) ≤ y28_4 ∨ y28_4 < 0 by omega)
                      have g142 : c_agl A A137 (I 1670) := c_agl_trans g133 g141 (show (I 1670) ≤ (I 1670) by omega)
                      show w_W _ _ _ (89, [(6, .int (Int32.ofInt (v67))), (0, .ref 38), (1, .int (Int32.ofInt (1))), (2, .int (Int32.ofInt ((I 2117)))), (3, .int (Int32.ofInt (y28_3))), (4, .int (Int32.ofInt (y28_4))), (5, .int (Int32.ofInt (y28_5)))], [.int (Int32.ofInt (v108))], M135) _
                      refine w_adv (n := 3) (F' := (93, [(4, .int (Int32.ofInt (v108))), (6, .int (Int32.ofInt (v67))), (0, .ref 38), (1, .int (Int32.ofInt (1))), (2, .int (Int32.ofInt ((I 2117)))), (3, .int (Int32.ofInt (y28_3))), (5, .int (Int32.ofInt (y28_5)))], [.int (Int32.ofInt ((-1))), .int (Int32.ofInt (y28_3))], M135)) rfl ?_
                      refine w_br2 (a := y28_3) (b := (-1)) rfl rfl ⟨by omega, by omega⟩ ⟨by omega, by omega⟩ (fun h143 => ?_) (fun h143 => ?_)
                      · have h143 : ¬ y28_3 = (-1) := h143
                        show w_W _ _ _ (101, [(4, .int (Int32.ofInt (v108))), (6, .int (Int32.ofInt (v67))), (0, .ref 38), (1, .int (Int32.ofInt (1))), (2, .int (Int32.ofInt ((I 2117)))), (3, .int (Int32.ofInt (y28_3))), (5, .int (Int32.ofInt (y28_5)))], [], M135) _
                        refine w_adv (n := 2) (F' := (103, [(3, .int (Int32.ofInt (y28_3))), (4, .int (Int32.ofInt (v108))), (6, .int (Int32.ofInt (v67))), (0, .ref 38), (1, .int (Int32.ofInt (1))), (2, .int (Int32.ofInt ((I 2117)))), (5, .int (Int32.ofInt (y28_5)))], [], M135)) rfl ?_
                        refine w_inc (nL := 7) (a := y28_5) rfl rfl rfl (by decide) ?_
                        refine w_adv (n := 1) (F' := (28, [(5, .int (Int32.ofInt (y28_5 + 1))), (3, .int (Int32.ofInt (y28_3))), (4, .int (Int32.ofInt (v108))), (6, .int (Int32.ofInt (v67))), (0, .ref 38), (1, .int (Int32.ofInt (1))), (2, .int (Int32.ofInt ((I 2117))))], [], M135)) rfl ?_
                        refine w_ls (ls := [(0, .ref 38), (1, .int (Int32.ofInt (1))), (2, .int (Int32.ofInt ((I 2117)))), (3, .int (Int32.ofInt (y28_3))), (4, .int (Int32.ofInt (v108))), (5, .int (Int32.ofInt (y28_5 + 1)))]) (show List.Nodup [0, 1, 2, 3, 4, 5] by decide) (show List.Nodup [5, 3, 4, 6, 0, 1, 2] by decide) (List.forall_mem_cons.mpr ⟨(List.Mem.tail _ (List.Mem.tail _ (List.Mem.tail _ (List.Mem.tail _ (List.Mem.head _))))), (List.forall_mem_cons.mpr ⟨(List.Mem.tail _ (List.Mem.tail _ (List.Mem.tail _ (List.Mem.tail _ (List.Mem.tail _ (List.Mem.head _)))))), (List.forall_mem_cons.mpr ⟨(List.Mem.tail _ (List.Mem.tail _ (List.Mem.tail _ (List.Mem.tail _ (List.Mem.tail _ (List.Mem.tail _ (List.Mem.head _))))))), (List.forall_mem_cons.mpr ⟨(List.Mem.tail _ (List.Mem.head _)), (List.forall_mem_cons.mpr ⟨(List.Mem.tail _ (List.Mem.tail _ (List.Mem.head _))), (List.forall_mem_cons.mpr ⟨(List.Mem.head _), (fun _ h => by cases h)⟩)⟩)⟩)⟩)⟩)⟩) ?_
                        exact ih28  (y28_3) (v108) (y28_5 + 1) I107a A137 B107a C107a M135 hR136a ⟨by omega, by omega⟩ ⟨by omega, by omega⟩ ⟨by omega, by omega⟩ (show c_fi c_ps I I107a by exact (c_fi_trans (c_fi_up (c_fi_up (c_fi_up (c_fi_up hi28_0 rfl) rfl) rfl) rfl) f112)) (show c_fa c_pa A A137 by exact (c_fa_trans (c_fa_trans hi28_1 f113) f139)) (show (0 ≤ (I107a 2436) ∧ (I107a 2436) ≤ (I107a 773) ∧ ((I107a 2437) = 0 ∨ (I107a 2436) < (I107a 773))) ∧ ((I107a 773) = (I 773) ∧ (I107a 2439) = (I 2439) + 1 ∧ 0 ≤ (I107a 2117)) ∧ (I 2436) + 1 ≤ (I107a 2436) ∧ (I107a 1670) + 2 ≤ (I 1670) + 2 * ((I107a 2436) - (I 2436)) ∧ (I 1670) ≤ (I107a 1670) by (repeat' apply And.intro) <;> first | assumption | omega) (show c_agl A A137 (I 1670) by exact g142) (show 1 ≤ (y28_5 + 1) ∧ (y28_5 + 1) ≤ 34 by omega) (show v108 = -1 ∨ (I 1670) ≤ v108 by omega) (show 34 - (y28_5 + 1) < (fu28 : Int) by omega)
                      · have h143 : ¬ (¬ y28_3 = (-1)) := h143
                        show w_W _ _ _ (96, [(4, .int (Int32.ofInt (v108))), (6, .int (Int32.ofInt (v67))), (0, .ref 38), (1, .int (Int32.ofInt (1))), (2, .int (Int32.ofInt ((I 2117)))), (3, .int (Int32.ofInt (y28_3))), (5, .int (Int32.ofInt (y28_5)))], [], M135) _
                        refine w_adv (n := 3) (F' := (103, [(3, .int (Int32.ofInt (v108))), (4, .int (Int32.ofInt (v108))), (6, .int (Int32.ofInt (v67))), (0, .ref 38), (1, .int (Int32.ofInt (1))), (2, .int (Int32.ofInt ((I 2117)))), (5, .int (Int32.ofInt (y28_5)))], [], M135)) rfl ?_
                        refine w_inc (nL := 7) (a := y28_5) rfl rfl rfl (by decide) ?_
                        refine w_adv (n := 1) (F' := (28, [(5, .int (Int32.ofInt (y28_5 + 1))), (3, .int (Int32.ofInt (v108))), (4, .int (Int32.ofInt (v108))), (6, .int (Int32.ofInt (v67))), (0, .ref 38), (1, .int (Int32.ofInt (1))), (2, .int (Int32.ofInt ((I 2117))))], [], M135)) rfl ?_
                        refine w_ls (ls := [(0, .ref 38), (1, .int (Int32.ofInt (1))), (2, .int (Int32.ofInt ((I 2117)))), (3, .int (Int32.ofInt (v108))), (4, .int (Int32.ofInt (v108))), (5, .int (Int32.ofInt (y28_5 + 1)))]) (show List.Nodup [0, 1, 2, 3, 4, 5] by decide) (show List.Nodup [5, 3, 4, 6, 0, 1, 2] by decide) (List.forall_mem_cons.mpr ⟨(List.Mem.tail _ (List.Mem.tail _ (List.Mem.tail _ (List.Mem.tail _ (List.Mem.head _))))), (List.forall_mem_cons.mpr ⟨(List.Mem.tail _ (List.Mem.tail _ (List.Mem.tail _ (List.Mem.tail _ (List.Mem.tail _ (List.Mem.head _)))))), (List.forall_mem_cons.mpr ⟨(List.Mem.tail _ (List.Mem.tail _ (List.Mem.tail _ (List.Mem.tail _ (List.Mem.tail _ (List.Mem.tail _ (List.Mem.head _))))))), (List.forall_mem_cons.mpr ⟨(List.Mem.tail _ (List.Mem.head _)), (List.forall_mem_cons.mpr ⟨(List.Mem.tail _ (List.Mem.tail _ (List.Mem.head _))), (List.forall_mem_cons.mpr ⟨(List.Mem.head _), (fun _ h => by cases h)⟩)⟩)⟩)⟩)⟩)⟩) ?_
                        exact ih28  (v108) (v108) (y28_5 + 1) I107a A137 B107a C107a M135 hR136a ⟨by omega, by omega⟩ ⟨by omega, by omega⟩ ⟨by omega, by omega⟩ (show c_fi c_ps I I107a by exact (c_fi_trans (c_fi_up (c_fi_up (c_fi_up (c_fi_up hi28_0 rfl) rfl) rfl) rfl) f112)) (show c_fa c_pa A A137 by exact (c_fa_trans (c_fa_trans hi28_1 f113) f139)) (show (0 ≤ (I107a 2436) ∧ (I107a 2436) ≤ (I107a 773) ∧ ((I107a 2437) = 0 ∨ (I107a 2436) < (I107a 773))) ∧ ((I107a 773) = (I 773) ∧ (I107a 2439) = (I 2439) + 1 ∧ 0 ≤ (I107a 2117)) ∧ (I 2436) + 1 ≤ (I107a 2436) ∧ (I107a 1670) + 2 ≤ (I 1670) + 2 * ((I107a 2436) - (I 2436)) ∧ (I 1670) ≤ (I107a 1670) by (repeat' apply And.intro) <;> first | assumption | omega) (show c_agl A A137 (I 1670) by exact g142) (show 1 ≤ (y28_5 + 1) ∧ (y28_5 + 1) ≤ 34 by omega) (show v108 = -1 ∨ (I 1670) ≤ v108 by omega) (show 34 - (y28_5 + 1) < (fu28 : Int) by omega)
                    · rw [e118]
                      replace hR107b : w_Rep w_TC fr X (u + 6) (l + 64) I107b A107b B107b C107b M106 := hR107b
                      replace f119 : c_fi c_ps (w_up (w_up (w_up (w_up I_28 2436 ((I_28 2436) + 1 + 1)) 2441 (zt94)) 2437 (zk95)) 2438 (zv96)) I107b := f119
                      replace f120 : c_fa c_pa A_28 A107b := f120
                      replace f121 : M106.1[t117]? = some (.inr (11, [])) := f121
                      exact Or.inr (⟨t117, I107b, A107b, B107b, C107b, rfl, hR107b, (show c_fi c_ps I I107b by exact (c_fi_trans (c_fi_up (c_fi_up (c_fi_up (c_fi_up hi28_0 rfl) rfl) rfl) rfl) f119)), (show c_fa c_pa A A107b by exact (c_fa_trans hi28_1 f120)), (show M106.1[t117]? = some (.inr (11, [])) by exact f121)⟩)
                  · rw [e101]
                    replace hR93b : w_Rep w_TC fr X (u + 6) (l + 64) I93b A93b B93b C93b M92 := hR93b
                    replace f102 : c_fi c_ps (w_up (w_up (w_up (w_up I_28 2436 ((I_28 2436) + 1)) 2441 (zt81)) 2437 (zk82)) 2438 (zv83)) I93b := f102
                    replace f103 : c_fa c_pa A_28 A93b := f103
                    replace f104 : M92.1[t100]? = some (.inr (11, [])) := f104
                    exact Or.inr (⟨t100, I93b, A93b, B93b, C93b, rfl, hR93b, (show c_fi c_ps I I93b by exact (c_fi_trans (c_fi_up (c_fi_up (c_fi_up (c_fi_up hi28_0 rfl) rfl) rfl) rfl) f102)), (show c_fa c_pa A A93b by exact (c_fa_trans hi28_1 f103)), (show M92.1[t100]? = some (.inr (11, [])) by exact f104)⟩)
                · rw [e87]
                  replace hR80b : w_Rep w_TC fr X (u + 6) (l + 64) I80b A80b B80b C80b M79 := hR80b
                  replace f88 : c_fi c_ps I_28 I80b := f88
                  replace f89 : c_fa c_pa A_28 A80b := f89
                  replace f90 : M79.1[t86]? = some (.inr (11, [])) := f90
                  exact Or.inr (⟨t86, I80b, A80b, B80b, C80b, rfl, hR80b, (show c_fi c_ps I I80b by exact (c_fi_trans hi28_0 f88)), (show c_fa c_pa A A80b by exact (c_fa_trans hi28_1 f89)), (show M79.1[t86]? = some (.inr (11, [])) by exact f90)⟩)
              · rw [e74]
                replace hR66b : w_Rep w_TC fr X (u + 6) (l + 64) I66b A66b B66b C66b M65 := hR66b
                replace f75 : c_fi c_ps I_28 I66b := f75
                replace f76 : c_fa c_pa A_28 A66b := f76
                replace f77 : M65.1[t73]? = some (.inr (11, [])) := f77
                exact Or.inr (⟨t73, I66b, A66b, B66b, C66b, rfl, hR66b, (show c_fi c_ps I I66b by exact (c_fi_trans hi28_0 f75)), (show c_fa c_pa A A66b by exact (c_fa_trans hi28_1 f76)), (show M65.1[t73]? = some (.inr (11, [])) by exact f77)⟩)
      refine w_ls (ls := [(0, .ref 38), (1, .int (Int32.ofInt (1))), (2, .int (Int32.ofInt ((I 2117)))), (3, .int (Int32.ofInt ((-1)))), (4, .int (Int32.ofInt ((-1)))), (5, .int (Int32.ofInt (1)))]) (show List.Nodup [0, 1, 2, 3, 4, 5] by decide) (show List.Nodup [5, 4, 3, 2, 1, 0] by decide) (List.forall_mem_cons.mpr ⟨(List.Mem.tail _ (List.Mem.tail _ (List.Mem.tail _ (List.Mem.tail _ (List.Mem.tail _ (List.Mem.head _)))))), (List.forall_mem_cons.mpr ⟨(List.Mem.tail _ (List.Mem.tail _ (List.Mem.tail _ (List.Mem.tail _ (List.Mem.head _))))), (List.forall_mem_cons.mpr ⟨(List.Mem.tail _ (List.Mem.tail _ (List.Mem.tail _ (List.Mem.head _)))), (List.forall_mem_cons.mpr ⟨(List.Mem.tail _ (List.Mem.tail _ (List.Mem.head _))), (List.forall_mem_cons.mpr ⟨(List.Mem.tail _ (List.Mem.head _)), (List.forall_mem_cons.mpr ⟨(List.Mem.head _), (fun _ h => by cases h)⟩)⟩)⟩)⟩)⟩)⟩) ?_
      exact lp28 ((34 - 1 : Int).toNat + 1)  ((-1)) ((-1)) (1) (w_up (w_up (w_up (w_up (w_up I 2436 ((I 2436) + 1)) 2441 (zt4)) 2437 (zk5)) 2438 (zv6)) 2439 ((I 2439) + 1)) A B C M2 hR3a ⟨by omega, by omega⟩ ⟨by omega, by omega⟩ ⟨by omega, by omega⟩ (show c_fi c_ps I (w_up (w_up (w_up (w_up (w_up I 2436 ((I 2436) + 1)) 2441 (zt4)) 2437 (zk5)) 2438 (zv6)) 2439 ((I 2439) + 1)) by exact (c_fi_up (c_fi_up (c_fi_up (c_fi_up (c_fi_up c_fi_refl rfl) rfl) rfl) rfl) rfl)) (show c_fa c_pa A A by exact c_fa_refl) (show (0 ≤ (I 2436) + 1 ∧ (I 2436) + 1 ≤ (I 773) ∧ (zk5 = 0 ∨ (I 2436) + 1 < (I 773))) ∧ ((I 773) = (I 773) ∧ (I 2439) + 1 = (I 2439) + 1 ∧ 0 ≤ (I 2117)) ∧ (I 2436) + 1 ≤ (I 2436) + 1 ∧ (I 1670) + 2 ≤ (I 1670) + 2 * (((I 2436) + 1) - (I 2436)) ∧ (I 1670) ≤ (I 1670) by (repeat' apply And.intro) <;> first | assumption | omega) (show c_agl A A (I 1670) by exact c_agl_refl) (show 1 ≤ (1 : Int) ∧ (1 : Int) ≤ 34 by omega) (show ((-1) : Int) = -1 ∨ (I 1670) ≤ ((-1) : Int) by omega) (show 34 - 1 < (((34 - 1 : Int).toNat + 1 : Nat) : Int) by omega)
    · rw [e23, e24]
      show w_W _ _ _ (11, [(0, .ref 38)], [.int (Int32.ofInt (0))], M2) _
      refine w_adv (n := 2) (F' := (13, [(1, .int (Int32.ofInt (0))), (0, .ref 38)], [.ref 38], M2)) rfl ?_
      refine w_gf (v := .ref 33) hR3a rfl rfl rfl rfl ?_
      refine w_call (cm := 118) (as := [(0, .ref 33)]) (rest := []) (o := some (5, 33)) rfl (w_fitR hR3a rfl) (c_snext hR3a) (fun r144 M145 q146 => ?_)
      rcases q146 with ⟨e147, e148⟩
      rw [e147, e148]
      obtain ⟨r149, r150⟩ : -2147483648 ≤ (I 2117) ∧ (I 2117) ≤ 2147483647 := hR3a.ri 2117
      show w_W _ _ _ (19, [(1, .int (Int32.ofInt (0))), (0, .ref 38)], [.int (Int32.ofInt ((I 2117)))], M2) _
      refine w_adv (n := 7) (F' := (28, [(5, .int (Int32.ofInt (1))), (4, .int (Int32.ofInt ((-1)))), (3, .int (Int32.ofInt ((-1)))), (2, .int (Int32.ofInt ((I 2117)))), (1, .int (Int32.ofInt (0))), (0, .ref 38)], [], M2)) rfl ?_
      have lp28 : ∀ fu28 : Nat, ∀ (y28_3 : Int) (y28_4 : Int) (y28_5 : Int) (I_28 : Nat → Int) (A_28 : Nat → Int → Int) (B_28 C_28 : Nat → Nat) (M_28 : w_M) (hR_28 : w_Rep w_TC fr X u l I_28 A_28 B_28 C_28 M_28), w_in y28_3 → w_in y28_4 → w_in y28_5 → c_fi c_ps I I_28 → c_fa c_pa A A_28 → (0 ≤ (I_28 2436) ∧ (I_28 2436) ≤ (I_28 773) ∧ ((I_28 2437) = 0 ∨ (I_28 2436) < (I_28 773))) ∧ ((I_28 773) = (I 773) ∧ (I_28 2439) = (I 2439) + 1 ∧ 0 ≤ (I_28 2117)) ∧ (I 2436) + 1 ≤ (I_28 2436) ∧ (I_28 1670) + 2 ≤ (I 1670) + 2 * ((I_28 2436) - (I 2436)) ∧ (I 1670) ≤ (I_28 1670) → c_agl A A_28 (I 1670) → 1 ≤ y28_5 ∧ y28_5 ≤ 34 → y28_4 = -1 ∨ (I 1670) ≤ y28_4 → 34 - y28_5 < (fu28 : Int) → w_W (z_P L xs) (d + 1) 127 (28, [(0, .ref 38), (1, .int (Int32.ofInt (0))), (2, .int (Int32.ofInt ((I 2117)))), (3, .int (Int32.ofInt (y28_3))), (4, .int (Int32.ofInt (y28_4))), (5, .int (Int32.ofInt (y28_5)))], [], M_28) (c_slots_Q fr X u l I A B C M) := by
        intro fu28
        induction fu28 with
        | zero =>
          intro y28_3 y28_4 y28_5 I_28 A_28 B_28 C_28 M_28 hR_28 ⟨ra_y28_3, rb_y28_3⟩ ⟨ra_y28_4, rb_y28_4⟩ ⟨ra_y28_5, rb_y28_5⟩ hi28_0 hi28_1 hi28_2 hi28_3 hi28_4 hi28_5 hn28
          exfalso
          omega
        | succ fu28 ih28 =>
          intro y28_3 y28_4 y28_5 I_28 A_28 B_28 C_28 M_28 hR_28 ⟨ra_y28_3, rb_y28_3⟩ ⟨ra_y28_4, rb_y28_4⟩ ⟨ra_y28_5, rb_y28_5⟩ hi28_0 hi28_1 hi28_2 hi28_3 hi28_4 hi28_5 hn28
          refine w_adv (n := 2) (F' := (32, [(0, .ref 38), (1, .int (Int32.ofInt (0))), (2, .int (Int32.ofInt ((I 2117)))), (3, .int (Int32.ofInt (y28_3))), (4, .int (Int32.ofInt (y28_4))), (5, .int (Int32.ofInt (y28_5)))], [.int (Int32.ofInt (33)), .int (Int32.ofInt (y28_5))], M_28)) rfl ?_
          refine w_br2 (a := y28_5) (b := 33) rfl rfl ⟨by omega, by omega⟩ ⟨by omega, by omega⟩ (fun h151 => ?_) (fun h151 => ?_)
          · have h151 : y28_5 > 33 := h151
            show w_W _ _ _ (109, [(0, .ref 38), (1, .int (Int32.ofInt (0))), (2, .int (Int32.ofInt ((I 2117)))), (3, .int (Int32.ofInt (y28_3))), (4, .int (Int32.ofInt (y28_4))), (5, .int (Int32.ofInt (y28_5)))], [], M_28) _
            refine w_adv (n := 2) (F' := (112, [(0, .ref 38), (1, .int (Int32.ofInt (0))), (2, .int (Int32.ofInt ((I 2117)))), (3, .int (Int32.ofInt (y28_3))), (4, .int (Int32.ofInt (y28_4))), (5, .int (Int32.ofInt (y28_5)))], [.int (Int32.ofInt (6)), .ref 38], M_28)) rfl ?_
            refine w_call (cm := 113) (as := [(0, .ref 38), (1, .int (Int32.ofInt (6)))]) (rest := []) (o := some (4, 38)) rfl (w_fitR hR_28 rfl) (c_close (6) hR_28 (show 4 ≤ d by omega) ⟨by omega, by omega⟩ (show l ≤ 7000000 by first | assumption | omega) (show -1 ≤ (I_28 2436) ∧ ((I_28 2437) = 0 ∨ (I_28 2436) < (I_28 773)) ∧ (I_28 773) ≤ 1501 ∧ 1 ≤ 6 by first | assumption | omega) (show 0 ≤ (I_28 2439) ∧ (I_28 2439) ≤ 24 by first | assumption | omega)) (fun r152 M153 q154 => ?_)
            rcases q154 with ⟨zt155, zk156, zv157, e158, hR154a, f159, f160⟩ | ⟨t161, I154b, A154b, B154b, C154b, e162, hR154b, f163, f164, f165⟩
            · rw [e158]
              replace hR154a : w_Rep w_TC fr X u l (w_up (w_up (w_up (w_up (w_up I_28 2436 ((I_28 2436) + 1)) 2441 (zt155)) 2437 (zk156)) 2438 (zv157)) 2439 ((I_28 2439) - 1)) A_28 B_28 C_28 M153 := hR154a
              replace f159 : ((I_28 2436) + 1 < (I_28 773) ∨ zk156 = 0) := f159
              replace f160 : (I_28 2437) = 6 := f160
              show w_W _ _ _ (115, [(0, .ref 38), (1, .int (Int32.ofInt (0))), (2, .int (Int32.ofInt ((I 2117)))), (3, .int (Int32.ofInt (y28_3))), (4, .int (Int32.ofInt (y28_4))), (5, .int (Int32.ofInt (y28_5)))], [], M153) _
              refine w_adv (n := 1) (F' := (116, [(0, .ref 38), (1, .int (Int32.ofInt (0))), (2, .int (Int32.ofInt ((I 2117)))), (3, .int (Int32.ofInt (y28_3))), (4, .int (Int32.ofInt (y28_4))), (5, .int (Int32.ofInt (y28_5)))], [.int (Int32.ofInt (y28_3))], M153)) rfl ?_
              refine w_fin (r := .inl (some (y28_3))) (M' := M153) rfl ?_
              exact Or.inl ⟨y28_3, (w_up (w_up (w_up (w_up (w_up I_28 2436 ((I_28 2436) + 1)) 2441 (zt155)) 2437 (zk156)) 2438 (zv157)) 2439 ((I_28 2439) - 1)), A_28, B_28, C_28, rfl, ⟨by omega, by omega⟩, hR154a, (show c_fi c_ps I (w_up (w_up (w_up (w_up (w_up I_28 2436 ((I_28 2436) + 1)) 2441 (zt155)) 2437 (zk156)) 2438 (zv157)) 2439 ((I_28 2439) - 1)) by exact (c_fi_up (c_fi_up (c_fi_up (c_fi_up (c_fi_up hi28_0 rfl) rfl) rfl) rfl) rfl)), (show c_fa c_pa A A_28 by exact hi28_1), (show (0 ≤ (I_28 2436) + 1 ∧ (I_28 2436) + 1 ≤ (I_28 773) ∧ (zk156 = 0 ∨ (I_28 2436) + 1 < (I_28 773))) ∧ ((I_28 773) = (I 773) ∧ (I_28 2439) - 1 = (I 2439) ∧ 0 ≤ (I_28 2117)) ∧ (I 2436) + 2 ≤ (I_28 2436) + 1 ∧ (I_28 1670) + 0 ≤ (I 1670) + 2 * (((I_28 2436) + 1) - (I 2436)) ∧ (I 1670) ≤ (I_28 1670) by (repeat' apply And.intro) <;> first | assumption | omega), (show c_agl A A_28 (I 1670) by exact hi28_3)⟩
            · rw [e162]
              replace hR154b : w_Rep w_TC fr X (u + 6) (l + 64) I154b A154b B154b C154b M153 := hR154b
              replace f163 : c_fi c_ps I_28 I154b := f163
              replace f164 : c_fa c_pa A_28 A154b := f164
              replace f165 : M153.1[t161]? = some (.inr (11, [])) := f165
              exact Or.inr (⟨t161, I154b, A154b, B154b, C154b, rfl, hR154b, (show c_fi c_ps I I154b by exact (c_fi_trans hi28_0 f163)), (show c_fa c_pa A A154b by exact (c_fa_trans hi28_1 f164)), (show M153.1[t161]? = some (.inr (11, [])) by exact f165)⟩)
          · have h151 : ¬ (y28_5 > 33) := h151
            show w_W _ _ _ (35, [(0, .ref 38), (1, .int (Int32.ofInt (0))), (2, .int (Int32.ofInt ((I 2117)))), (3, .int (Int32.ofInt (y28_3))), (4, .int (Int32.ofInt (y28_4))), (5, .int (Int32.ofInt (y28_5)))], [], M_28) _
            refine w_adv (n := 1) (F' := (36, [(0, .ref 38), (1, .int (Int32.ofInt (0))), (2, .int (Int32.ofInt ((I 2117)))), (3, .int (Int32.ofInt (y28_3))), (4, .int (Int32.ofInt (y28_4))), (5, .int (Int32.ofInt (y28_5)))], [.ref 38], M_28)) rfl ?_
            refine w_gf (v := .int (Int32.ofInt ((I_28 2437)))) hR_28 rfl rfl rfl rfl ?_
            obtain ⟨r166, r167⟩ : -2147483648 ≤ (I_28 2437) ∧ (I_28 2437) ≤ 2147483647 := hR_28.ri 2437
            refine w_adv (n := 1) (F' := (41, [(0, .ref 38), (1, .int (Int32.ofInt (0))), (2, .int (Int32.ofInt ((I 2117)))), (3, .int (Int32.ofInt (y28_3))), (4, .int (Int32.ofInt (y28_4))), (5, .int (Int32.ofInt (y28_5)))], [.int (Int32.ofInt (6)), .int (Int32.ofInt ((I_28 2437)))], M_28)) rfl ?_
            refine w_br2 (a := (I_28 2437)) (b := 6) rfl rfl ⟨by omega, by omega⟩ ⟨by omega, by omega⟩ (fun h168 => ?_) (fun h168 => ?_)
            · have h168 : (I_28 2437) = 6 := h168
              show w_W _ _ _ (109, [(0, .ref 38), (1, .int (Int32.ofInt (0))), (2, .int (Int32.ofInt ((I 2117)))), (3, .int (Int32.ofInt (y28_3))), (4, .int (Int32.ofInt (y28_4))), (5, .int (Int32.ofInt (y28_5)))], [], M_28) _
              refine w_adv (n := 2) (F' := (112, [(0, .ref 38), (1, .int (Int32.ofInt (0))), (2, .int (Int32.ofInt ((I 2117)))), (3, .int (Int32.ofInt (y28_3))), (4, .int (Int32.ofInt (y28_4))), (5, .int (Int32.ofInt (y28_5)))], [.int (Int32.ofInt (6)), .ref 38], M_28)) rfl ?_
              refine w_call (cm := 113) (as := [(0, .ref 38), (1, .int (Int32.ofInt (6)))]) (rest := []) (o := some (4, 38)) rfl (w_fitR hR_28 rfl) (c_close (6) hR_28 (show 4 ≤ d by omega) ⟨by omega, by omega⟩ (show l ≤ 7000000 by first | assumption | omega) (show -1 ≤ (I_28 2436) ∧ ((I_28 2437) = 0 ∨ (I_28 2436) < (I_28 773)) ∧ (I_28 773) ≤ 1501 ∧ 1 ≤ 6 by first | assumption | omega) (show 0 ≤ (I_28 2439) ∧ (I_28 2439) ≤ 24 by first | assumption | omega)) (fun r169 M170 q171 => ?_)
              rcases q171 with ⟨zt172, zk173, zv174, e175, hR171a, f176, f177⟩ | ⟨t178, I171b, A171b, B171b, C171b, e179, hR171b, f180, f181, f182⟩
              · rw [e175]
                replace hR171a : w_Rep w_TC fr X u l (w_up (w_up (w_up (w_up (w_up I_28 2436 ((I_28 2436) + 1)) 2441 (zt172)) 2437 (zk173)) 2438 (zv174)) 2439 ((I_28 2439) - 1)) A_28 B_28 C_28 M170 := hR171a
                replace f176 : ((I_28 2436) + 1 < (I_28 773) ∨ zk173 = 0) := f176
                replace f177 : (I_28 2437) = 6 := f177
                show w_W _ _ _ (115, [(0, .ref 38), (1, .int (Int32.ofInt (0))), (2, .int (Int32.ofInt ((I 2117)))), (3, .int (Int32.ofInt (y28_3))), (4, .int (Int32.ofInt (y28_4))), (5, .int (Int32.ofInt (y28_5)))], [], M170) _
                refine w_adv (n := 1) (F' := (116, [(0, .ref 38), (1, .int (Int32.ofInt (0))), (2, .int (Int32.ofInt ((I 2117)))), (3, .int (Int32.ofInt (y28_3))), (4, .int (Int32.ofInt (y28_4))), (5, .int (Int32.ofInt (y28_5)))], [.int (Int32.ofInt (y28_3))], M170)) rfl ?_
                refine w_fin (r := .inl (some (y28_3))) (M' := M170) rfl ?_
                exact Or.inl ⟨y28_3, (w_up (w_up (w_up (w_up (w_up I_28 2436 ((I_28 2436) + 1)) 2441 (zt172)) 2437 (zk173)) 2438 (zv174)) 2439 ((I_28 2439) - 1)), A_28, B_28, C_28, rfl, ⟨by omega, by omega⟩, hR171a, (show c_fi c_ps I (w_up (w_up (w_up (w_up (w_up I_28 2436 ((I_28 2436) + 1)) 2441 (zt172)) 2437 (zk173)) 2438 (zv174)) 2439 ((I_28 2439) - 1)) by exact (c_fi_up (c_fi_up (c_fi_up (c_fi_up (c_fi_up hi28_0 rfl) rfl) rfl) rfl) rfl)), (show c_fa c_pa A A_28 by exact hi28_1), (show (0 ≤ (I_28 2436) + 1 ∧ (I_28 2436) + 1 ≤ (I_28 773) ∧ (zk173 = 0 ∨ (I_28 2436) + 1 < (I_28 773))) ∧ ((I_28 773) = (I 773) ∧ (I_28 2439) - 1 = (I 2439) ∧ 0 ≤ (I_28 2117)) ∧ (I 2436) + 2 ≤ (I_28 2436) + 1 ∧ (I_28 1670) + 0 ≤ (I 1670) + 2 * (((I_28 2436) + 1) - (I 2436)) ∧ (I 1670) ≤ (I_28 1670) by (repeat' apply And.intro) <;> first | assumption | omega), (show c_agl A A_28 (I 1670) by exact hi28_3)⟩
              · rw [e179]
                replace hR171b : w_Rep w_TC fr X (u + 6) (l + 64) I171b A171b B171b C171b M170 := hR171b
                replace f180 : c_fi c_ps I_28 I171b := f180
                replace f181 : c_fa c_pa A_28 A171b := f181
                replace f182 : M170.1[t178]? = some (.inr (11, [])) := f182
                exact Or.inr (⟨t178, I171b, A171b, B171b, C171b, rfl, hR171b, (show c_fi c_ps I I171b by exact (c_fi_trans hi28_0 f180)), (show c_fa c_pa A A171b by exact (c_fa_trans hi28_1 f181)), (show M170.1[t178]? = some (.inr (11, [])) by exact f182)⟩)
            · have h168 : ¬ ((I_28 2437) = 6) := h168
              show w_W _ _ _ (44, [(0, .ref 38), (1, .int (Int32.ofInt (0))), (2, .int (Int32.ofInt ((I 2117)))), (3, .int (Int32.ofInt (y28_3))), (4, .int (Int32.ofInt (y28_4))), (5, .int (Int32.ofInt (y28_5)))], [], M_28) _
              refine w_adv (n := 5) (F' := (72, [(6, .int (Int32.ofInt (y28_5))), (0, .ref 38), (1, .int (Int32.ofInt (0))), (2, .int (Int32.ofInt ((I 2117)))), (3, .int (Int32.ofInt (y28_3))), (4, .int (Int32.ofInt (y28_4))), (5, .int (Int32.ofInt (y28_5)))], [.ref 38], M_28)) rfl ?_
              refine w_gf (v := .ref 26) hR_28 rfl rfl rfl rfl ?_
              refine w_adv (n := 5) (F' := (83, [(6, .int (Int32.ofInt (y28_5))), (0, .ref 38), (1, .int (Int32.ofInt (0))), (2, .int (Int32.ofInt ((I 2117)))), (3, .int (Int32.ofInt (y28_3))), (4, .int (Int32.ofInt (y28_4))), (5, .int (Int32.ofInt (y28_5)))], [.int (Int32.ofInt (y28_5)), .int (Int32.ofInt (y28_5)), .int (Int32.ofInt ((I 2117))), .ref 38, .int (Int32.ofInt (y28_4)), .ref 26], M_28)) rfl ?_
              refine w_call (cm := 128) (as := [(0, .ref 38), (1, .int (Int32.ofInt ((I 2117)))), (2, .int (Int32.ofInt (y28_5))), (3, .int (Int32.ofInt (y28_5)))]) (rest := [.int (Int32.ofInt (y28_4)), .ref 26]) (o := some (4, 38)) rfl (w_fitR hR_28 rfl) (c_slot ((I 2117)) (y28_5) (y28_5) hR_28 (show 4 ≤ d by omega) ⟨by omega, by omega⟩ ⟨by omega, by omega⟩ ⟨by omega, by omega⟩ (show l ≤ 7000000 by first | assumption | omega) (show (0 ≤ (I_28 2436) ∧ (I_28 2436) ≤ (I_28 773) ∧ (I_28 773) ≤ 1501 ∧ ((I_28 2437) = 0 ∨ (I_28 2436) < (I_28 773))) ∧ (0 ≤ (I_28 2439) ∧ (I_28 2439) ≤ 24 ∧ 0 ≤ (I_28 2117)) ∧ 0 ≤ (I_28 1670) ∧ (I_28 1670) ≤ 2 * (I_28 2436) + 1 by (repeat' apply And.intro) <;> first | assumption | omega)) (fun r183 M184 q185 => ?_)
              rcases q185 with ⟨v186, I185a, A185a, B185a, C185a, e187, ⟨r188, r189⟩, hR185a, f190, f191, f192, f193, f194⟩ | ⟨t195, I185b, A185b, B185b, C185b, e196, hR185b, f197, f198, f199⟩
              · rw [e187]
                replace hR185a : w_Rep w_TC fr X u l I185a A185a B185a C185a M184 := hR185a
                replace f190 : c_fi c_ps I_28 I185a := f190
                replace f191 : c_fa c_pa A_28 A185a := f191
                replace f192 : (0 ≤ (I185a 2436) ∧ (I185a 2436) ≤ (I185a 773) ∧ ((I185a 2437) = 0 ∨ (I185a 2436) < (I185a 773))) ∧ ((I185a 773) = (I_28 773) ∧ (I185a 2439) = (I_28 2439) ∧ 0 ≤ (I185a 2117)) ∧ (I_28 2436) + 1 ≤ (I185a 2436) ∧ (I185a 1670) + 1 ≤ (I_28 1670) + 2 * ((I185a 2436) - (I_28 2436)) ∧ (I_28 1670) ≤ (I185a 1670) := f192
                obtain ⟨⟨n200, n201, n202⟩, ⟨n203, n204, n205⟩, n206, n207, n208⟩ := id f192
                clear f192
                replace f193 : c_agl A_28 A185a (I_28 1670) := f193
                replace f194 : (I_28 1670) ≤ v186 ∧ v186 < (I185a 1670) := f194
                obtain ⟨n209, n210⟩ := id f194
                clear f194
                have g211 : c_agl A A185a (I 1670) := c_agl_trans hi28_3 f193 (show (I 1670) ≤ (I_28 1670) by omega)
                show w_W _ _ _ (86, [(6, .int (Int32.ofInt (y28_5))), (0, .ref 38), (1, .int (Int32.ofInt (0))), (2, .int (Int32.ofInt ((I 2117)))), (3, .int (Int32.ofInt (y28_3))), (4, .int (Int32.ofInt (y28_4))), (5, .int (Int32.ofInt (y28_5)))], [.int (Int32.ofInt (v186)), .int (Int32.ofInt (y28_4)), .ref 26], M184) _
                refine w_call (cm := 106) (as := [(0, .ref 26), (1, .int (Int32.ofInt (y28_4))), (2, .int (Int32.ofInt (v186)))]) (rest := []) (o := some (8, 26)) rfl (w_fitR hR185a rfl) (c_chn (y28_4) (v186) hR185a (show 2 ≤ d by omega) ⟨by omega, by omega⟩ ⟨by omega, by omega⟩) (fun r212 M213 q214 => ?_)
                rcases q214 with ⟨A215, e216, hR214a, f217, f218⟩
                rw [e216]
                replace hR214a : w_Rep w_TC fr X u l I185a A215 B185a C185a M213 := hR214a
                replace f217 : c_fa c_pa A185a A215 := f217
                replace f218 : c_nxw A185a A215 y28_4 v186 := f218
                have g219 : c_agl A185a A215 (I 1670) := c_agl_nxw f218 (show (I 1670) ≤ y28_4 ∨ y28_4 < 0 by omega)
                have g220 : c_agl A A215 (I 1670) := c_agl_trans g211 g219 (show (I 1670) ≤ (I 1670) by omega)
                show w_W _ _ _ (89, [(6, .int (Int32.ofInt (y28_5))), (0, .ref 38), (1, .int (Int32.ofInt (0))), (2, .int (Int32.ofInt ((I 2117)))), (3, .int (Int32.ofInt (y28_3))), (4, .int (Int32.ofInt (y28_4))), (5, .int (Int32.ofInt (y28_5)))], [.int (Int32.ofInt (v186))], M213) _
                refine w_adv (n := 3) (F' := (93, [(4, .int (Int32.ofInt (v186))), (6, .int (Int32.ofInt (y28_5))), (0, .ref 38), (1, .int (Int32.ofInt (0))), (2, .int (Int32.ofInt ((I 2117)))), (3, .int (Int32.ofInt (y28_3))), (5, .int (Int32.ofInt (y28_5)))], [.int (Int32.ofInt ((-1))), .int (Int32.ofInt (y28_3))], M213)) rfl ?_
                refine w_br2 (a := y28_3) (b := (-1)) rfl rfl ⟨by omega, by omega⟩ ⟨by omega, by omega⟩ (fun h221 => ?_) (fun h221 => ?_)
                · have h221 : ¬ y28_3 = (-1) := h221
                  show w_W _ _ _ (101, [(4, .int (Int32.ofInt (v186))), (6, .int (Int32.ofInt (y28_5))), (0, .ref 38), (1, .int (Int32.ofInt (0))), (2, .int (Int32.ofInt ((I 2117)))), (3, .int (Int32.ofInt (y28_3))), (5, .int (Int32.ofInt (y28_5)))], [], M213) _
                  refine w_adv (n := 2) (F' := (103, [(3, .int (Int32.ofInt (y28_3))), (4, .int (Int32.ofInt (v186))), (6, .int (Int32.ofInt (y28_5))), (0, .ref 38), (1, .int (Int32.ofInt (0))), (2, .int (Int32.ofInt ((I 2117)))), (5, .int (Int32.ofInt (y28_5)))], [], M213)) rfl ?_
                  refine w_inc (nL := 7) (a := y28_5) rfl rfl rfl (by decide) ?_
                  refine w_adv (n := 1) (F' := (28, [(5, .int (Int32.ofInt (y28_5 + 1))), (3, .int (Int32.ofInt (y28_3))), (4, .int (Int32.ofInt (v186))), (6, .int (Int32.ofInt (y28_5))), (0, .ref 38), (1, .int (Int32.ofInt (0))), (2, .int (Int32.ofInt ((I 2117))))], [], M213)) rfl ?_
                  refine w_ls (ls := [(0, .ref 38), (1, .int (Int32.ofInt (0))), (2, .int (Int32.ofInt ((I 2117)))), (3, .int (Int32.ofInt (y28_3))), (4, .int (Int32.ofInt (v186))), (5, .int (Int32.ofInt (y28_5 + 1)))]) (show List.Nodup [0, 1, 2, 3, 4, 5] by decide) (show List.Nodup [5, 3, 4, 6, 0, 1, 2] by decide) (List.forall_mem_cons.mpr ⟨(List.Mem.tail _ (List.Mem.tail _ (List.Mem.tail _ (List.Mem.tail _ (List.Mem.head _))))), (List.forall_mem_cons.mpr ⟨(List.Mem.tail _ (List.Mem.tail _ (List.Mem.tail _ (List.Mem.tail _ (List.Mem.tail _ (List.Mem.head _)))))), (List.forall_mem_cons.mpr ⟨(List.Mem.tail _ (List.Mem.tail _ (List.Mem.tail _ (List.Mem.tail _ (List.Mem.tail _ (List.Mem.tail _ (List.Mem.head _))))))), (List.forall_mem_cons.mpr ⟨(List.Mem.tail _ (List.Mem.head _)), (List.forall_mem_cons.mpr ⟨(List.Mem.tail _ (List.Mem.tail _ (List.Mem.head _))), (List.forall_mem_cons.mpr ⟨(List.Mem.head _), (fun _ h => by cases h)⟩)⟩)⟩)⟩)⟩)⟩) ?_
                  exact ih28  (y28_3) (v186) (y28_5 + 1) I185a A215 B185a C185a M213 hR214a ⟨by omega, by omega⟩ ⟨by omega, by omega⟩ ⟨by omega, by omega⟩ (show c_fi c_ps I I185a by exact (c_fi_trans hi28_0 f190)) (show c_fa c_pa A A215 by exact (c_fa_trans (c_fa_trans hi28_1 f191) f217)) (show (0 ≤ (I185a 2436) ∧ (I185a 2436) ≤ (I185a 773) ∧ ((I185a 2437) = 0 ∨ (I185a 2436) < (I185a 773))) ∧ ((I185a 773) = (I 773) ∧ (I185a 2439) = (I 2439) + 1 ∧ 0 ≤ (I185a 2117)) ∧ (I 2436) + 1 ≤ (I185a 2436) ∧ (I185a 1670) + 2 ≤ (I 1670) + 2 * ((I185a 2436) - (I 2436)) ∧ (I 1670) ≤ (I185a 1670) by (repeat' apply And.intro) <;> first | assumption | omega) (show c_agl A A215 (I 1670) by exact g220) (show 1 ≤ (y28_5 + 1) ∧ (y28_5 + 1) ≤ 34 by omega) (show v186 = -1 ∨ (I 1670) ≤ v186 by omega) (show 34 - (y28_5 + 1) < (fu28 : Int) by omega)
                · have h221 : ¬ (¬ y28_3 = (-1)) := h221
                  show w_W _ _ _ (96, [(4, .int (Int32.ofInt (v186))), (6, .int (Int32.ofInt (y28_5))), (0, .ref 38), (1, .int (Int32.ofInt (0))), (2, .int (Int32.ofInt ((I 2117)))), (3, .int (Int32.ofInt (y28_3))), (5, .int (Int32.ofInt (y28_5)))], [], M213) _
                  refine w_adv (n := 3) (F' := (103, [(3, .int (Int32.ofInt (v186))), (4, .int (Int32.ofInt (v186))), (6, .int (Int32.ofInt (y28_5))), (0, .ref 38), (1, .int (Int32.ofInt (0))), (2, .int (Int32.ofInt ((I 2117)))), (5, .int (Int32.ofInt (y28_5)))], [], M213)) rfl ?_
                  refine w_inc (nL := 7) (a := y28_5) rfl rfl rfl (by decide) ?_
                  refine w_adv (n := 1) (F' := (28, [(5, .int (Int32.ofInt (y28_5 + 1))), (3, .int (Int32.ofInt (v186))), (4, .int (Int32.ofInt (v186))), (6, .int (Int32.ofInt (y28_5))), (0, .ref 38), (1, .int (Int32.ofInt (0))), (2, .int (Int32.ofInt ((I 2117))))], [], M213)) rfl ?_
                  refine w_ls (ls := [(0, .ref 38), (1, .int (Int32.ofInt (0))), (2, .int (Int32.ofInt ((I 2117)))), (3, .int (Int32.ofInt (v186))), (4, .int (Int32.ofInt (v186))), (5, .int (Int32.ofInt (y28_5 + 1)))]) (show List.Nodup [0, 1, 2, 3, 4, 5] by decide) (show List.Nodup [5, 3, 4, 6, 0, 1, 2] by decide) (List.forall_mem_cons.mpr ⟨(List.Mem.tail _ (List.Mem.tail _ (List.Mem.tail _ (List.Mem.tail _ (List.Mem.head _))))), (List.forall_mem_cons.mpr ⟨(List.Mem.tail _ (List.Mem.tail _ (List.Mem.tail _ (List.Mem.tail _ (List.Mem.tail _ (List.Mem.head _)))))), (List.forall_mem_cons.mpr ⟨(List.Mem.tail _ (List.Mem.tail _ (List.Mem.tail _ (List.Mem.tail _ (List.Mem.tail _ (List.Mem.tail _ (List.Mem.head _))))))), (List.forall_mem_cons.mpr ⟨(List.Mem.tail _ (List.Mem.head _)), (List.forall_mem_cons.mpr ⟨(List.Mem.tail _ (List.Mem.tail _ (List.Mem.head _))), (List.forall_mem_cons.mpr ⟨(List.Mem.head _), (fun _ h => by cases h)⟩)⟩)⟩)⟩)⟩)⟩) ?_
                  exact ih28  (v186) (v186) (y28_5 + 1) I185a A215 B185a C185a M213 hR214a ⟨by omega, by omega⟩ ⟨by omega, by omega⟩ ⟨by omega, by omega⟩ (show c_fi c_ps I I185a by exact (c_fi_trans hi28_0 f190)) (show c_fa c_pa A A215 by exact (c_fa_trans (c_fa_trans hi28_1 f191) f217)) (show (0 ≤ (I185a 2436) ∧ (I185a 2436) ≤ (I185a 773) ∧ ((I185a 2437) = 0 ∨ (I185a 2436) < (I185a 773))) ∧ ((I185a 773) = (I 773) ∧ (I185a 2439) = (I 2439) + 1 ∧ 0 ≤ (I185a 2117)) ∧ (I 2436) + 1 ≤ (I185a 2436) ∧ (I185a 1670) + 2 ≤ (I 1670) + 2 * ((I185a 2436) - (I 2436)) ∧ (I 1670) ≤ (I185a 1670) by (repeat' apply And.intro) <;> first | assumption | omega) (show c_agl A A215 (I 1670) by exact g220) (show 1 ≤ (y28_5 + 1) ∧ (y28_5 + 1) ≤ 34 by omega) (show v186 = -1 ∨ (I 1670) ≤ v186 by omega) (show 34 - (y28_5 + 1) < (fu28 : Int) by omega)
              · rw [e196]
                replace hR185b : w_Rep w_TC fr X (u + 6) (l + 64) I185b A185b B185b C185b M184 := hR185b
                replace f197 : c_fi c_ps I_28 I185b := f197
                replace f198 : c_fa c_pa A_28 A185b := f198
                replace f199 : M184.1[t195]? = some (.inr (11, [])) := f199
                exact Or.inr (⟨t195, I185b, A185b, B185b, C185b, rfl, hR185b, (show c_fi c_ps I I185b by exact (c_fi_trans hi28_0 f197)), (show c_fa c_pa A A185b by exact (c_fa_trans hi28_1 f198)), (show M184.1[t195]? = some (.inr (11, [])) by exact f199)⟩)
      refine w_ls (ls := [(0, .ref 38), (1, .int (Int32.ofInt (0))), (2, .int (Int32.ofInt ((I 2117)))), (3, .int (Int32.ofInt ((-1)))), (4, .int (Int32.ofInt ((-1)))), (5, .int (Int32.ofInt (1)))]) (show List.Nodup [0, 1, 2, 3, 4, 5] by decide) (show List.Nodup [5, 4, 3, 2, 1, 0] by decide) (List.forall_mem_cons.mpr ⟨(List.Mem.tail _ (List.Mem.tail _ (List.Mem.tail _ (List.Mem.tail _ (List.Mem.tail _ (List.Mem.head _)))))), (List.forall_mem_cons.mpr ⟨(List.Mem.tail _ (List.Mem.tail _ (List.Mem.tail _ (List.Mem.tail _ (List.Mem.head _))))), (List.forall_mem_cons.mpr ⟨(List.Mem.tail _ (List.Mem.tail _ (List.Mem.tail _ (List.Mem.head _)))), (List.forall_mem_cons.mpr ⟨(List.Mem.tail _ (List.Mem.tail _ (List.Mem.head _))), (List.forall_mem_cons.mpr ⟨(List.Mem.tail _ (List.Mem.head _)), (List.forall_mem_cons.mpr ⟨(List.Mem.head _), (fun _ h => by cases h)⟩)⟩)⟩)⟩)⟩)⟩) ?_
      exact lp28 ((34 - 1 : Int).toNat + 1)  ((-1)) ((-1)) (1) (w_up (w_up (w_up (w_up (w_up I 2436 ((I 2436) + 1)) 2441 (zt4)) 2437 (zk5)) 2438 (zv6)) 2439 ((I 2439) + 1)) A B C M2 hR3a ⟨by omega, by omega⟩ ⟨by omega, by omega⟩ ⟨by omega, by omega⟩ (show c_fi c_ps I (w_up (w_up (w_up (w_up (w_up I 2436 ((I 2436) + 1)) 2441 (zt4)) 2437 (zk5)) 2438 (zv6)) 2439 ((I 2439) + 1)) by exact (c_fi_up (c_fi_up (c_fi_up (c_fi_up (c_fi_up c_fi_refl rfl) rfl) rfl) rfl) rfl)) (show c_fa c_pa A A by exact c_fa_refl) (show (0 ≤ (I 2436) + 1 ∧ (I 2436) + 1 ≤ (I 773) ∧ (zk5 = 0 ∨ (I 2436) + 1 < (I 773))) ∧ ((I 773) = (I 773) ∧ (I 2439) + 1 = (I 2439) + 1 ∧ 0 ≤ (I 2117)) ∧ (I 2436) + 1 ≤ (I 2436) + 1 ∧ (I 1670) + 2 ≤ (I 1670) + 2 * (((I 2436) + 1) - (I 2436)) ∧ (I 1670) ≤ (I 1670) by (repeat' apply And.intro) <;> first | assumption | omega) (show c_agl A A (I 1670) by exact c_agl_refl) (show 1 ≤ (1 : Int) ∧ (1 : Int) ≤ 34 by omega) (show ((-1) : Int) = -1 ∨ (I 1670) ≤ ((-1) : Int) by omega) (show 34 - 1 < (((34 - 1 : Int).toNat + 1 : Nat) : Int) by omega)
  · rw [e11]
    replace hR3b : w_Rep w_TC fr X (u + 6) (l + 64) I3b A3b B3b C3b M2 := hR3b
    replace f12 : c_fi c_ps I I3b := f12
    replace f13 : c_fa c_pa A A3b := f13
    replace f14 : M2.1[t10]? = some (.inr (11, [])) := f14
    exact Or.inr (⟨t10, I3b, A3b, B3b, C3b, rfl, hR3b, (show c_fi c_ps I I3b by exact f12), (show c_fa c_pa A A3b by exact f13), (show M2.1[t10]? = some (.inr (11, [])) by exact f14)⟩)
