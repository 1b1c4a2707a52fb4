/-! PARSER of the class: part, compared. -/
def c_part_Q (fr : Nat → Bool) (X : Nat → Option (q_C (Nat → Int32))) (u l : Nat) (I : Nat → Int) (A : Nat → Int → Int) (B C : Nat → Nat) (M : w_M) : w_X → w_M → Prop := fun r M' => (∃ v : Int, ∃ (I' : Nat → Int) (A' : Nat → Int → Int) (B' C' : Nat → Nat), (r = .inl (some v)) ∧ (w_in v) ∧ (w_Rep w_TC fr X u l I' A' B' C' M') ∧ (c_fi c_ps I I') ∧ (c_fa c_pa A A') ∧ ((0 ≤ (I' 2436) ∧ (I' 2436) ≤ (I' 773) ∧ ((I' 2437) = 0 ∨ (I' 2436) < (I' 773))) ∧ ((I' 773) = (I 773) ∧ (I' 2439) = (I 2439) ∧ 0 ≤ (I' 2117)) ∧ (I 2436) + 1 ≤ (I' 2436) ∧ (I' 1670) + 1 ≤ (I 1670) + 2 * ((I' 2436) - (I 2436)) ∧ (I 1670) ≤ (I' 1670)) ∧ (c_agl A A' (I 1670)) ∧ (c_On A' (c_r (I 2439) 1) v (I 1670) (I' 1670))) ∨ (∃ t : Nat, ∃ (I' : Nat → Int) (A' : Nat → Int → Int) (B' C' : Nat → Nat), (r = .inr t) ∧ (w_Rep w_TC fr X (u + 6) (l + 64) I' A' B' C' M') ∧ (c_fi c_ps I I') ∧ (c_fa c_pa A A') ∧ (M'.1[t]? = some (.inr (11, []))))
set_option maxHeartbeats 100000000 in
set_option maxRecDepth 100000 in
theorem c_part {L : Nat} {xs : Nat → Int32} {d : Nat} {fr : Nat → Bool} {X : Nat → Option (q_C (Nat → Int32))} {u l : Nat} {I : Nat → Int} {A : Nat → Int → Int} {B C : Nat → Nat} {M : w_M} (hA : c_ALL L xs d) (hR : w_Rep w_TC fr X u l I A B C M) (hd : 10 * (24 - (I 2439)) + 11 ≤ (d : Int)) (hl : l ≤ 7000000) (hNU : (0 ≤ (I 2436) ∧ (I 2436) ≤ (I 773) ∧ (I 773) ≤ 1501 ∧ ((I 2437) = 0 ∨ (I 2436) < (I 773))) ∧ (0 ≤ (I 2439) ∧ (I 2439) ≤ 24 ∧ 0 ≤ (I 2117)) ∧ 0 ≤ (I 1670) ∧ (I 1670) ≤ 2 * (I 2436) + 1) : w_W (z_P L xs) d 91 (0, [(0, .ref 38)], [], M) (c_part_Q fr X u l I A B C M) := by
  obtain ⟨d, rfl⟩ : ∃ d0, d = d0 + 1 := ⟨d - 1, by omega⟩
  refine w_adv (n := 1) (F' := (1, [(0, .ref 38)], [.ref 38], M)) rfl ?_
  refine w_call (cm := 92) (as := [(0, .ref 38)]) (rest := []) (o := some (4, 38)) rfl (w_fitR hR rfl) (c_atomic (c_ALL_dn hA) hR (show 10 * (24 - (I 2439)) + 10 ≤ (d : Int) by omega) (show l ≤ 7000000 by first | assumption | omega) (show (0 ≤ (I 2436) ∧ (I 2436) ≤ (I 773) ∧ (I 773) ≤ 1501 ∧ ((I 2437) = 0 ∨ (I 2436) < (I 773))) ∧ (0 ≤ (I 2439) ∧ (I 2439) ≤ 24 ∧ 0 ≤ (I 2117)) ∧ 0 ≤ (I 1670) ∧ (I 1670) ≤ 2 * (I 2436) + 1 by (repeat' apply And.intro) <;> first | assumption | omega)) (fun r1 M2 q3 => ?_)
  rcases q3 with ⟨v4, I3a, A3a, B3a, C3a, e5, ⟨r6, r7⟩, hR3a, f8, f9, f10, f11, f12⟩ | ⟨t13, I3b, A3b, B3b, C3b, e14, hR3b, f15, f16, f17⟩
  · rw [e5]
    replace hR3a : w_Rep w_TC fr X u l I3a A3a B3a C3a M2 := hR3a
    replace f8 : c_fi c_ps I I3a := f8
    replace f9 : c_fa c_pa A A3a := f9
    replace f10 : (0 ≤ (I3a 2436) ∧ (I3a 2436) ≤ (I3a 773) ∧ ((I3a 2437) = 0 ∨ (I3a 2436) < (I3a 773))) ∧ ((I3a 773) = (I 773) ∧ (I3a 2439) = (I 2439) ∧ 0 ≤ (I3a 2117)) ∧ (I 2436) + 1 ≤ (I3a 2436) ∧ (I3a 1670) + 1 ≤ (I 1670) + 2 * ((I3a 2436) - (I 2436)) ∧ (I 1670) ≤ (I3a 1670) := f10
    obtain ⟨⟨n18, n19, n20⟩, ⟨n21, n22, n23⟩, n24, n25, n26⟩ := id f10
    clear f10
    replace f11 : c_agl A A3a (I 1670) := f11
    replace f12 : c_Wn A3a (c_r (I 2439) 1) v4 (I 1670) (I3a 1670) := f12
    have g27 : c_agl A A3a (I 1670) := c_agl_trans c_agl_refl f11 (show (I 1670) ≤ (I 1670) by omega)
    have k28 : c_On A3a (c_r (I 2439) 1) v4 (I 1670) (I3a 1670) := c_On_of f12
    obtain ⟨b29, b30⟩ := c_OpA_in k28.1
    show w_W _ _ _ (4, [(0, .ref 38)], [.int (Int32.ofInt (v4))], M2) _
    refine w_adv (n := 3) (F' := (7, [(2, .int (Int32.ofInt (0))), (1, .int (Int32.ofInt (v4))), (0, .ref 38)], [], M2)) rfl ?_
    have lp7 : ∀ fu7 : Nat, ∀ (y7_1 : Int) (y7_2 : Int) (I_7 : Nat → Int) (A_7 : Nat → Int → Int) (B_7 C_7 : Nat → Nat) (M_7 : w_M) (hR_7 : w_Rep w_TC fr X u l I_7 A_7 B_7 C_7 M_7), w_in y7_1 → w_in y7_2 → c_fi c_ps I I_7 → c_fa c_pa A A_7 → (0 ≤ (I_7 2436) ∧ (I_7 2436) ≤ (I_7 773) ∧ ((I_7 2437) = 0 ∨ (I_7 2436) < (I_7 773))) ∧ ((I_7 773) = (I 773) ∧ (I_7 2439) = (I 2439) ∧ 0 ≤ (I_7 2117)) ∧ (I 2436) + 1 ≤ (I_7 2436) ∧ (I_7 1670) + 1 ≤ (I 1670) + 2 * ((I_7 2436) - (I 2436)) ∧ (I 1670) ≤ (I_7 1670) → c_agl A A_7 (I 1670) → c_On A_7 (c_r (I 2439) 1) y7_1 (I 1670) (I_7 1670) → 0 ≤ y7_2 ∧ y7_2 ≤ 1500 → 1500 - y7_2 < (fu7 : Int) → w_W (z_P L xs) (d + 1) 91 (7, [(0, .ref 38), (1, .int (Int32.ofInt (y7_1))), (2, .int (Int32.ofInt (y7_2)))], [], M_7) (c_part_Q fr X u l I A B C M) := by
      intro fu7
      induction fu7 with
      | zero =>
        intro y7_1 y7_2 I_7 A_7 B_7 C_7 M_7 hR_7 ⟨ra_y7_1, rb_y7_1⟩ ⟨ra_y7_2, rb_y7_2⟩ hi7_0 hi7_1 hi7_2 hi7_3 hi7_4 hi7_5 hn7
        exfalso
        omega
      | succ fu7 ih7 =>
        intro y7_1 y7_2 I_7 A_7 B_7 C_7 M_7 hR_7 ⟨ra_y7_1, rb_y7_1⟩ ⟨ra_y7_2, rb_y7_2⟩ hi7_0 hi7_1 hi7_2 hi7_3 hi7_4 hi7_5 hn7
        refine w_adv (n := 2) (F' := (11, [(0, .ref 38), (1, .int (Int32.ofInt (y7_1))), (2, .int (Int32.ofInt (y7_2)))], [.int (Int32.ofInt (1500)), .int (Int32.ofInt (y7_2))], M_7)) rfl ?_
        refine w_br2 (a := y7_2) (b := 1500) rfl rfl ⟨by omega, by omega⟩ ⟨by omega, by omega⟩ (fun h31 => ?_) (fun h31 => ?_)
        · have h31 : y7_2 ≥ 1500 := h31
          show w_W _ _ _ (55, [(0, .ref 38), (1, .int (Int32.ofInt (y7_1))), (2, .int (Int32.ofInt (y7_2)))], [], M_7) _
          refine w_adv (n := 1) (F' := (56, [(0, .ref 38), (1, .int (Int32.ofInt (y7_1))), (2, .int (Int32.ofInt (y7_2)))], [.int (Int32.ofInt (y7_1))], M_7)) rfl ?_
          refine w_fin (r := .inl (some (y7_1))) (M' := M_7) rfl ?_
          exact Or.inl ⟨y7_1, I_7, A_7, B_7, C_7, rfl, ⟨by omega, by omega⟩, hR_7, (show c_fi c_ps I I_7 by exact hi7_0), (show c_fa c_pa A A_7 by exact hi7_1), (show (0 ≤ (I_7 2436) ∧ (I_7 2436) ≤ (I_7 773) ∧ ((I_7 2437) = 0 ∨ (I_7 2436) < (I_7 773))) ∧ ((I_7 773) = (I 773) ∧ (I_7 2439) = (I 2439) ∧ 0 ≤ (I_7 2117)) ∧ (I 2436) + 1 ≤ (I_7 2436) ∧ (I_7 1670) + 1 ≤ (I 1670) + 2 * ((I_7 2436) - (I 2436)) ∧ (I 1670) ≤ (I_7 1670) by (repeat' apply And.intro) <;> first | assumption | omega), (show c_agl A A_7 (I 1670) by exact hi7_3), (show c_On A_7 (c_r (I 2439) 1) y7_1 (I 1670) (I_7 1670) by exact c_On_win hi7_4 (show (I 1670) ≤ (I 1670) by omega) (show (I_7 1670) ≤ (I_7 1670) by omega))⟩
        · have h31 : ¬ (y7_2 ≥ 1500) := h31
          show w_W _ _ _ (14, [(0, .ref 38), (1, .int (Int32.ofInt (y7_1))), (2, .int (Int32.ofInt (y7_2)))], [], M_7) _
          refine w_adv (n := 1) (F' := (15, [(0, .ref 38), (1, .int (Int32.ofInt (y7_1))), (2, .int (Int32.ofInt (y7_2)))], [.ref 38], M_7)) rfl ?_
          refine w_gf (v := .int (Int32.ofInt ((I_7 2437)))) hR_7 rfl rfl rfl rfl ?_
          obtain ⟨r32, r33⟩ : -2147483648 ≤ (I_7 2437) ∧ (I_7 2437) ≤ 2147483647 := hR_7.ri 2437
          refine w_adv (n := 1) (F' := (20, [(0, .ref 38), (1, .int (Int32.ofInt (y7_1))), (2, .int (Int32.ofInt (y7_2)))], [.int (Int32.ofInt (17)), .int (Int32.ofInt ((I_7 2437)))], M_7)) rfl ?_
          refine w_br2 (a := (I_7 2437)) (b := 17) rfl rfl ⟨by omega, by omega⟩ ⟨by omega, by omega⟩ (fun h34 => ?_) (fun h34 => ?_)
          · have h34 : ¬ (I_7 2437) = 17 := h34
            show w_W _ _ _ (55, [(0, .ref 38), (1, .int (Int32.ofInt (y7_1))), (2, .int (Int32.ofInt (y7_2)))], [], M_7) _
            refine w_adv (n := 1) (F' := (56, [(0, .ref 38), (1, .int (Int32.ofInt (y7_1))), (2, .int (Int32.ofInt (y7_2)))], [.int (Int32.ofInt (y7_1))], M_7)) rfl ?_
            refine w_fin (r := .inl (some (y7_1))) (M' := M_7) rfl ?_
            exact Or.inl ⟨y7_1, I_7, A_7, B_7, C_7, rfl, ⟨by omega, by omega⟩, hR_7, (show c_fi c_ps I I_7 by exact hi7_0), (show c_fa c_pa A A_7 by exact hi7_1), (show (0 ≤ (I_7 2436) ∧ (I_7 2436) ≤ (I_7 773) ∧ ((I_7 2437) = 0 ∨ (I_7 2436) < (I_7 773))) ∧ ((I_7 773) = (I 773) ∧ (I_7 2439) = (I 2439) ∧ 0 ≤ (I_7 2117)) ∧ (I 2436) + 1 ≤ (I_7 2436) ∧ (I_7 1670) + 1 ≤ (I 1670) + 2 * ((I_7 2436) - (I 2436)) ∧ (I 1670) ≤ (I_7 1670) by (repeat' apply And.intro) <;> first | assumption | omega), (show c_agl A A_7 (I 1670) by exact hi7_3), (show c_On A_7 (c_r (I 2439) 1) y7_1 (I 1670) (I_7 1670) by exact c_On_win hi7_4 (show (I 1670) ≤ (I 1670) by omega) (show (I_7 1670) ≤ (I_7 1670) by omega))⟩
          · have h34 : ¬ (¬ (I_7 2437) = 17) := h34
            show w_W _ _ _ (23, [(0, .ref 38), (1, .int (Int32.ofInt (y7_1))), (2, .int (Int32.ofInt (y7_2)))], [], M_7) _
            refine w_adv (n := 1) (F' := (24, [(0, .ref 38), (1, .int (Int32.ofInt (y7_1))), (2, .int (Int32.ofInt (y7_2)))], [.ref 38], M_7)) rfl ?_
            refine w_call (cm := 80) (as := [(0, .ref 38)]) (rest := []) (o := some (4, 38)) rfl (w_fitR hR_7 rfl) (c_advance hR_7 (show 3 ≤ d by omega) (show l ≤ 7000000 by first | assumption | omega) (show -1 ≤ (I_7 2436) ∧ (I_7 2436) < (I_7 773) ∧ (I_7 773) ≤ 1501 by first | assumption | omega)) (fun r35 M36 q37 => ?_)
            rcases q37 with ⟨zt38, zk39, zv40, e41, hR37a, f42⟩ | ⟨t43, I37b, A37b, B37b, C37b, e44, hR37b, f45, f46, f47⟩
            · rw [e41]
              replace hR37a : w_Rep w_TC fr X u l (w_up (w_up (w_up (w_up I_7 2436 ((I_7 2436) + 1)) 2441 (zt38)) 2437 (zk39)) 2438 (zv40)) A_7 B_7 C_7 M36 := hR37a
              replace f42 : ((I_7 2436) + 1 < (I_7 773) ∨ zk39 = 0) := f42
              show w_W _ _ _ (27, [(0, .ref 38), (1, .int (Int32.ofInt (y7_1))), (2, .int (Int32.ofInt (y7_2)))], [], M36) _
              refine w_adv (n := 1) (F' := (28, [(0, .ref 38), (1, .int (Int32.ofInt (y7_1))), (2, .int (Int32.ofInt (y7_2)))], [.ref 38], M36)) rfl ?_
              refine w_gf (v := .ref 26) hR37a rfl rfl rfl rfl ?_
              refine w_adv (n := 5) (F' := (37, [(0, .ref 38), (1, .int (Int32.ofInt (y7_1))), (2, .int (Int32.ofInt (y7_2)))], [.int (Int32.ofInt (1)), .int (Int32.ofInt ((-1))), .ref 38, .int (Int32.ofInt (y7_1)), .int (Int32.ofInt (9)), .ref 26], M36)) rfl ?_
              refine w_call (cm := 103) (as := [(0, .ref 38), (1, .int (Int32.ofInt ((-1)))), (2, .int (Int32.ofInt (1)))]) (rest := [.int (Int32.ofInt (y7_1)), .int (Int32.ofInt (9)), .ref 26]) (o := some (4, 38)) rfl (w_fitR hR37a rfl) (c_feature ((-1)) (1) hR37a (show 3 ≤ d by omega) ⟨by omega, by omega⟩ ⟨by omega, by omega⟩ (show l ≤ 7000000 by first | assumption | omega)) (fun r48 M49 q50 => ?_)
              rcases q50 with ⟨v51, e52, ⟨r53, r54⟩, e55, f56⟩ | ⟨t57, I50b, A50b, B50b, C50b, e58, hR50b, f59, f60, f61⟩
              · rw [e52, e55]
                replace f56 : ¬ zk39 = 0 := f56
                show w_W _ _ _ (40, [(0, .ref 38), (1, .int (Int32.ofInt (y7_1))), (2, .int (Int32.ofInt (y7_2)))], [.int (Int32.ofInt (v51)), .int (Int32.ofInt (y7_1)), .int (Int32.ofInt (9)), .ref 26], M36) _
                refine w_adv (n := 1) (F' := (41, [(0, .ref 38), (1, .int (Int32.ofInt (y7_1))), (2, .int (Int32.ofInt (y7_2)))], [.int (Int32.ofInt ((-1))), .int (Int32.ofInt (v51)), .int (Int32.ofInt (y7_1)), .int (Int32.ofInt (9)), .ref 26], M36)) rfl ?_
                refine w_call (cm := 94) (as := [(0, .ref 26), (1, .int (Int32.ofInt (9))), (2, .int (Int32.ofInt (y7_1))), (3, .int (Int32.ofInt (v51))), (4, .int (Int32.ofInt ((-1))))]) (rest := []) (o := some (8, 26)) rfl (w_fitR hR37a rfl) (c_mkn (9) (y7_1) (v51) ((-1)) hR37a (show 2 ≤ d by omega) ⟨by omega, by omega⟩ ⟨by omega, by omega⟩ ⟨by omega, by omega⟩ ⟨by omega, by omega⟩ (show 0 ≤ (I_7 1670) ∧ (I_7 1670) < 3016 by first | assumption | omega)) (fun r62 M63 q64 => ?_)
                rcases q64 with ⟨A65, e66, hR64a, f67, f68⟩
                rw [e66]
                replace hR64a : w_Rep w_TC fr X u l (w_up (w_up (w_up (w_up (w_up I_7 2436 ((I_7 2436) + 1)) 2441 (zt38)) 2437 (zk39)) 2438 (zv40)) 1670 ((I_7 1670) + 1)) A65 B_7 C_7 M63 := hR64a
                replace f67 : c_fa c_pa A_7 A65 := f67
                replace f68 : c_mk A_7 A65 (I_7 1670) 9 y7_1 v51 (-1) := f68
                have k69 : c_On A65 (c_r (I 2439) 1) (I_7 1670) (I 1670) ((I_7 1670) + 1) := c_On_mk9 f68 hi7_4 (show 0 ≤ (I 1670) by omega) (show (I_7 1670) ≤ (I_7 1670) by omega)
                have g70 : c_agl A A65 (I 1670) := c_agl_trans hi7_3 f68.1 (show (I 1670) ≤ (I_7 1670) by omega)
                show w_W _ _ _ (44, [(0, .ref 38), (1, .int (Int32.ofInt (y7_1))), (2, .int (Int32.ofInt (y7_2)))], [.int (Int32.ofInt ((I_7 1670)))], M63) _
                refine w_adv (n := 2) (F' := (46, [(1, .int (Int32.ofInt ((I_7 1670)))), (0, .ref 38), (2, .int (Int32.ofInt (y7_2)))], [.ref 38], M63)) rfl ?_
                refine w_call (cm := 80) (as := [(0, .ref 38)]) (rest := []) (o := some (4, 38)) rfl (w_fitR hR64a rfl) (c_advance hR64a (show 3 ≤ d by omega) (show l ≤ 7000000 by first | assumption | omega) (show -1 ≤ (I_7 2436) + 1 ∧ (I_7 2436) + 1 < (I_7 773) ∧ (I_7 773) ≤ 1501 by first | assumption | omega)) (fun r71 M72 q73 => ?_)
                rcases q73 with ⟨zt74, zk75, zv76, e77, hR73a, f78⟩ | ⟨t79, I73b, A73b, B73b, C73b, e80, hR73b, f81, f82, f83⟩
                · rw [e77]
                  replace hR73a : w_Rep w_TC fr X u l (w_up (w_up (w_up (w_up (w_up I_7 1670 ((I_7 1670) + 1)) 2436 ((I_7 2436) + 1 + 1)) 2441 (zt74)) 2437 (zk75)) 2438 (zv76)) A65 B_7 C_7 M72 := w_Rep.up hR73a (show (w_up (w_up (w_up (w_up (w_up I_7 1670 ((I_7 1670) + 1)) 2436 ((I_7 2436) + 1 + 1)) 2441 (zt74)) 2437 (zk75)) 2438 (zv76)) = _ from (funext fun s => if e0 : s = 1670 then (by subst e0; rfl) else if e1 : s = 2436 then (by subst e1; rfl) else if e2 : s = 2437 then (by subst e2; rfl) else if e3 : s = 2438 then (by subst e3; rfl) else if e4 : s = 2441 then (by subst e4; rfl) else (by simp only [w_up_ne e0, w_up_ne e1, w_up_ne e2, w_up_ne e3, w_up_ne e4]))) rfl
                  replace f78 : ((I_7 2436) + 1 + 1 < (I_7 773) ∨ zk75 = 0) := f78
                  show w_W _ _ _ (49, [(1, .int (Int32.ofInt ((I_7 1670)))), (0, .ref 38), (2, .int (Int32.ofInt (y7_2)))], [], M72) _
                  refine w_inc (nL := 3) (a := y7_2) rfl rfl rfl (by decide) ?_
                  refine w_adv (n := 1) (F' := (7, [(2, .int (Int32.ofInt (y7_2 + 1))), (1, .int (Int32.ofInt ((I_7 1670)))), (0, .ref 38)], [], M72)) rfl ?_
                  refine w_ls (ls := [(0, .ref 38), (1, .int (Int32.ofInt ((I_7 1670)))), (2, .int (Int32.ofInt (y7_2 + 1)))]) (show List.Nodup [0, 1, 2] by decide) (show List.Nodup [2, 1, 0] by decide) (List.forall_mem_cons.mpr ⟨(List.Mem.tail _ (List.Mem.tail _ (List.Mem.head _))), (List.forall_mem_cons.mpr ⟨(List.Mem.tail _ (List.Mem.head _)), (List.forall_mem_cons.mpr ⟨(List.Mem.head _), (fun _ h => by cases h)⟩)⟩)⟩) ?_
                  exact ih7  ((I_7 1670)) (y7_2 + 1) (w_up (w_up (w_up (w_up (w_up I_7 1670 ((I_7 1670) + 1)) 2436 ((I_7 2436) + 1 + 1)) 2441 (zt74)) 2437 (zk75)) 2438 (zv76)) A65 B_7 C_7 M72 hR73a ⟨by omega, by omega⟩ ⟨by omega, by omega⟩ (show c_fi c_ps I (w_up (w_up (w_up (w_up (w_up I_7 1670 ((I_7 1670) + 1)) 2436 ((I_7 2436) + 1 + 1)) 2441 (zt74)) 2437 (zk75)) 2438 (zv76)) by exact (c_fi_up (c_fi_up (c_fi_up (c_fi_up (c_fi_up hi7_0 rfl) rfl) rfl) rfl) rfl)) (show c_fa c_pa A A65 by exact (c_fa_trans hi7_1 f67)) (show (0 ≤ (I_7 2436) + 1 + 1 ∧ (I_7 2436) + 1 + 1 ≤ (I_7 773) ∧ (zk75 = 0 ∨ (I_7 2436) + 1 + 1 < (I_7 773))) ∧ ((I_7 773) = (I 773) ∧ (I_7 2439) = (I 2439) ∧ 0 ≤ (I_7 2117)) ∧ (I 2436) + 1 ≤ (I_7 2436) + 1 + 1 ∧ ((I_7 1670) + 1) + 1 ≤ (I 1670) + 2 * (((I_7 2436) + 1 + 1) - (I 2436)) ∧ (I 1670) ≤ (I_7 1670) + 1 by (repeat' apply And.intro) <;> first | assumption | omega) (show c_agl A A65 (I 1670) by exact g70) (show c_On A65 (c_r (I 2439) 1) (I_7 1670) (I 1670) ((I_7 1670) + 1) by exact k69) (show 0 ≤ (y7_2 + 1) ∧ (y7_2 + 1) ≤ 1500 by omega) (show 1500 - (y7_2 + 1) < (fu7 : Int) by omega)
                · rw [e80]
                  replace hR73b : w_Rep w_TC fr X (u + 6) (l + 64) I73b A73b B73b C73b M72 := hR73b
                  replace f81 : c_fi c_ps (w_up (w_up (w_up (w_up (w_up I_7 2436 ((I_7 2436) + 1)) 2441 (zt38)) 2437 (zk39)) 2438 (zv40)) 1670 ((I_7 1670) + 1)) I73b := f81
                  replace f82 : c_fa c_pa A65 A73b := f82
                  replace f83 : M72.1[t79]? = some (.inr (11, [])) := f83
                  exact Or.inr (⟨t79, I73b, A73b, B73b, C73b, rfl, hR73b, (show c_fi c_ps I I73b by exact (c_fi_trans (c_fi_up (c_fi_up (c_fi_up (c_fi_up (c_fi_up hi7_0 rfl) rfl) rfl) rfl) rfl) f81)), (show c_fa c_pa A A73b by exact (c_fa_trans (c_fa_trans hi7_1 f67) f82)), (show M72.1[t79]? = some (.inr (11, [])) by exact f83)⟩)
              · rw [e58]
                replace hR50b : w_Rep w_TC fr X (u + 6) (l + 64) I50b A50b B50b C50b M49 := hR50b
                replace f59 : c_fi c_ps (w_up (w_up (w_up (w_up I_7 2436 ((I_7 2436) + 1)) 2441 (zt38)) 2437 (zk39)) 2438 (zv40)) I50b := f59
                replace f60 : c_fa c_pa A_7 A50b := f60
                replace f61 : M49.1[t57]? = some (.inr (11, [])) := f61
                exact Or.inr (⟨t57, I50b, A50b, B50b, C50b, rfl, hR50b, (show c_fi c_ps I I50b by exact (c_fi_trans (c_fi_up (c_fi_up (c_fi_up (c_fi_up hi7_0 rfl) rfl) rfl) rfl) f59)), (show c_fa c_pa A A50b by exact (c_fa_trans hi7_1 f60)), (show M49.1[t57]? = some (.inr (11, [])) by exact f61)⟩)
            · rw [e44]
              replace hR37b : w_Rep w_TC fr X (u + 6) (l + 64) I37b A37b B37b C37b M36 := hR37b
              replace f45 : c_fi c_ps I_7 I37b := f45
              replace f46 : c_fa c_pa A_7 A37b := f46
              replace f47 : M36.1[t43]? = some (.inr (11, [])) := f47
              exact Or.inr (⟨t43, I37b, A37b, B37b, C37b, rfl, hR37b, (show c_fi c_ps I I37b by exact (c_fi_trans hi7_0 f45)), (show c_fa c_pa A A37b by exact (c_fa_trans hi7_1 f46)), (show M36.1[t43]? = some (.inr (11, [])) by exact f47)⟩)
    refine w_ls (ls := [(0, .ref 38), (1, .int (Int32.ofInt (v4))), (2, .int (Int32.ofInt (0)))]) (show List.Nodup [0, 1, 2] by decide) (show List.Nodup [2, 1, 0] by decide) (List.forall_mem_cons.mpr ⟨(List.Mem.tail _ (List.Mem.tail _ (List.Mem.head _))), (List.forall_mem_cons.mpr ⟨(List.Mem.tail _ (List.Mem.head _)), (List.forall_mem_cons.mpr ⟨(List.Mem.head _), (fun _ h => by cases h)⟩)⟩)⟩) ?_
    exact lp7 ((1500 - 0 : Int).toNat + 1)  (v4) (0) I3a A3a B3a C3a M2 hR3a ⟨by omega, by omega⟩ ⟨by omega, by omega⟩ (show c_fi c_ps I I3a by exact f8) (show c_fa c_pa A A3a by exact f9) (show (0 ≤ (I3a 2436) ∧ (I3a 2436) ≤ (I3a 773) ∧ ((I3a 2437) = 0 ∨ (I3a 2436) < (I3a 773))) ∧ ((I3a 773) = (I 773) ∧ (I3a 2439) = (I 2439) ∧ 0 ≤ (I3a 2117)) ∧ (I 2436) + 1 ≤ (I3a 2436) ∧ (I3a 1670) + 1 ≤ (I 1670) + 2 * ((I3a 2436) - (I 2436)) ∧ (I 1670) ≤ (I3a 1670) by (repeat' apply And.intro) <;> first | assumption | omega) (show c_agl A A3a (I 1670) by exact g27) (show c_On A3a (c_r (I 2439) 1) v4 (I 1670) (I3a 1670) by exact k28) (show 0 ≤ (0 : Int) ∧ (0 : Int) ≤ 1500 by omega) (show 1500 - 0 < (((1500 - 0 : Int).toNat + 1 : Nat) : Int) by omega)
  · rw [e14]
    replace hR3b : w_Rep w_TC fr X (u + 6) (l + 64) I3b A3b B3b C3b M2 := hR3b
    replace f15 : c_fi c_ps I I3b := f15
    replace f16 : c_fa c_pa A A3b := f16
    replace f17 : M2.1[t13]? = some (.inr (11, [])) := f17
    exact Or.inr (⟨t13, I3b, A3b, B3b, C3b, rfl, hR3b, (show c_fi c_ps I I3b by exact f15), (show c_fa c_pa A A3b by exact f16), (show M2.1[t13]? = some (.inr (11, [])) by exact f17)⟩)
