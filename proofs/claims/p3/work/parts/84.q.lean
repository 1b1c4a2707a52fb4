/-! PARSER of the class: items. -/
def c_oneItem_Q (fr : Nat → Bool) (X : Nat → Option (q_C (Nat → Int32))) (u l : Nat) (I : Nat → Int) (A : Nat → Int → Int) (B C : Nat → Nat) (M : w_M) : w_X → w_M → Prop := fun r M' => (∃ v : Int, ∃ (I' : Nat → Int) (A' : Nat → Int → Int) (B' C' : Nat → Nat), (r = .inl (some v)) ∧ (w_in v) ∧ (w_Rep w_TC fr X u l I' A' B' C' M') ∧ (c_fi c_ps I I') ∧ (c_fa c_pa A A') ∧ ((0 ≤ (I' 2436) ∧ (I' 2436) ≤ (I' 773) ∧ ((I' 2437) = 0 ∨ (I' 2436) < (I' 773))) ∧ ((I' 773) = (I 773) ∧ (I' 2439) = (I 2439) ∧ 0 ≤ (I' 2117)) ∧ (I 2436) + 1 ≤ (I' 2436) ∧ (I' 1670) + 1 ≤ (I 1670) + 2 * ((I' 2436) - (I 2436)) ∧ (I 1670) ≤ (I' 1670)) ∧ (c_agl A A' (I 1670)) ∧ (c_Wn A' (c_r (I 2439) 4) v (I 1670) (I' 1670))) ∨ (∃ t : Nat, ∃ (I' : Nat → Int) (A' : Nat → Int → Int) (B' C' : Nat → Nat), (r = .inr t) ∧ (w_Rep w_TC fr X (u + 6) (l + 64) I' A' B' C' M') ∧ (c_fi c_ps I I') ∧ (c_fa c_pa A A') ∧ (M'.1[t]? = some (.inr (11, []))))
set_option maxHeartbeats 100000000 in
set_option maxRecDepth 100000 in
theorem c_oneItem {L : Nat} {xs : Nat → Int32} {d : Nat} {fr : Nat → Bool} {X : Nat → Option (q_C (Nat → Int32))} {u l : Nat} {I : Nat → Int} {A : Nat → Int → Int} {B C : Nat → Nat} {M : w_M} (hA : c_ALL L xs d) (hR : w_Rep w_TC fr X u l I A B C M) (hd : 10 * (24 - (I 2439)) + 14 ≤ (d : Int)) (hl : l ≤ 7000000) (hNU : (0 ≤ (I 2436) ∧ (I 2436) ≤ (I 773) ∧ (I 773) ≤ 1501 ∧ ((I 2437) = 0 ∨ (I 2436) < (I 773))) ∧ (0 ≤ (I 2439) ∧ (I 2439) ≤ 24 ∧ 0 ≤ (I 2117)) ∧ 0 ≤ (I 1670) ∧ (I 1670) ≤ 2 * (I 2436) + 1) : w_W (z_P L xs) d 133 (0, [(0, .ref 38)], [], M) (c_oneItem_Q fr X u l I A B C M) := by
  obtain ⟨d, rfl⟩ : ∃ d0, d = d0 + 1 := ⟨d - 1, by omega⟩
  refine w_adv (n := 1) (F' := (1, [(0, .ref 38)], [.ref 38], M)) rfl ?_
  refine w_gf (v := .int (Int32.ofInt ((I 2437)))) hR rfl rfl rfl rfl ?_
  obtain ⟨r1, r2⟩ : -2147483648 ≤ (I 2437) ∧ (I 2437) ≤ 2147483647 := hR.ri 2437
  have jn165 : w_W (z_P L xs) (d + 1) 133 (165, [(0, .ref 38)], [], M) (c_oneItem_Q fr X u l I A B C M) := by
    skip
    refine w_adv (n := 1) (F' := (166, [(0, .ref 38)], [.ref 38], M)) rfl ?_
    refine w_gf (v := .int (Int32.ofInt ((I 2437)))) hR rfl rfl rfl rfl ?_
    refine w_adv (n := 1) (F' := (171, [(0, .ref 38)], [.int (Int32.ofInt (7)), .int (Int32.ofInt ((I 2437)))], M)) rfl ?_
    refine w_br2 (a := (I 2437)) (b := 7) rfl rfl ⟨by omega, by omega⟩ ⟨by omega, by omega⟩ (fun h3 => ?_) (fun h3 => ?_)
    · have h3 : ¬ (I 2437) = 7 := h3
      show w_W _ _ _ (178, [(0, .ref 38)], [], M) _
      refine w_adv (n := 3) (F' := (181, [(1, .int (Int32.ofInt (0))), (0, .ref 38)], [.ref 38], M)) rfl ?_
      refine w_call (cm := 89) (as := [(0, .ref 38)]) (rest := []) (o := some (4, 38)) rfl (w_fitR hR rfl) ((hA d (Nat.lt_succ_self d)).1 hR (show 10 * (24 - (I 2439)) + 13 ≤ (d : Int) by omega) (show l ≤ 7000000 by first | assumption | omega) (show (0 ≤ (I 2436) ∧ (I 2436) ≤ (I 773) ∧ (I 773) ≤ 1501 ∧ ((I 2437) = 0 ∨ (I 2436) < (I 773))) ∧ (0 ≤ (I 2439) ∧ (I 2439) ≤ 24 ∧ 0 ≤ (I 2117)) ∧ 0 ≤ (I 1670) ∧ (I 1670) ≤ 2 * (I 2436) + 1 by (repeat' apply And.intro) <;> first | assumption | omega)) (fun r4 M5 q6 => ?_)
      rcases q6 with ⟨v7, I6a, A6a, B6a, C6a, e8, ⟨r9, r10⟩, hR6a, f11, f12, f13, f14, f15⟩ | ⟨t16, I6b, A6b, B6b, C6b, e17, hR6b, f18, f19, f20⟩
      · rw [e8]
        replace hR6a : w_Rep w_TC fr X u l I6a A6a B6a C6a M5 := hR6a
        replace f11 : c_fi c_ps I I6a := f11
        replace f12 : c_fa c_pa A A6a := f12
        replace f13 : (0 ≤ (I6a 2436) ∧ (I6a 2436) ≤ (I6a 773) ∧ ((I6a 2437) = 0 ∨ (I6a 2436) < (I6a 773))) ∧ ((I6a 773) = (I 773) ∧ (I6a 2439) = (I 2439) ∧ 0 ≤ (I6a 2117)) ∧ (I 2436) + 1 ≤ (I6a 2436) ∧ (I6a 1670) + 1 ≤ (I 1670) + 2 * ((I6a 2436) - (I 2436)) ∧ (I 1670) ≤ (I6a 1670) := f13
        obtain ⟨⟨n21, n22, n23⟩, ⟨n24, n25, n26⟩, n27, n28, n29⟩ := id f13
        clear f13
        replace f14 : c_agl A A6a (I 1670) := f14
        replace f15 : c_Wn A6a (c_r (I 2439) 3) v7 (I 1670) (I6a 1670) := f15
        have g30 : c_agl A A6a (I 1670) := c_agl_trans c_agl_refl f14 (show (I 1670) ≤ (I 1670) by omega)
        have k31 : c_Wn A6a (c_r (I 2439) 3) v7 (I 1670) (I6a 1670) := c_Wn_up f15 (show c_r (I 2439) 3 ≤ c_r (I 2439) 3 by unfold c_r; omega)
        obtain ⟨b32, b33⟩ := c_W_in k31.1
        show w_W _ _ _ (184, [(1, .int (Int32.ofInt (0))), (0, .ref 38)], [.int (Int32.ofInt (v7))], M5) _
        refine w_adv (n := 2) (F' := (186, [(2, .int (Int32.ofInt (v7))), (1, .int (Int32.ofInt (0))), (0, .ref 38)], [.ref 38], M5)) rfl ?_
        refine w_gf (v := .int (Int32.ofInt ((I6a 2437)))) hR6a rfl rfl rfl rfl ?_
        obtain ⟨r34, r35⟩ : -2147483648 ≤ (I6a 2437) ∧ (I6a 2437) ≤ 2147483647 := hR6a.ri 2437
        refine w_adv (n := 1) (F' := (191, [(2, .int (Int32.ofInt (v7))), (1, .int (Int32.ofInt (0))), (0, .ref 38)], [.int (Int32.ofInt (12)), .int (Int32.ofInt ((I6a 2437)))], M5)) rfl ?_
        refine w_br2 (a := (I6a 2437)) (b := 12) rfl rfl ⟨by omega, by omega⟩ ⟨by omega, by omega⟩ (fun h36 => ?_) (fun h36 => ?_)
        · have h36 : ¬ (I6a 2437) = 12 := h36
          show w_W _ _ _ (214, [(2, .int (Int32.ofInt (v7))), (1, .int (Int32.ofInt (0))), (0, .ref 38)], [], M5) _
          refine w_adv (n := 4) (F' := (237, [(2, .int (Int32.ofInt (v7))), (1, .int (Int32.ofInt (0))), (0, .ref 38)], [.int (Int32.ofInt (1)), .ref 38], M5)) rfl ?_
          refine w_call (cm := 100) (as := [(0, .ref 38), (1, .int (Int32.ofInt (1)))]) (rest := []) (o := some (4, 38)) rfl (w_fitR hR6a rfl) (c_fail (1) hR6a ⟨by omega, by omega⟩ (show l ≤ 7000000 by first | assumption | omega) (show 1 ≤ 1 ∧ 1 ≤ 7 by first | assumption | omega)) (fun r37 M38 q39 => ?_)
          rcases q39 with ⟨t40, I39a, A39a, B39a, C39a, e41, hR39a, f42, f43, f44⟩
          rw [e41]
          replace hR39a : w_Rep w_TC fr X (u + 6) (l + 64) I39a A39a B39a C39a M38 := hR39a
          replace f42 : c_fi c_ps I6a I39a := f42
          replace f43 : c_fa c_pa A6a A39a := f43
          replace f44 : M38.1[t40]? = some (.inr (11, [])) := f44
          exact Or.inr (⟨t40, I39a, A39a, B39a, C39a, rfl, hR39a, (show c_fi c_ps I I39a by exact (c_fi_trans f11 f42)), (show c_fa c_pa A A39a by exact (c_fa_trans f12 f43)), (show M38.1[t40]? = some (.inr (11, [])) by exact f44)⟩)
        · have h36 : ¬ (¬ (I6a 2437) = 12) := h36
          show w_W _ _ _ (194, [(2, .int (Int32.ofInt (v7))), (1, .int (Int32.ofInt (0))), (0, .ref 38)], [], M5) _
          refine w_adv (n := 1) (F' := (195, [(2, .int (Int32.ofInt (v7))), (1, .int (Int32.ofInt (0))), (0, .ref 38)], [.ref 38], M5)) rfl ?_
          refine w_call (cm := 80) (as := [(0, .ref 38)]) (rest := []) (o := some (4, 38)) rfl (w_fitR hR6a rfl) (c_advance hR6a (show 3 ≤ d by omega) (show l ≤ 7000000 by first | assumption | omega) (show -1 ≤ (I6a 2436) ∧ (I6a 2436) < (I6a 773) ∧ (I6a 773) ≤ 1501 by first | assumption | omega)) (fun r45 M46 q47 => ?_)
          rcases q47 with ⟨zt48, zk49, zv50, e51, hR47a, f52⟩ | ⟨t53, I47b, A47b, B47b, C47b, e54, hR47b, f55, f56, f57⟩
          · rw [e51]
            replace hR47a : w_Rep w_TC fr X u l (w_up (w_up (w_up (w_up I6a 2436 ((I6a 2436) + 1)) 2441 (zt48)) 2437 (zk49)) 2438 (zv50)) A6a B6a C6a M46 := hR47a
            replace f52 : ((I6a 2436) + 1 < (I6a 773) ∨ zk49 = 0) := f52
            show w_W _ _ _ (198, [(2, .int (Int32.ofInt (v7))), (1, .int (Int32.ofInt (0))), (0, .ref 38)], [], M46) _
            refine w_adv (n := 1) (F' := (199, [(2, .int (Int32.ofInt (v7))), (1, .int (Int32.ofInt (0))), (0, .ref 38)], [.ref 38], M46)) rfl ?_
            refine w_gf (v := .ref 26) hR47a rfl rfl rfl rfl ?_
            refine w_adv (n := 3) (F' := (206, [(2, .int (Int32.ofInt (v7))), (1, .int (Int32.ofInt (0))), (0, .ref 38)], [.ref 38, .int (Int32.ofInt (v7)), .int (Int32.ofInt (23)), .ref 26], M46)) rfl ?_
            refine w_call (cm := 89) (as := [(0, .ref 38)]) (rest := [.int (Int32.ofInt (v7)), .int (Int32.ofInt (23)), .ref 26]) (o := some (4, 38)) rfl (w_fitR hR47a rfl) ((hA d (Nat.lt_succ_self d)).1 hR47a (show 10 * (24 - (I6a 2439)) + 13 ≤ (d : Int) by omega) (show l ≤ 7000000 by first | assumption | omega) (show (0 ≤ (I6a 2436) + 1 ∧ (I6a 2436) + 1 ≤ (I6a 773) ∧ (I6a 773) ≤ 1501 ∧ (zk49 = 0 ∨ (I6a 2436) + 1 < (I6a 773))) ∧ (0 ≤ (I6a 2439) ∧ (I6a 2439) ≤ 24 ∧ 0 ≤ (I6a 2117)) ∧ 0 ≤ (I6a 1670) ∧ (I6a 1670) ≤ 2 * ((I6a 2436) + 1) + 1 by (repeat' apply And.intro) <;> first | assumption | omega)) (fun r58 M59 q60 => ?_)
            rcases q60 with ⟨v61, I60a, A60a, B60a, C60a, e62, ⟨r63, r64⟩, hR60a, f65, f66, f67, f68, f69⟩ | ⟨t70, I60b, A60b, B60b, C60b, e71, hR60b, f72, f73, f74⟩
            · rw [e62]
              replace hR60a : w_Rep w_TC fr X u l I60a A60a B60a C60a M59 := hR60a
              replace f65 : c_fi c_ps (w_up (w_up (w_up (w_up I6a 2436 ((I6a 2436) + 1)) 2441 (zt48)) 2437 (zk49)) 2438 (zv50)) I60a := f65
              replace f66 : c_fa c_pa A6a A60a := f66
              replace f67 : (0 ≤ (I60a 2436) ∧ (I60a 2436) ≤ (I60a 773) ∧ ((I60a 2437) = 0 ∨ (I60a 2436) < (I60a 773))) ∧ ((I60a 773) = (I6a 773) ∧ (I60a 2439) = (I6a 2439) ∧ 0 ≤ (I60a 2117)) ∧ ((I6a 2436) + 1) + 1 ≤ (I60a 2436) ∧ (I60a 1670) + 1 ≤ (I6a 1670) + 2 * ((I60a 2436) - ((I6a 2436) + 1)) ∧ (I6a 1670) ≤ (I60a 1670) := f67
              obtain ⟨⟨n75, n76, n77⟩, ⟨n78, n79, n80⟩, n81, n82, n83⟩ := id f67
              clear f67
              replace f68 : c_agl A6a A60a (I6a 1670) := f68
              replace f69 : c_Wn A60a (c_r (I6a 2439) 3) v61 (I6a 1670) (I60a 1670) := f69
              have k84 : c_Wn A60a (c_r (I 2439) 3) v7 (I 1670) (I6a 1670) := c_Wn_agl k31 f68 (show 0 ≤ (I 1670) by omega) (show (I6a 1670) ≤ (I6a 1670) by omega)
              clear k31
              have g85 : c_agl A A60a (I 1670) := c_agl_trans g30 f68 (show (I 1670) ≤ (I6a 1670) by omega)
              have k86 : c_Wn A60a (c_r (I 2439) 3) v61 (I6a 1670) (I60a 1670) := c_Wn_up f69 (show c_r (I6a 2439) 3 ≤ c_r (I 2439) 3 by unfold c_r; omega)
              obtain ⟨b87, b88⟩ := c_W_in k86.1
              show w_W _ _ _ (209, [(2, .int (Int32.ofInt (v7))), (1, .int (Int32.ofInt (0))), (0, .ref 38)], [.int (Int32.ofInt (v61)), .int (Int32.ofInt (v7)), .int (Int32.ofInt (23)), .ref 26], M59) _
              refine w_adv (n := 1) (F' := (210, [(2, .int (Int32.ofInt (v7))), (1, .int (Int32.ofInt (0))), (0, .ref 38)], [.int (Int32.ofInt ((-1))), .int (Int32.ofInt (v61)), .int (Int32.ofInt (v7)), .int (Int32.ofInt (23)), .ref 26], M59)) rfl ?_
              refine w_call (cm := 94) (as := [(0, .ref 26), (1, .int (Int32.ofInt (23))), (2, .int (Int32.ofInt (v7))), (3, .int (Int32.ofInt (v61))), (4, .int (Int32.ofInt ((-1))))]) (rest := []) (o := some (8, 26)) rfl (w_fitR hR60a rfl) (c_mkn (23) (v7) (v61) ((-1)) hR60a (show 2 ≤ d by omega) ⟨by omega, by omega⟩ ⟨by omega, by omega⟩ ⟨by omega, by omega⟩ ⟨by omega, by omega⟩ (show 0 ≤ (I60a 1670) ∧ (I60a 1670) < 3016 by first | assumption | omega)) (fun r89 M90 q91 => ?_)
              rcases q91 with ⟨A92, e93, hR91a, f94, f95⟩
              rw [e93]
              replace hR91a : w_Rep w_TC fr X u l (w_up I60a 1670 ((I60a 1670) + 1)) A92 B60a C60a M90 := hR91a
              replace f94 : c_fa c_pa A60a A92 := f94
              replace f95 : c_mk A60a A92 (I60a 1670) 23 v7 v61 (-1) := f95
              have k96 : c_Wn A92 (c_r (I 2439) 4) (I60a 1670) (I 1670) ((I60a 1670) + 1) := c_Wn_up ⟨c_W_23 f95 (show 0 ≤ (I 1670) by omega) k84.1 (c_Wn_win k86 (show (I6a 1670) ≤ (I6a 1670) by omega) (show (I60a 1670) ≤ (I60a 1670) by omega)).1, f95.2.2.2.2.2⟩ (show (c_r (I 2439) 3) + 1 ≤ (c_r (I 2439) 4) by unfold c_r; omega)
              have g97 : c_agl A A92 (I 1670) := c_agl_trans g85 f95.1 (show (I 1670) ≤ (I60a 1670) by omega)
              show w_W _ _ _ (213, [(2, .int (Int32.ofInt (v7))), (1, .int (Int32.ofInt (0))), (0, .ref 38)], [.int (Int32.ofInt ((I60a 1670)))], M90) _
              refine w_fin (r := .inl (some ((I60a 1670)))) (M' := M90) rfl ?_
              exact Or.inl ⟨(I60a 1670), (w_up I60a 1670 ((I60a 1670) + 1)), A92, B60a, C60a, rfl, ⟨by omega, by omega⟩, hR91a, (show c_fi c_ps I (w_up I60a 1670 ((I60a 1670) + 1)) by exact (c_fi_up (c_fi_trans (c_fi_up (c_fi_up (c_fi_up (c_fi_up f11 rfl) rfl) rfl) rfl) f65) rfl)), (show c_fa c_pa A A92 by exact (c_fa_trans (c_fa_trans f12 f66) f94)), (show (0 ≤ (I60a 2436) ∧ (I60a 2436) ≤ (I60a 773) ∧ ((I60a 2437) = 0 ∨ (I60a 2436) < (I60a 773))) ∧ ((I60a 773) = (I 773) ∧ (I60a 2439) = (I 2439) ∧ 0 ≤ (I60a 2117)) ∧ (I 2436) + 1 ≤ (I60a 2436) ∧ ((I60a 1670) + 1) + 1 ≤ (I 1670) + 2 * ((I60a 2436) - (I 2436)) ∧ (I 1670) ≤ (I60a 1670) + 1 by (repeat' apply And.intro) <;> first | assumption | omega), (show c_agl A A92 (I 1670) by exact g97), (show c_Wn A92 (c_r (I 2439) 4) (I60a 1670) (I 1670) ((I60a 1670) + 1) by exact c_Wn_win (c_Wn_up k96 (show c_r (I 2439) 4 ≤ c_r (I 2439) 4 by unfold c_r; omega)) (show (I 1670) ≤ (I 1670) by omega) (show ((I60a 1670) + 1) ≤ ((I60a 1670) + 1) by omega))⟩
            · rw [e71]
              replace hR60b : w_Rep w_TC fr X (u + 6) (l + 64) I60b A60b B60b C60b M59 := hR60b
              replace f72 : c_fi c_ps (w_up (w_up (w_up (w_up I6a 2436 ((I6a 2436) + 1)) 2441 (zt48)) 2437 (zk49)) 2438 (zv50)) I60b := f72
              replace f73 : c_fa c_pa A6a A60b := f73
              replace f74 : M59.1[t70]? = some (.inr (11, [])) := f74
              exact Or.inr (⟨t70, I60b, A60b, B60b, C60b, rfl, hR60b, (show c_fi c_ps I I60b by exact (c_fi_trans (c_fi_up (c_fi_up (c_fi_up (c_fi_up f11 rfl) rfl) rfl) rfl) f72)), (show c_fa c_pa A A60b by exact (c_fa_trans f12 f73)), (show M59.1[t70]? = some (.inr (11, [])) by exact f74)⟩)
          · rw [e54]
            replace hR47b : w_Rep w_TC fr X (u + 6) (l + 64) I47b A47b B47b C47b M46 := hR47b
            replace f55 : c_fi c_ps I6a I47b := f55
            replace f56 : c_fa c_pa A6a A47b := f56
            replace f57 : M46.1[t53]? = some (.inr (11, [])) := f57
            exact Or.inr (⟨t53, I47b, A47b, B47b, C47b, rfl, hR47b, (show c_fi c_ps I I47b by exact (c_fi_trans f11 f55)), (show c_fa c_pa A A47b by exact (c_fa_trans f12 f56)), (show M46.1[t53]? = some (.inr (11, [])) by exact f57)⟩)
      · rw [e17]
        replace hR6b : w_Rep w_TC fr X (u + 6) (l + 64) I6b A6b B6b C6b M5 := hR6b
        replace f18 : c_fi c_ps I I6b := f18
        replace f19 : c_fa c_pa A A6b := f19
        replace f20 : M5.1[t16]? = some (.inr (11, [])) := f20
        exact Or.inr (⟨t16, I6b, A6b, B6b, C6b, rfl, hR6b, (show c_fi c_ps I I6b by exact f18), (show c_fa c_pa A A6b by exact f19), (show M5.1[t16]? = some (.inr (11, [])) by exact f20)⟩)
    · have h3 : ¬ (¬ (I 2437) = 7) := h3
      show w_W _ _ _ (174, [(0, .ref 38)], [], M) _
      refine w_adv (n := 4) (F' := (181, [(1, .int (Int32.ofInt (1))), (0, .ref 38)], [.ref 38], M)) rfl ?_
      refine w_call (cm := 89) (as := [(0, .ref 38)]) (rest := []) (o := some (4, 38)) rfl (w_fitR hR rfl) ((hA d (Nat.lt_succ_self d)).1 hR (show 10 * (24 - (I 2439)) + 13 ≤ (d : Int) by omega) (show l ≤ 7000000 by first | assumption | omega) (show (0 ≤ (I 2436) ∧ (I 2436) ≤ (I 773) ∧ (I 773) ≤ 1501 ∧ ((I 2437) = 0 ∨ (I 2436) < (I 773))) ∧ (0 ≤ (I 2439) ∧ (I 2439) ≤ 24 ∧ 0 ≤ (I 2117)) ∧ 0 ≤ (I 1670) ∧ (I 1670) ≤ 2 * (I 2436) + 1 by (repeat' apply And.intro) <;> first | assumption | omega)) (fun r98 M99 q100 => ?_)
      rcases q100 with ⟨v101, I100a, A100a, B100a, C100a, e102, ⟨r103, r104⟩, hR100a, f105, f106, f107, f108, f109⟩ | ⟨t110, I100b, A100b, B100b, C100b, e111, hR100b, f112, f113, f114⟩
      · rw [e102]
        replace hR100a : w_Rep w_TC fr X u l I100a A100a B100a C100a M99 := hR100a
        replace f105 : c_fi c_ps I I100a := f105
        replace f106 : c_fa c_pa A A100a := f106
        replace f107 : (0 ≤ (I100a 2436) ∧ (I100a 2436) ≤ (I100a 773) ∧ ((I100a 2437) = 0 ∨ (I100a 2436) < (I100a 773))) ∧ ((I100a 773) = (I 773) ∧ (I100a 2439) = (I 2439) ∧ 0 ≤ (I100a 2117)) ∧ (I 2436) + 1 ≤ (I100a 2436) ∧ (I100a 1670) + 1 ≤ (I 1670) + 2 * ((I100a 2436) - (I 2436)) ∧ (I 1670) ≤ (I100a 1670) := f107
        obtain ⟨⟨n115, n116, n117⟩, ⟨n118, n119, n120⟩, n121, n122, n123⟩ := id f107
        clear f107
        replace f108 : c_agl A A100a (I 1670) := f108
        replace f109 : c_Wn A100a (c_r (I 2439) 3) v101 (I 1670) (I100a 1670) := f109
        have g124 : c_agl A A100a (I 1670) := c_agl_trans c_agl_refl f108 (show (I 1670) ≤ (I 1670) by omega)
        have k125 : c_Wn A100a (c_r (I 2439) 3) v101 (I 1670) (I100a 1670) := c_Wn_up f109 (show c_r (I 2439) 3 ≤ c_r (I 2439) 3 by unfold c_r; omega)
        obtain ⟨b126, b127⟩ := c_W_in k125.1
        show w_W _ _ _ (184, [(1, .int (Int32.ofInt (1))), (0, .ref 38)], [.int (Int32.ofInt (v101))], M99) _
        refine w_adv (n := 2) (F' := (186, [(2, .int (Int32.ofInt (v101))), (1, .int (Int32.ofInt (1))), (0, .ref 38)], [.ref 38], M99)) rfl ?_
        refine w_gf (v := .int (Int32.ofInt ((I100a 2437)))) hR100a rfl rfl rfl rfl ?_
        obtain ⟨r128, r129⟩ : -2147483648 ≤ (I100a 2437) ∧ (I100a 2437) ≤ 2147483647 := hR100a.ri 2437
        refine w_adv (n := 1) (F' := (191, [(2, .int (Int32.ofInt (v101))), (1, .int (Int32.ofInt (1))), (0, .ref 38)], [.int (Int32.ofInt (12)), .int (Int32.ofInt ((I100a 2437)))], M99)) rfl ?_
        refine w_br2 (a := (I100a 2437)) (b := 12) rfl rfl ⟨by omega, by omega⟩ ⟨by omega, by omega⟩ (fun h130 => ?_) (fun h130 => ?_)
        · have h130 : ¬ (I100a 2437) = 12 := h130
          show w_W _ _ _ (214, [(2, .int (Int32.ofInt (v101))), (1, .int (Int32.ofInt (1))), (0, .ref 38)], [], M99) _
          refine w_adv (n := 3) (F' := (219, [(2, .int (Int32.ofInt (v101))), (1, .int (Int32.ofInt (1))), (0, .ref 38)], [.ref 38], M99)) rfl ?_
          refine w_gf (v := .ref 26) hR100a rfl rfl rfl rfl ?_
          refine w_adv (n := 1) (F' := (223, [(2, .int (Int32.ofInt (v101))), (1, .int (Int32.ofInt (1))), (0, .ref 38)], [.int (Int32.ofInt (v101)), .ref 26], M99)) rfl ?_
          refine w_call (cm := 135) (as := [(0, .ref 26), (1, .int (Int32.ofInt (v101)))]) (rest := []) (o := some (8, 26)) rfl (w_fitR hR100a rfl) (c_Tree_kind (v101) hR100a (show 2 ≤ d by omega) ⟨by omega, by omega⟩) (fun r131 M132 q133 => ?_)
          rcases q133 with ⟨v134, e135, ⟨r136, r137⟩, e138⟩
          rw [e135, e138]
          show w_W _ _ _ (226, [(2, .int (Int32.ofInt (v101))), (1, .int (Int32.ofInt (1))), (0, .ref 38)], [.int (Int32.ofInt (v134))], M99) _
          refine w_adv (n := 1) (F' := (228, [(2, .int (Int32.ofInt (v101))), (1, .int (Int32.ofInt (1))), (0, .ref 38)], [.int (Int32.ofInt (10)), .int (Int32.ofInt (v134))], M99)) rfl ?_
          refine w_br2 (a := v134) (b := 10) rfl rfl ⟨by omega, by omega⟩ ⟨by omega, by omega⟩ (fun h139 => ?_) (fun h139 => ?_)
          · have h139 : ¬ v134 = 10 := h139
            show w_W _ _ _ (235, [(2, .int (Int32.ofInt (v101))), (1, .int (Int32.ofInt (1))), (0, .ref 38)], [], M99) _
            refine w_adv (n := 2) (F' := (237, [(2, .int (Int32.ofInt (v101))), (1, .int (Int32.ofInt (1))), (0, .ref 38)], [.int (Int32.ofInt (1)), .ref 38], M99)) rfl ?_
            refine w_call (cm := 100) (as := [(0, .ref 38), (1, .int (Int32.ofInt (1)))]) (rest := []) (o := some (4, 38)) rfl (w_fitR hR100a rfl) (c_fail (1) hR100a ⟨by omega, by omega⟩ (show l ≤ 7000000 by first | assumption | omega) (show 1 ≤ 1 ∧ 1 ≤ 7 by first | assumption | omega)) (fun r140 M141 q142 => ?_)
            rcases q142 with ⟨t143, I142a, A142a, B142a, C142a, e144, hR142a, f145, f146, f147⟩
            rw [e144]
            replace hR142a : w_Rep w_TC fr X (u + 6) (l + 64) I142a A142a B142a C142a M141 := hR142a
            replace f145 : c_fi c_ps I100a I142a := f145
            replace f146 : c_fa c_pa A100a A142a := f146
            replace f147 : M141.1[t143]? = some (.inr (11, [])) := f147
            exact Or.inr (⟨t143, I142a, A142a, B142a, C142a, rfl, hR142a, (show c_fi c_ps I I142a by exact (c_fi_trans f105 f145)), (show c_fa c_pa A A142a by exact (c_fa_trans f106 f146)), (show M141.1[t143]? = some (.inr (11, [])) by exact f147)⟩)
          · have h139 : ¬ (¬ v134 = 10) := h139
            show w_W _ _ _ (231, [(2, .int (Int32.ofInt (v101))), (1, .int (Int32.ofInt (1))), (0, .ref 38)], [], M99) _
            refine w_adv (n := 2) (F' := (240, [(2, .int (Int32.ofInt (v101))), (1, .int (Int32.ofInt (1))), (0, .ref 38)], [.int (Int32.ofInt (v101))], M99)) rfl ?_
            refine w_fin (r := .inl (some (v101))) (M' := M99) rfl ?_
            exact Or.inl ⟨v101, I100a, A100a, B100a, C100a, rfl, ⟨by omega, by omega⟩, hR100a, (show c_fi c_ps I I100a by exact f105), (show c_fa c_pa A A100a by exact f106), (show (0 ≤ (I100a 2436) ∧ (I100a 2436) ≤ (I100a 773) ∧ ((I100a 2437) = 0 ∨ (I100a 2436) < (I100a 773))) ∧ ((I100a 773) = (I 773) ∧ (I100a 2439) = (I 2439) ∧ 0 ≤ (I100a 2117)) ∧ (I 2436) + 1 ≤ (I100a 2436) ∧ (I100a 1670) + 1 ≤ (I 1670) + 2 * ((I100a 2436) - (I 2436)) ∧ (I 1670) ≤ (I100a 1670) by (repeat' apply And.intro) <;> first | assumption | omega), (show c_agl A A100a (I 1670) by exact g124), (show c_Wn A100a (c_r (I 2439) 4) v101 (I 1670) (I100a 1670) by exact c_Wn_win (c_Wn_up k125 (show c_r (I 2439) 3 ≤ c_r (I 2439) 4 by unfold c_r; omega)) (show (I 1670) ≤ (I 1670) by omega) (show (I100a 1670) ≤ (I100a 1670) by omega))⟩
        · have h130 : ¬ (¬ (I100a 2437) = 12) := h130
          show w_W _ _ _ (194, [(2, .int (Int32.ofInt (v101))), (1, .int (Int32.ofInt (1))), (0, .ref 38)], [], M99) _
          refine w_adv (n := 1) (F' := (195, [(2, .int (Int32.ofInt (v101))), (1, .int (Int32.ofInt (1))), (0, .ref 38)], [.ref 38], M99)) rfl ?_
          refine w_call (cm := 80) (as := [(0, .ref 38)]) (rest := []) (o := some (4, 38)) rfl (w_fitR hR100a rfl) (c_advance hR100a (show 3 ≤ d by omega) (show l ≤ 7000000 by first | assumption | omega) (show -1 ≤ (I100a 2436) ∧ (I100a 2436) < (I100a 773) ∧ (I100a 773) ≤ 1501 by first | assumption | omega)) (fun r148 M149 q150 => ?_)
          rcases q150 with ⟨zt151, zk152, zv153, e154, hR150a, f155⟩ | ⟨t156, I150b, A150b, B150b, C150b, e157, hR150b, f158, f159, f160⟩
          · rw [e154]
            replace hR150a : w_Rep w_TC fr X u l (w_up (w_up (w_up (w_up I100a 2436 ((I100a 2436) + 1)) 2441 (zt151)) 2437 (zk152)) 2438 (zv153)) A100a B100a C100a M149 := hR150a
            replace f155 : ((I100a 2436) + 1 < (I100a 773) ∨ zk152 = 0) := f155
            show w_W _ _ _ (198, [(2, .int (Int32.ofInt (v101))), (1, .int (Int32.ofInt (1))), (0, .ref 38)], [], M149) _
            refine w_adv (n := 1) (F' := (199, [(2, .int (Int32.ofInt (v101))), (1, .int (Int32.ofInt (1))), (0, .ref 38)], [.ref 38], M149)) rfl ?_
            refine w_gf (v := .ref 26) hR150a rfl rfl rfl rfl ?_
            refine w_adv (n := 3) (F' := (206, [(2, .int (Int32.ofInt (v101))), (1, .int (Int32.ofInt (1))), (0, .ref 38)], [.ref 38, .int (Int32.ofInt (v101)), .int (Int32.ofInt (23)), .ref 26], M149)) rfl ?_
            refine w_call (cm := 89) (as := [(0, .ref 38)]) (rest := [.int (Int32.ofInt (v101)), .int (Int32.ofInt (23)), .ref 26]) (o := some (4, 38)) rfl (w_fitR hR150a rfl) ((hA d (Nat.lt_succ_self d)).1 hR150a (show 10 * (24 - (I100a 2439)) + 13 ≤ (d : Int) by omega) (show l ≤ 7000000 by first | assumption | omega) (show (0 ≤ (I100a 2436) + 1 ∧ (I100a 2436) + 1 ≤ (I100a 773) ∧ (I100a 773) ≤ 1501 ∧ (zk152 = 0 ∨ (I100a 2436) + 1 < (I100a 773))) ∧ (0 ≤ (I100a 2439) ∧ (I100a 2439) ≤ 24 ∧ 0 ≤ (I100a 2117)) ∧ 0 ≤ (I100a 1670) ∧ (I100a 1670) ≤ 2 * ((I100a 2436) + 1) + 1 by (repeat' apply And.intro) <;> first | assumption | omega)) (fun r161 M162 q163 => ?_)
            rcases q163 with ⟨v164, I163a, A163a, B163a, C163a, e165, ⟨r166, r167⟩, hR163a, f168, f169, f170, f171, f172⟩ | ⟨t173, I163b, A163b, B163b, C163b, e174, hR163b, f175, f176, f177⟩
            · rw [e165]
              replace hR163a : w_Rep w_TC fr X u l I163a A163a B163a C163a M162 := hR163a
              replace f168 : c_fi c_ps (w_up (w_up (w_up (w_up I100a 2436 ((I100a 2436) + 1)) 2441 (zt151)) 2437 (zk152)) 2438 (zv153)) I163a := f168
              replace f169 : c_fa c_pa A100a A163a := f169
              replace f170 : (0 ≤ (I163a 2436) ∧ (I163a 2436) ≤ (I163a 773) ∧ ((I163a 2437) = 0 ∨ (I163a 2436) < (I163a 773))) ∧ ((I163a 773) = (I100a 773) ∧ (I163a 2439) = (I100a 2439) ∧ 0 ≤ (I163a 2117)) ∧ ((I100a 2436) + 1) + 1 ≤ (I163a 2436) ∧ (I163a 1670) + 1 ≤ (I100a 1670) + 2 * ((I163a 2436) - ((I100a 2436) + 1)) ∧ (I100a 1670) ≤ (I163a 1670) := f170
              obtain ⟨⟨n178, n179, n180⟩, ⟨n181, n182, n183⟩, n184, n185, n186⟩ := id f170
              clear f170
              replace f171 : c_agl A100a A163a (I100a 1670) := f171
              replace f172 : c_Wn A163a (c_r (I100a 2439) 3) v164 (I100a 1670) (I163a 1670) := f172
              have k187 : c_Wn A163a (c_r (I 2439) 3) v101 (I 1670) (I100a 1670) := c_Wn_agl k125 f171 (show 0 ≤ (I 1670) by omega) (show (I100a 1670) ≤ (I100a 1670) by omega)
              clear k125
              have g188 : c_agl A A163a (I 1670) := c_agl_trans g124 f171 (show (I 1670) ≤ (I100a 1670) by omega)
              have k189 : c_Wn A163a (c_r (I 2439) 3) v164 (I100a 1670) (I163a 1670) := c_Wn_up f172 (show c_r (I100a 2439) 3 ≤ c_r (I 2439) 3 by unfold c_r; omega)
              obtain ⟨b190, b191⟩ := c_W_in k189.1
              show w_W _ _ _ (209, [(2, .int (Int32.ofInt (v101))), (1, .int (Int32.ofInt (1))), (0, .ref 38)], [.int (Int32.ofInt (v164)), .int (Int32.ofInt (v101)), .int (Int32.ofInt (23)), .ref 26], M162) _
              refine w_adv (n := 1) (F' := (210, [(2, .int (Int32.ofInt (v101))), (1, .int (Int32.ofInt (1))), (0, .ref 38)], [.int (Int32.ofInt ((-1))), .int (Int32.ofInt (v164)), .int (Int32.ofInt (v101)), .int (Int32.ofInt (23)), .ref 26], M162)) rfl ?_
              refine w_call (cm := 94) (as := [(0, .ref 26), (1, .int (Int32.ofInt (23))), (2, .int (Int32.ofInt (v101))), (3, .int (Int32.ofInt (v164))), (4, .int (Int32.ofInt ((-1))))]) (rest := []) (o := some (8, 26)) rfl (w_fitR hR163a rfl) (c_mkn (23) (v101) (v164) ((-1)) hR163a (show 2 ≤ d by omega) ⟨by omega, by omega⟩ ⟨by omega, by omega⟩ ⟨by omega, by omega⟩ ⟨by omega, by omega⟩ (show 0 ≤ (I163a 1670) ∧ (I163a 1670) < 3016 by first | assumption | omega)) (fun r192 M193 q194 => ?_)
              rcases q194 with ⟨A195, e196, hR194a, f197, f198⟩
              rw [e196]
              replace hR194a : w_Rep w_TC fr X u l (w_up I163a 1670 ((I163a 1670) + 1)) A195 B163a C163a M193 := hR194a
              replace f197 : c_fa c_pa A163a A195 := f197
              replace f198 : c_mk A163a A195 (I163a 1670) 23 v101 v164 (-1) := f198
              have k199 : c_Wn A195 (c_r (I 2439) 4) (I163a 1670) (I 1670) ((I163a 1670) + 1) := c_Wn_up ⟨c_W_23 f198 (show 0 ≤ (I 1670) by omega) k187.1 (c_Wn_win k189 (show (I100a 1670) ≤ (I100a 1670) by omega) (show (I163a 1670) ≤ (I163a 1670) by omega)).1, f198.2.2.2.2.2⟩ (show (c_r (I 2439) 3) + 1 ≤ (c_r (I 2439) 4) by unfold c_r; omega)
              have g200 : c_agl A A195 (I 1670) := c_agl_trans g188 f198.1 (show (I 1670) ≤ (I163a 1670) by omega)
              show w_W _ _ _ (213, [(2, .int (Int32.ofInt (v101))), (1, .int (Int32.ofInt (1))), (0, .ref 38)], [.int (Int32.ofInt ((I163a 1670)))], M193) _
              refine w_fin (r := .inl (some ((I163a 1670)))) (M' := M193) rfl ?_
              exact Or.inl ⟨(I163a 1670), (w_up I163a 1670 ((I163a 1670) + 1)), A195, B163a, C163a, rfl, ⟨by omega, by omega⟩, hR194a, (show c_fi c_ps I (w_up I163a 1670 ((I163a 1670) + 1)) by exact (c_fi_up (c_fi_trans (c_fi_up (c_fi_up (c_fi_up (c_fi_up f105 rfl) rfl) rfl) rfl) f168) rfl)), (show c_fa c_pa A A195 by exact (c_fa_trans (c_fa_trans f106 f169) f197)), (show (0 ≤ (I163a 2436) ∧ (I163a 2436) ≤ (I163a 773) ∧ ((I163a 2437) = 0 ∨ (I163a 2436) < (I163a 773))) ∧ ((I163a 773) = (I 773) ∧ (I163a 2439) = (I 2439) ∧ 0 ≤ (I163a 2117)) ∧ (I 2436) + 1 ≤ (I163a 2436) ∧ ((I163a 1670) + 1) + 1 ≤ (I 1670) + 2 * ((I163a 2436) - (I 2436)) ∧ (I 1670) ≤ (I163a 1670) + 1 by (repeat' apply And.intro) <;> first | assumption | omega), (show c_agl A A195 (I 1670) by exact g200), (show c_Wn A195 (c_r (I 2439) 4) (I163a 1670) (I 1670) ((I163a 1670) + 1) by exact c_Wn_win (c_Wn_up k199 (show c_r (I 2439) 4 ≤ c_r (I 2439) 4 by unfold c_r; omega)) (show (I 1670) ≤ (I 1670) by omega) (show ((I163a 1670) + 1) ≤ ((I163a 1670) + 1) by omega))⟩
            · rw [e174]
              replace hR163b : w_Rep w_TC fr X (u + 6) (l + 64) I163b A163b B163b C163b M162 := hR163b
              replace f175 : c_fi c_ps (w_up (w_up (w_up (w_up I100a 2436 ((I100a 2436) + 1)) 2441 (zt151)) 2437 (zk152)) 2438 (zv153)) I163b := f175
              replace f176 : c_fa c_pa A100a A163b := f176
              replace f177 : M162.1[t173]? = some (.inr (11, [])) := f177
              exact Or.inr (⟨t173, I163b, A163b, B163b, C163b, rfl, hR163b, (show c_fi c_ps I I163b by exact (c_fi_trans (c_fi_up (c_fi_up (c_fi_up (c_fi_up f105 rfl) rfl) rfl) rfl) f175)), (show c_fa c_pa A A163b by exact (c_fa_trans f106 f176)), (show M162.1[t173]? = some (.inr (11, [])) by exact f177)⟩)
          · rw [e157]
            replace hR150b : w_Rep w_TC fr X (u + 6) (l + 64) I150b A150b B150b C150b M149 := hR150b
            replace f158 : c_fi c_ps I100a I150b := f158
            replace f159 : c_fa c_pa A100a A150b := f159
            replace f160 : M149.1[t156]? = some (.inr (11, [])) := f160
            exact Or.inr (⟨t156, I150b, A150b, B150b, C150b, rfl, hR150b, (show c_fi c_ps I I150b by exact (c_fi_trans f105 f158)), (show c_fa c_pa A A150b by exact (c_fa_trans f106 f159)), (show M149.1[t156]? = some (.inr (11, [])) by exact f160)⟩)
      · rw [e111]
        replace hR100b : w_Rep w_TC fr X (u + 6) (l + 64) I100b A100b B100b C100b M99 := hR100b
        replace f112 : c_fi c_ps I I100b := f112
        replace f113 : c_fa c_pa A A100b := f113
        replace f114 : M99.1[t110]? = some (.inr (11, [])) := f114
        exact Or.inr (⟨t110, I100b, A100b, B100b, C100b, rfl, hR100b, (show c_fi c_ps I I100b by exact f112), (show c_fa c_pa A A100b by exact f113), (show M99.1[t110]? = some (.inr (11, [])) by exact f114)⟩)
  rcases (show ((I 2437) < 21 ∨ 37 < (I 2437)) ∨ (I 2437) = 21 ∨ (I 2437) = 22 ∨ (I 2437) = 23 ∨ (I 2437) = 24 ∨ (I 2437) = 25 ∨ (I 2437) = 26 ∨ (I 2437) = 27 ∨ (I 2437) = 28 ∨ (I 2437) = 29 ∨ (I 2437) = 30 ∨ (I 2437) = 31 ∨ (I 2437) = 32 ∨ (I 2437) = 33 ∨ (I 2437) = 34 ∨ (I 2437) = 35 ∨ (I 2437) = 36 ∨ (I 2437) = 37 by omega) with h201 | h201 | h201 | h201 | h201 | h201 | h201 | h201 | h201 | h201 | h201 | h201 | h201 | h201 | h201 | h201 | h201 | h201
  · refine w_swd rfl ⟨by omega, by omega⟩ h201 rfl ?_
    show w_W _ _ _ (165, [(0, .ref 38)], [], M) _
    exact jn165   
  · refine w_sw (v := 21) (F' := (88, [(0, .ref 38)], [], M)) h201 rfl rfl ?_
    refine w_adv (n := 3) (F' := (92, [(0, .ref 38)], [.int (Int32.ofInt ((-1))), .int (Int32.ofInt (24)), .ref 38], M)) rfl ?_
    refine w_call (cm := 93) (as := [(0, .ref 38), (1, .int (Int32.ofInt (24))), (2, .int (Int32.ofInt ((-1))))]) (rest := []) (o := some (4, 38)) rfl (w_fitR hR rfl) (c_leaf (24) ((-1)) hR (show 5 ≤ d by omega) ⟨by omega, by omega⟩ ⟨by omega, by omega⟩ (show l ≤ 7000000 by first | assumption | omega) (show (0 ≤ (I 2436) ∧ (I 2436) ≤ (I 773) ∧ (I 773) ≤ 1501 ∧ ((I 2437) = 0 ∨ (I 2436) < (I 773))) ∧ (0 ≤ (I 2439) ∧ (I 2439) ≤ 24 ∧ 0 ≤ (I 2117)) ∧ 0 ≤ (I 1670) ∧ (I 1670) ≤ 2 * (I 2436) + 1 by (repeat' apply And.intro) <;> first | assumption | omega) (show ¬ (I 2437) = 0 by first | assumption | omega) (show 24 = 1 ∨ 24 = 2 ∨ 24 = 3 ∨ 24 = 4 ∨ 24 = 24 by first | assumption | omega)) (fun r202 M203 q204 => ?_)
    rcases q204 with ⟨v205, I204a, A204a, B204a, C204a, e206, ⟨r207, r208⟩, hR204a, f209, f210, f211, f212, f213⟩ | ⟨t214, I204b, A204b, B204b, C204b, e215, hR204b, f216, f217, f218⟩
    · rw [e206]
      replace hR204a : w_Rep w_TC fr X u l I204a A204a B204a C204a M203 := hR204a
      replace f209 : c_fi c_ps I I204a := f209
      replace f210 : c_fa c_pa A A204a := f210
      replace f211 : (0 ≤ (I204a 2436) ∧ (I204a 2436) ≤ (I204a 773) ∧ ((I204a 2437) = 0 ∨ (I204a 2436) < (I204a 773))) ∧ ((I204a 773) = (I 773) ∧ (I204a 2439) = (I 2439) ∧ 0 ≤ (I204a 2117)) ∧ (I 2436) + 1 ≤ (I204a 2436) ∧ (I204a 1670) + 1 ≤ (I 1670) + 2 * ((I204a 2436) - (I 2436)) ∧ (I 1670) ≤ (I204a 1670) := f211
      obtain ⟨⟨n219, n220, n221⟩, ⟨n222, n223, n224⟩, n225, n226, n227⟩ := id f211
      clear f211
      replace f212 : c_agl A A204a (I 1670) := f212
      replace f213 : c_Wn A204a (c_r (I 2439) 1) v205 (I 1670) (I204a 1670) := f213
      have g228 : c_agl A A204a (I 1670) := c_agl_trans c_agl_refl f212 (show (I 1670) ≤ (I 1670) by omega)
      have k229 : c_Wn A204a (c_r (I 2439) 3) v205 (I 1670) (I204a 1670) := c_Wn_up f213 (show c_r (I 2439) 1 ≤ c_r (I 2439) 3 by unfold c_r; omega)
      obtain ⟨b230, b231⟩ := c_W_in k229.1
      show w_W _ _ _ (95, [(0, .ref 38)], [.int (Int32.ofInt (v205))], M203) _
      refine w_fin (r := .inl (some (v205))) (M' := M203) rfl ?_
      exact Or.inl ⟨v205, I204a, A204a, B204a, C204a, rfl, ⟨by omega, by omega⟩, hR204a, (show c_fi c_ps I I204a by exact f209), (show c_fa c_pa A A204a by exact f210), (show (0 ≤ (I204a 2436) ∧ (I204a 2436) ≤ (I204a 773) ∧ ((I204a 2437) = 0 ∨ (I204a 2436) < (I204a 773))) ∧ ((I204a 773) = (I 773) ∧ (I204a 2439) = (I 2439) ∧ 0 ≤ (I204a 2117)) ∧ (I 2436) + 1 ≤ (I204a 2436) ∧ (I204a 1670) + 1 ≤ (I 1670) + 2 * ((I204a 2436) - (I 2436)) ∧ (I 1670) ≤ (I204a 1670) by (repeat' apply And.intro) <;> first | assumption | omega), (show c_agl A A204a (I 1670) by exact g228), (show c_Wn A204a (c_r (I 2439) 4) v205 (I 1670) (I204a 1670) by exact c_Wn_win (c_Wn_up k229 (show c_r (I 2439) 3 ≤ c_r (I 2439) 4 by unfold c_r; omega)) (show (I 1670) ≤ (I 1670) by omega) (show (I204a 1670) ≤ (I204a 1670) by omega))⟩
    · rw [e215]
      replace hR204b : w_Rep w_TC fr X (u + 6) (l + 64) I204b A204b B204b C204b M203 := hR204b
      replace f216 : c_fi c_ps I I204b := f216
      replace f217 : c_fa c_pa A A204b := f217
      replace f218 : M203.1[t214]? = some (.inr (11, [])) := f218
      exact Or.inr (⟨t214, I204b, A204b, B204b, C204b, rfl, hR204b, (show c_fi c_ps I I204b by exact f216), (show c_fa c_pa A A204b by exact f217), (show M203.1[t214]? = some (.inr (11, [])) by exact f218)⟩)
  · refine w_sw (v := 22) (F' := (96, [(0, .ref 38)], [], M)) h201 rfl rfl ?_
    refine w_adv (n := 2) (F' := (98, [(0, .ref 38)], [.int (Int32.ofInt (0)), .ref 38], M)) rfl ?_
    refine w_call (cm := 122) (as := [(0, .ref 38), (1, .int (Int32.ofInt (0)))]) (rest := []) (o := some (4, 38)) rfl (w_fitR hR rfl) (c_local (c_ALL_dn hA) (0) hR (show 10 * (24 - (I 2439)) + 9 ≤ (d : Int) by omega) ⟨by omega, by omega⟩ (show l ≤ 7000000 by first | assumption | omega) (show (0 ≤ (I 2436) ∧ (I 2436) ≤ (I 773) ∧ (I 773) ≤ 1501 ∧ ((I 2437) = 0 ∨ (I 2436) < (I 773))) ∧ (0 ≤ (I 2439) ∧ (I 2439) ≤ 24 ∧ 0 ≤ (I 2117)) ∧ 0 ≤ (I 1670) ∧ (I 1670) ≤ 2 * (I 2436) + 1 by (repeat' apply And.intro) <;> first | assumption | omega) (show ¬ (I 2437) = 0 by first | assumption | omega)) (fun r232 M233 q234 => ?_)
    rcases q234 with ⟨v235, I234a, A234a, B234a, C234a, e236, ⟨r237, r238⟩, hR234a, f239, f240, f241, f242, f243⟩ | ⟨t244, I234b, A234b, B234b, C234b, e245, hR234b, f246, f247, f248⟩
    · rw [e236]
      replace hR234a : w_Rep w_TC fr X u l I234a A234a B234a C234a M233 := hR234a
      replace f239 : c_fi c_ps I I234a := f239
      replace f240 : c_fa c_pa A A234a := f240
      replace f241 : (0 ≤ (I234a 2436) ∧ (I234a 2436) ≤ (I234a 773) ∧ ((I234a 2437) = 0 ∨ (I234a 2436) < (I234a 773))) ∧ ((I234a 773) = (I 773) ∧ (I234a 2439) = (I 2439) ∧ 0 ≤ (I234a 2117)) ∧ (I 2436) + 1 ≤ (I234a 2436) ∧ (I234a 1670) + 1 ≤ (I 1670) + 2 * ((I234a 2436) - (I 2436)) ∧ (I 1670) ≤ (I234a 1670) := f241
      obtain ⟨⟨n249, n250, n251⟩, ⟨n252, n253, n254⟩, n255, n256, n257⟩ := id f241
      clear f241
      replace f242 : c_agl A A234a (I 1670) := f242
      replace f243 : c_Wn A234a (c_r (I 2439) 1) v235 (I 1670) (I234a 1670) := f243
      have g258 : c_agl A A234a (I 1670) := c_agl_trans c_agl_refl f242 (show (I 1670) ≤ (I 1670) by omega)
      have k259 : c_Wn A234a (c_r (I 2439) 3) v235 (I 1670) (I234a 1670) := c_Wn_up f243 (show c_r (I 2439) 1 ≤ c_r (I 2439) 3 by unfold c_r; omega)
      obtain ⟨b260, b261⟩ := c_W_in k259.1
      show w_W _ _ _ (101, [(0, .ref 38)], [.int (Int32.ofInt (v235))], M233) _
      refine w_fin (r := .inl (some (v235))) (M' := M233) rfl ?_
      exact Or.inl ⟨v235, I234a, A234a, B234a, C234a, rfl, ⟨by omega, by omega⟩, hR234a, (show c_fi c_ps I I234a by exact f239), (show c_fa c_pa A A234a by exact f240), (show (0 ≤ (I234a 2436) ∧ (I234a 2436) ≤ (I234a 773) ∧ ((I234a 2437) = 0 ∨ (I234a 2436) < (I234a 773))) ∧ ((I234a 773) = (I 773) ∧ (I234a 2439) = (I 2439) ∧ 0 ≤ (I234a 2117)) ∧ (I 2436) + 1 ≤ (I234a 2436) ∧ (I234a 1670) + 1 ≤ (I 1670) + 2 * ((I234a 2436) - (I 2436)) ∧ (I 1670) ≤ (I234a 1670) by (repeat' apply And.intro) <;> first | assumption | omega), (show c_agl A A234a (I 1670) by exact g258), (show c_Wn A234a (c_r (I 2439) 4) v235 (I 1670) (I234a 1670) by exact c_Wn_win (c_Wn_up k259 (show c_r (I 2439) 3 ≤ c_r (I 2439) 4 by unfold c_r; omega)) (show (I 1670) ≤ (I 1670) by omega) (show (I234a 1670) ≤ (I234a 1670) by omega))⟩
    · rw [e245]
      replace hR234b : w_Rep w_TC fr X (u + 6) (l + 64) I234b A234b B234b C234b M233 := hR234b
      replace f246 : c_fi c_ps I I234b := f246
      replace f247 : c_fa c_pa A A234b := f247
      replace f248 : M233.1[t244]? = some (.inr (11, [])) := f248
      exact Or.inr (⟨t244, I234b, A234b, B234b, C234b, rfl, hR234b, (show c_fi c_ps I I234b by exact f246), (show c_fa c_pa A A234b by exact f247), (show M233.1[t244]? = some (.inr (11, [])) by exact f248)⟩)
  · refine w_sw (v := 23) (F' := (165, [(0, .ref 38)], [], M)) h201 rfl rfl ?_
    exact jn165   
  · refine w_sw (v := 24) (F' := (165, [(0, .ref 38)], [], M)) h201 rfl rfl ?_
    exact jn165   
  · refine w_sw (v := 25) (F' := (102, [(0, .ref 38)], [], M)) h201 rfl rfl ?_
    refine w_adv (n := 2) (F' := (104, [(0, .ref 38)], [.int (Int32.ofInt (0)), .ref 38], M)) rfl ?_
    refine w_call (cm := 123) (as := [(0, .ref 38), (1, .int (Int32.ofInt (0)))]) (rest := []) (o := some (4, 38)) rfl (w_fitR hR rfl) (c_choice (c_ALL_dn hA) (0) hR (show 10 * (24 - (I 2439)) + 9 ≤ (d : Int) by omega) ⟨by omega, by omega⟩ (show l ≤ 7000000 by first | assumption | omega) (show (0 ≤ (I 2436) ∧ (I 2436) ≤ (I 773) ∧ (I 773) ≤ 1501 ∧ ((I 2437) = 0 ∨ (I 2436) < (I 773))) ∧ (0 ≤ (I 2439) ∧ (I 2439) ≤ 24 ∧ 0 ≤ (I 2117)) ∧ 0 ≤ (I 1670) ∧ (I 1670) ≤ 2 * (I 2436) + 1 by (repeat' apply And.intro) <;> first | assumption | omega) (show ¬ (I 2437) = 0 by first | assumption | omega)) (fun r262 M263 q264 => ?_)
    rcases q264 with ⟨v265, I264a, A264a, B264a, C264a, e266, ⟨r267, r268⟩, hR264a, f269, f270, f271, f272, f273⟩ | ⟨t274, I264b, A264b, B264b, C264b, e275, hR264b, f276, f277, f278⟩
    · rw [e266]
      replace hR264a : w_Rep w_TC fr X u l I264a A264a B264a C264a M263 := hR264a
      replace f269 : c_fi c_ps I I264a := f269
      replace f270 : c_fa c_pa A A264a := f270
      replace f271 : (0 ≤ (I264a 2436) ∧ (I264a 2436) ≤ (I264a 773) ∧ ((I264a 2437) = 0 ∨ (I264a 2436) < (I264a 773))) ∧ ((I264a 773) = (I 773) ∧ (I264a 2439) = (I 2439) ∧ 0 ≤ (I264a 2117)) ∧ (I 2436) + 1 ≤ (I264a 2436) ∧ (I264a 1670) + 1 ≤ (I 1670) + 2 * ((I264a 2436) - (I 2436)) ∧ (I 1670) ≤ (I264a 1670) := f271
      obtain ⟨⟨n279, n280, n281⟩, ⟨n282, n283, n284⟩, n285, n286, n287⟩ := id f271
      clear f271
      replace f272 : c_agl A A264a (I 1670) := f272
      replace f273 : c_Wn A264a (c_r (I 2439) 1) v265 (I 1670) (I264a 1670) := f273
      have g288 : c_agl A A264a (I 1670) := c_agl_trans c_agl_refl f272 (show (I 1670) ≤ (I 1670) by omega)
      have k289 : c_Wn A264a (c_r (I 2439) 3) v265 (I 1670) (I264a 1670) := c_Wn_up f273 (show c_r (I 2439) 1 ≤ c_r (I 2439) 3 by unfold c_r; omega)
      obtain ⟨b290, b291⟩ := c_W_in k289.1
      show w_W _ _ _ (107, [(0, .ref 38)], [.int (Int32.ofInt (v265))], M263) _
      refine w_fin (r := .inl (some (v265))) (M' := M263) rfl ?_
      exact Or.inl ⟨v265, I264a, A264a, B264a, C264a, rfl, ⟨by omega, by omega⟩, hR264a, (show c_fi c_ps I I264a by exact f269), (show c_fa c_pa A A264a by exact f270), (show (0 ≤ (I264a 2436) ∧ (I264a 2436) ≤ (I264a 773) ∧ ((I264a 2437) = 0 ∨ (I264a 2436) < (I264a 773))) ∧ ((I264a 773) = (I 773) ∧ (I264a 2439) = (I 2439) ∧ 0 ≤ (I264a 2117)) ∧ (I 2436) + 1 ≤ (I264a 2436) ∧ (I264a 1670) + 1 ≤ (I 1670) + 2 * ((I264a 2436) - (I 2436)) ∧ (I 1670) ≤ (I264a 1670) by (repeat' apply And.intro) <;> first | assumption | omega), (show c_agl A A264a (I 1670) by exact g288), (show c_Wn A264a (c_r (I 2439) 4) v265 (I 1670) (I264a 1670) by exact c_Wn_win (c_Wn_up k289 (show c_r (I 2439) 3 ≤ c_r (I 2439) 4 by unfold c_r; omega)) (show (I 1670) ≤ (I 1670) by omega) (show (I264a 1670) ≤ (I264a 1670) by omega))⟩
    · rw [e275]
      replace hR264b : w_Rep w_TC fr X (u + 6) (l + 64) I264b A264b B264b C264b M263 := hR264b
      replace f276 : c_fi c_ps I I264b := f276
      replace f277 : c_fa c_pa A A264b := f277
      replace f278 : M263.1[t274]? = some (.inr (11, [])) := f278
      exact Or.inr (⟨t274, I264b, A264b, B264b, C264b, rfl, hR264b, (show c_fi c_ps I I264b by exact f276), (show c_fa c_pa A A264b by exact f277), (show M263.1[t274]? = some (.inr (11, [])) by exact f278)⟩)
  · refine w_sw (v := 26) (F' := (165, [(0, .ref 38)], [], M)) h201 rfl rfl ?_
    exact jn165   
  · refine w_sw (v := 27) (F' := (165, [(0, .ref 38)], [], M)) h201 rfl rfl ?_
    exact jn165   
  · refine w_sw (v := 28) (F' := (108, [(0, .ref 38)], [], M)) h201 rfl rfl ?_
    refine w_adv (n := 2) (F' := (110, [(0, .ref 38)], [.int (Int32.ofInt (0)), .ref 38], M)) rfl ?_
    refine w_call (cm := 125) (as := [(0, .ref 38), (1, .int (Int32.ofInt (0)))]) (rest := []) (o := some (4, 38)) rfl (w_fitR hR rfl) (c_cases (c_ALL_dn hA) (0) hR (show 10 * (24 - (I 2439)) + 9 ≤ (d : Int) by omega) ⟨by omega, by omega⟩ (show l ≤ 7000000 by first | assumption | omega) (show (0 ≤ (I 2436) ∧ (I 2436) ≤ (I 773) ∧ (I 773) ≤ 1501 ∧ ((I 2437) = 0 ∨ (I 2436) < (I 773))) ∧ (0 ≤ (I 2439) ∧ (I 2439) ≤ 24 ∧ 0 ≤ (I 2117)) ∧ 0 ≤ (I 1670) ∧ (I 1670) ≤ 2 * (I 2436) + 1 by (repeat' apply And.intro) <;> first | assumption | omega) (show ¬ (I 2437) = 0 by first | assumption | omega)) (fun r292 M293 q294 => ?_)
    rcases q294 with ⟨v295, I294a, A294a, B294a, C294a, e296, ⟨r297, r298⟩, hR294a, f299, f300, f301, f302, f303⟩ | ⟨t304, I294b, A294b, B294b, C294b, e305, hR294b, f306, f307, f308⟩
    · rw [e296]
      replace hR294a : w_Rep w_TC fr X u l I294a A294a B294a C294a M293 := hR294a
      replace f299 : c_fi c_ps I I294a := f299
      replace f300 : c_fa c_pa A A294a := f300
      replace f301 : (0 ≤ (I294a 2436) ∧ (I294a 2436) ≤ (I294a 773) ∧ ((I294a 2437) = 0 ∨ (I294a 2436) < (I294a 773))) ∧ ((I294a 773) = (I 773) ∧ (I294a 2439) = (I 2439) ∧ 0 ≤ (I294a 2117)) ∧ (I 2436) + 1 ≤ (I294a 2436) ∧ (I294a 1670) + 1 ≤ (I 1670) + 2 * ((I294a 2436) - (I 2436)) ∧ (I 1670) ≤ (I294a 1670) := f301
      obtain ⟨⟨n309, n310, n311⟩, ⟨n312, n313, n314⟩, n315, n316, n317⟩ := id f301
      clear f301
      replace f302 : c_agl A A294a (I 1670) := f302
      replace f303 : c_Wn A294a (c_r (I 2439) 1) v295 (I 1670) (I294a 1670) := f303
      have g318 : c_agl A A294a (I 1670) := c_agl_trans c_agl_refl f302 (show (I 1670) ≤ (I 1670) by omega)
      have k319 : c_Wn A294a (c_r (I 2439) 3) v295 (I 1670) (I294a 1670) := c_Wn_up f303 (show c_r (I 2439) 1 ≤ c_r (I 2439) 3 by unfold c_r; omega)
      obtain ⟨b320, b321⟩ := c_W_in k319.1
      show w_W _ _ _ (113, [(0, .ref 38)], [.int (Int32.ofInt (v295))], M293) _
      refine w_fin (r := .inl (some (v295))) (M' := M293) rfl ?_
      exact Or.inl ⟨v295, I294a, A294a, B294a, C294a, rfl, ⟨by omega, by omega⟩, hR294a, (show c_fi c_ps I I294a by exact f299), (show c_fa c_pa A A294a by exact f300), (show (0 ≤ (I294a 2436) ∧ (I294a 2436) ≤ (I294a 773) ∧ ((I294a 2437) = 0 ∨ (I294a 2436) < (I294a 773))) ∧ ((I294a 773) = (I 773) ∧ (I294a 2439) = (I 2439) ∧ 0 ≤ (I294a 2117)) ∧ (I 2436) + 1 ≤ (I294a 2436) ∧ (I294a 1670) + 1 ≤ (I 1670) + 2 * ((I294a 2436) - (I 2436)) ∧ (I 1670) ≤ (I294a 1670) by (repeat' apply And.intro) <;> first | assumption | omega), (show c_agl A A294a (I 1670) by exact g318), (show c_Wn A294a (c_r (I 2439) 4) v295 (I 1670) (I294a 1670) by exact c_Wn_win (c_Wn_up k319 (show c_r (I 2439) 3 ≤ c_r (I 2439) 4 by unfold c_r; omega)) (show (I 1670) ≤ (I 1670) by omega) (show (I294a 1670) ≤ (I294a 1670) by omega))⟩
    · rw [e305]
      replace hR294b : w_Rep w_TC fr X (u + 6) (l + 64) I294b A294b B294b C294b M293 := hR294b
      replace f306 : c_fi c_ps I I294b := f306
      replace f307 : c_fa c_pa A A294b := f307
      replace f308 : M293.1[t304]? = some (.inr (11, [])) := f308
      exact Or.inr (⟨t304, I294b, A294b, B294b, C294b, rfl, hR294b, (show c_fi c_ps I I294b by exact f306), (show c_fa c_pa A A294b by exact f307), (show M293.1[t304]? = some (.inr (11, [])) by exact f308)⟩)
  · refine w_sw (v := 29) (F' := (165, [(0, .ref 38)], [], M)) h201 rfl rfl ?_
    exact jn165   
  · refine w_sw (v := 30) (F' := (165, [(0, .ref 38)], [], M)) h201 rfl rfl ?_
    exact jn165   
  · refine w_sw (v := 31) (F' := (165, [(0, .ref 38)], [], M)) h201 rfl rfl ?_
    exact jn165   
  · refine w_sw (v := 32) (F' := (165, [(0, .ref 38)], [], M)) h201 rfl rfl ?_
    exact jn165   
  · refine w_sw (v := 33) (F' := (114, [(0, .ref 38)], [], M)) h201 rfl rfl ?_
    refine w_adv (n := 2) (F' := (116, [(0, .ref 38)], [.int (Int32.ofInt (0)), .ref 38], M)) rfl ?_
    refine w_call (cm := 129) (as := [(0, .ref 38), (1, .int (Int32.ofInt (0)))]) (rest := []) (o := some (4, 38)) rfl (w_fitR hR rfl) (c_thread (c_ALL_dn hA) (0) hR (show 10 * (24 - (I 2439)) + 9 ≤ (d : Int) by omega) ⟨by omega, by omega⟩ (show l ≤ 7000000 by first | assumption | omega) (show (0 ≤ (I 2436) ∧ (I 2436) ≤ (I 773) ∧ (I 773) ≤ 1501 ∧ ((I 2437) = 0 ∨ (I 2436) < (I 773))) ∧ (0 ≤ (I 2439) ∧ (I 2439) ≤ 24 ∧ 0 ≤ (I 2117)) ∧ 0 ≤ (I 1670) ∧ (I 1670) ≤ 2 * (I 2436) + 1 by (repeat' apply And.intro) <;> first | assumption | omega) (show ¬ (I 2437) = 0 by first | assumption | omega)) (fun r322 M323 q324 => ?_)
    rcases q324 with ⟨v325, I324a, A324a, B324a, C324a, e326, ⟨r327, r328⟩, hR324a, f329, f330, f331, f332, f333⟩ | ⟨t334, I324b, A324b, B324b, C324b, e335, hR324b, f336, f337, f338⟩
    · rw [e326]
      replace hR324a : w_Rep w_TC fr X u l I324a A324a B324a C324a M323 := hR324a
      replace f329 : c_fi c_ps I I324a := f329
      replace f330 : c_fa c_pa A A324a := f330
      replace f331 : (0 ≤ (I324a 2436) ∧ (I324a 2436) ≤ (I324a 773) ∧ ((I324a 2437) = 0 ∨ (I324a 2436) < (I324a 773))) ∧ ((I324a 773) = (I 773) ∧ (I324a 2439) = (I 2439) ∧ 0 ≤ (I324a 2117)) ∧ (I 2436) + 1 ≤ (I324a 2436) ∧ (I324a 1670) + 1 ≤ (I 1670) + 2 * ((I324a 2436) - (I 2436)) ∧ (I 1670) ≤ (I324a 1670) := f331
      obtain ⟨⟨n339, n340, n341⟩, ⟨n342, n343, n344⟩, n345, n346, n347⟩ := id f331
      clear f331
      replace f332 : c_agl A A324a (I 1670) := f332
      replace f333 : c_Wn A324a (c_r (I 2439) 1) v325 (I 1670) (I324a 1670) := f333
      have g348 : c_agl A A324a (I 1670) := c_agl_trans c_agl_refl f332 (show (I 1670) ≤ (I 1670) by omega)
      have k349 : c_Wn A324a (c_r (I 2439) 3) v325 (I 1670) (I324a 1670) := c_Wn_up f333 (show c_r (I 2439) 1 ≤ c_r (I 2439) 3 by unfold c_r; omega)
      obtain ⟨b350, b351⟩ := c_W_in k349.1
      show w_W _ _ _ (119, [(0, .ref 38)], [.int (Int32.ofInt (v325))], M323) _
      refine w_fin (r := .inl (some (v325))) (M' := M323) rfl ?_
      exact Or.inl ⟨v325, I324a, A324a, B324a, C324a, rfl, ⟨by omega, by omega⟩, hR324a, (show c_fi c_ps I I324a by exact f329), (show c_fa c_pa A A324a by exact f330), (show (0 ≤ (I324a 2436) ∧ (I324a 2436) ≤ (I324a 773) ∧ ((I324a 2437) = 0 ∨ (I324a 2436) < (I324a 773))) ∧ ((I324a 773) = (I 773) ∧ (I324a 2439) = (I 2439) ∧ 0 ≤ (I324a 2117)) ∧ (I 2436) + 1 ≤ (I324a 2436) ∧ (I324a 1670) + 1 ≤ (I 1670) + 2 * ((I324a 2436) - (I 2436)) ∧ (I 1670) ≤ (I324a 1670) by (repeat' apply And.intro) <;> first | assumption | omega), (show c_agl A A324a (I 1670) by exact g348), (show c_Wn A324a (c_r (I 2439) 4) v325 (I 1670) (I324a 1670) by exact c_Wn_win (c_Wn_up k349 (show c_r (I 2439) 3 ≤ c_r (I 2439) 4 by unfold c_r; omega)) (show (I 1670) ≤ (I 1670) by omega) (show (I324a 1670) ≤ (I324a 1670) by omega))⟩
    · rw [e335]
      replace hR324b : w_Rep w_TC fr X (u + 6) (l + 64) I324b A324b B324b C324b M323 := hR324b
      replace f336 : c_fi c_ps I I324b := f336
      replace f337 : c_fa c_pa A A324b := f337
      replace f338 : M323.1[t334]? = some (.inr (11, [])) := f338
      exact Or.inr (⟨t334, I324b, A324b, B324b, C324b, rfl, hR324b, (show c_fi c_ps I I324b by exact f336), (show c_fa c_pa A A324b by exact f337), (show M323.1[t334]? = some (.inr (11, [])) by exact f338)⟩)
  · refine w_sw (v := 34) (F' := (120, [(0, .ref 38)], [], M)) h201 rfl rfl ?_
    refine w_adv (n := 1) (F' := (121, [(0, .ref 38)], [.ref 38], M)) rfl ?_
    refine w_call (cm := 134) (as := [(0, .ref 38)]) (rest := []) (o := some (4, 38)) rfl (w_fitR hR rfl) (c_attempt (c_ALL_dn hA) hR (show 10 * (24 - (I 2439)) + 9 ≤ (d : Int) by omega) (show l ≤ 7000000 by first | assumption | omega) (show (0 ≤ (I 2436) ∧ (I 2436) ≤ (I 773) ∧ (I 773) ≤ 1501 ∧ ((I 2437) = 0 ∨ (I 2436) < (I 773))) ∧ (0 ≤ (I 2439) ∧ (I 2439) ≤ 24 ∧ 0 ≤ (I 2117)) ∧ 0 ≤ (I 1670) ∧ (I 1670) ≤ 2 * (I 2436) + 1 by (repeat' apply And.intro) <;> first | assumption | omega) (show ¬ (I 2437) = 0 by first | assumption | omega)) (fun r352 M353 q354 => ?_)
    rcases q354 with ⟨v355, I354a, A354a, B354a, C354a, e356, ⟨r357, r358⟩, hR354a, f359, f360, f361, f362, f363⟩ | ⟨t364, I354b, A354b, B354b, C354b, e365, hR354b, f366, f367, f368⟩
    · rw [e356]
      replace hR354a : w_Rep w_TC fr X u l I354a A354a B354a C354a M353 := hR354a
      replace f359 : c_fi c_ps I I354a := f359
      replace f360 : c_fa c_pa A A354a := f360
      replace f361 : (0 ≤ (I354a 2436) ∧ (I354a 2436) ≤ (I354a 773) ∧ ((I354a 2437) = 0 ∨ (I354a 2436) < (I354a 773))) ∧ ((I354a 773) = (I 773) ∧ (I354a 2439) = (I 2439) ∧ 0 ≤ (I354a 2117)) ∧ (I 2436) + 1 ≤ (I354a 2436) ∧ (I354a 1670) + 1 ≤ (I 1670) + 2 * ((I354a 2436) - (I 2436)) ∧ (I 1670) ≤ (I354a 1670) := f361
      obtain ⟨⟨n369, n370, n371⟩, ⟨n372, n373, n374⟩, n375, n376, n377⟩ := id f361
      clear f361
      replace f362 : c_agl A A354a (I 1670) := f362
      replace f363 : c_Wn A354a (c_r (I 2439) 1) v355 (I 1670) (I354a 1670) := f363
      have g378 : c_agl A A354a (I 1670) := c_agl_trans c_agl_refl f362 (show (I 1670) ≤ (I 1670) by omega)
      have k379 : c_Wn A354a (c_r (I 2439) 3) v355 (I 1670) (I354a 1670) := c_Wn_up f363 (show c_r (I 2439) 1 ≤ c_r (I 2439) 3 by unfold c_r; omega)
      obtain ⟨b380, b381⟩ := c_W_in k379.1
      show w_W _ _ _ (124, [(0, .ref 38)], [.int (Int32.ofInt (v355))], M353) _
      refine w_fin (r := .inl (some (v355))) (M' := M353) rfl ?_
      exact Or.inl ⟨v355, I354a, A354a, B354a, C354a, rfl, ⟨by omega, by omega⟩, hR354a, (show c_fi c_ps I I354a by exact f359), (show c_fa c_pa A A354a by exact f360), (show (0 ≤ (I354a 2436) ∧ (I354a 2436) ≤ (I354a 773) ∧ ((I354a 2437) = 0 ∨ (I354a 2436) < (I354a 773))) ∧ ((I354a 773) = (I 773) ∧ (I354a 2439) = (I 2439) ∧ 0 ≤ (I354a 2117)) ∧ (I 2436) + 1 ≤ (I354a 2436) ∧ (I354a 1670) + 1 ≤ (I 1670) + 2 * ((I354a 2436) - (I 2436)) ∧ (I 1670) ≤ (I354a 1670) by (repeat' apply And.intro) <;> first | assumption | omega), (show c_agl A A354a (I 1670) by exact g378), (show c_Wn A354a (c_r (I 2439) 4) v355 (I 1670) (I354a 1670) by exact c_Wn_win (c_Wn_up k379 (show c_r (I 2439) 3 ≤ c_r (I 2439) 4 by unfold c_r; omega)) (show (I 1670) ≤ (I 1670) by omega) (show (I354a 1670) ≤ (I354a 1670) by omega))⟩
    · rw [e365]
      replace hR354b : w_Rep w_TC fr X (u + 6) (l + 64) I354b A354b B354b C354b M353 := hR354b
      replace f366 : c_fi c_ps I I354b := f366
      replace f367 : c_fa c_pa A A354b := f367
      replace f368 : M353.1[t364]? = some (.inr (11, [])) := f368
      exact Or.inr (⟨t364, I354b, A354b, B354b, C354b, rfl, hR354b, (show c_fi c_ps I I354b by exact f366), (show c_fa c_pa A A354b by exact f367), (show M353.1[t364]? = some (.inr (11, [])) by exact f368)⟩)
  · refine w_sw (v := 35) (F' := (165, [(0, .ref 38)], [], M)) h201 rfl rfl ?_
    exact jn165   
  · refine w_sw (v := 36) (F' := (125, [(0, .ref 38)], [], M)) h201 rfl rfl ?_
    refine w_adv (n := 1) (F' := (126, [(0, .ref 38)], [.ref 38], M)) rfl ?_
    refine w_call (cm := 80) (as := [(0, .ref 38)]) (rest := []) (o := some (4, 38)) rfl (w_fitR hR rfl) (c_advance hR (show 3 ≤ d by omega) (show l ≤ 7000000 by first | assumption | omega) (show -1 ≤ (I 2436) ∧ (I 2436) < (I 773) ∧ (I 773) ≤ 1501 by first | assumption | omega)) (fun r382 M383 q384 => ?_)
    rcases q384 with ⟨zt385, zk386, zv387, e388, hR384a, f389⟩ | ⟨t390, I384b, A384b, B384b, C384b, e391, hR384b, f392, f393, f394⟩
    · rw [e388]
      replace hR384a : w_Rep w_TC fr X u l (w_up (w_up (w_up (w_up I 2436 ((I 2436) + 1)) 2441 (zt385)) 2437 (zk386)) 2438 (zv387)) A B C M383 := hR384a
      replace f389 : ((I 2436) + 1 < (I 773) ∨ zk386 = 0) := f389
      show w_W _ _ _ (129, [(0, .ref 38)], [], M383) _
      refine w_adv (n := 1) (F' := (130, [(0, .ref 38)], [.ref 38], M383)) rfl ?_
      refine w_gf (v := .ref 26) hR384a rfl rfl rfl rfl ?_
      refine w_adv (n := 2) (F' := (136, [(0, .ref 38)], [.ref 38, .int (Int32.ofInt (21)), .ref 26], M383)) rfl ?_
      refine w_call (cm := 89) (as := [(0, .ref 38)]) (rest := [.int (Int32.ofInt (21)), .ref 26]) (o := some (4, 38)) rfl (w_fitR hR384a rfl) ((hA d (Nat.lt_succ_self d)).1 hR384a (show 10 * (24 - (I 2439)) + 13 ≤ (d : Int) by omega) (show l ≤ 7000000 by first | assumption | omega) (show (0 ≤ (I 2436) + 1 ∧ (I 2436) + 1 ≤ (I 773) ∧ (I 773) ≤ 1501 ∧ (zk386 = 0 ∨ (I 2436) + 1 < (I 773))) ∧ (0 ≤ (I 2439) ∧ (I 2439) ≤ 24 ∧ 0 ≤ (I 2117)) ∧ 0 ≤ (I 1670) ∧ (I 1670) ≤ 2 * ((I 2436) + 1) + 1 by (repeat' apply And.intro) <;> first | assumption | omega)) (fun r395 M396 q397 => ?_)
      rcases q397 with ⟨v398, I397a, A397a, B397a, C397a, e399, ⟨r400, r401⟩, hR397a, f402, f403, f404, f405, f406⟩ | ⟨t407, I397b, A397b, B397b, C397b, e408, hR397b, f409, f410, f411⟩
      · rw [e399]
        replace hR397a : w_Rep w_TC fr X u l I397a A397a B397a C397a M396 := hR397a
        replace f402 : c_fi c_ps (w_up (w_up (w_up (w_up I 2436 ((I 2436) + 1)) 2441 (zt385)) 2437 (zk386)) 2438 (zv387)) I397a := f402
        replace f403 : c_fa c_pa A A397a := f403
        replace f404 : (0 ≤ (I397a 2436) ∧ (I397a 2436) ≤ (I397a 773) ∧ ((I397a 2437) = 0 ∨ (I397a 2436) < (I397a 773))) ∧ ((I397a 773) = (I 773) ∧ (I397a 2439) = (I 2439) ∧ 0 ≤ (I397a 2117)) ∧ ((I 2436) + 1) + 1 ≤ (I397a 2436) ∧ (I397a 1670) + 1 ≤ (I 1670) + 2 * ((I397a 2436) - ((I 2436) + 1)) ∧ (I 1670) ≤ (I397a 1670) := f404
        obtain ⟨⟨n412, n413, n414⟩, ⟨n415, n416, n417⟩, n418, n419, n420⟩ := id f404
        clear f404
        replace f405 : c_agl A A397a (I 1670) := f405
        replace f406 : c_Wn A397a (c_r (I 2439) 3) v398 (I 1670) (I397a 1670) := f406
        have g421 : c_agl A A397a (I 1670) := c_agl_trans c_agl_refl f405 (show (I 1670) ≤ (I 1670) by omega)
        have k422 : c_Wn A397a (c_r (I 2439) 3) v398 (I 1670) (I397a 1670) := c_Wn_up f406 (show c_r (I 2439) 3 ≤ c_r (I 2439) 3 by unfold c_r; omega)
        obtain ⟨b423, b424⟩ := c_W_in k422.1
        show w_W _ _ _ (139, [(0, .ref 38)], [.int (Int32.ofInt (v398)), .int (Int32.ofInt (21)), .ref 26], M396) _
        refine w_adv (n := 2) (F' := (141, [(0, .ref 38)], [.int (Int32.ofInt ((-1))), .int (Int32.ofInt ((-1))), .int (Int32.ofInt (v398)), .int (Int32.ofInt (21)), .ref 26], M396)) rfl ?_
        refine w_call (cm := 94) (as := [(0, .ref 26), (1, .int (Int32.ofInt (21))), (2, .int (Int32.ofInt (v398))), (3, .int (Int32.ofInt ((-1)))), (4, .int (Int32.ofInt ((-1))))]) (rest := []) (o := some (8, 26)) rfl (w_fitR hR397a rfl) (c_mkn (21) (v398) ((-1)) ((-1)) hR397a (show 2 ≤ d by omega) ⟨by omega, by omega⟩ ⟨by omega, by omega⟩ ⟨by omega, by omega⟩ ⟨by omega, by omega⟩ (show 0 ≤ (I397a 1670) ∧ (I397a 1670) < 3016 by first | assumption | omega)) (fun r425 M426 q427 => ?_)
        rcases q427 with ⟨A428, e429, hR427a, f430, f431⟩
        rw [e429]
        replace hR427a : w_Rep w_TC fr X u l (w_up I397a 1670 ((I397a 1670) + 1)) A428 B397a C397a M426 := hR427a
        replace f430 : c_fa c_pa A397a A428 := f430
        replace f431 : c_mk A397a A428 (I397a 1670) 21 v398 (-1) (-1) := f431
        have k432 : c_Wn A428 (c_r (I 2439) 4) (I397a 1670) (I 1670) ((I397a 1670) + 1) := c_Wn_up ⟨c_W_21 f431 (by omega) (show 0 ≤ (I 1670) by omega) (c_Wn_win k422 (show (I 1670) ≤ (I 1670) by omega) (show (I397a 1670) ≤ (I397a 1670) by omega)).1, f431.2.2.2.2.2⟩ (show (c_r (I 2439) 3) + 1 ≤ (c_r (I 2439) 4) by unfold c_r; omega)
        have g433 : c_agl A A428 (I 1670) := c_agl_trans g421 f431.1 (show (I 1670) ≤ (I397a 1670) by omega)
        show w_W _ _ _ (144, [(0, .ref 38)], [.int (Int32.ofInt ((I397a 1670)))], M426) _
        refine w_fin (r := .inl (some ((I397a 1670)))) (M' := M426) rfl ?_
        exact Or.inl ⟨(I397a 1670), (w_up I397a 1670 ((I397a 1670) + 1)), A428, B397a, C397a, rfl, ⟨by omega, by omega⟩, hR427a, (show c_fi c_ps I (w_up I397a 1670 ((I397a 1670) + 1)) by exact (c_fi_up (c_fi_trans (c_fi_up (c_fi_up (c_fi_up (c_fi_up c_fi_refl rfl) rfl) rfl) rfl) f402) rfl)), (show c_fa c_pa A A428 by exact (c_fa_trans f403 f430)), (show (0 ≤ (I397a 2436) ∧ (I397a 2436) ≤ (I397a 773) ∧ ((I397a 2437) = 0 ∨ (I397a 2436) < (I397a 773))) ∧ ((I397a 773) = (I 773) ∧ (I397a 2439) = (I 2439) ∧ 0 ≤ (I397a 2117)) ∧ (I 2436) + 1 ≤ (I397a 2436) ∧ ((I397a 1670) + 1) + 1 ≤ (I 1670) + 2 * ((I397a 2436) - (I 2436)) ∧ (I 1670) ≤ (I397a 1670) + 1 by (repeat' apply And.intro) <;> first | assumption | omega), (show c_agl A A428 (I 1670) by exact g433), (show c_Wn A428 (c_r (I 2439) 4) (I397a 1670) (I 1670) ((I397a 1670) + 1) by exact c_Wn_win (c_Wn_up k432 (show c_r (I 2439) 4 ≤ c_r (I 2439) 4 by unfold c_r; omega)) (show (I 1670) ≤ (I 1670) by omega) (show ((I397a 1670) + 1) ≤ ((I397a 1670) + 1) by omega))⟩
      · rw [e408]
        replace hR397b : w_Rep w_TC fr X (u + 6) (l + 64) I397b A397b B397b C397b M396 := hR397b
        replace f409 : c_fi c_ps (w_up (w_up (w_up (w_up I 2436 ((I 2436) + 1)) 2441 (zt385)) 2437 (zk386)) 2438 (zv387)) I397b := f409
        replace f410 : c_fa c_pa A A397b := f410
        replace f411 : M396.1[t407]? = some (.inr (11, [])) := f411
        exact Or.inr (⟨t407, I397b, A397b, B397b, C397b, rfl, hR397b, (show c_fi c_ps I I397b by exact (c_fi_trans (c_fi_up (c_fi_up (c_fi_up (c_fi_up c_fi_refl rfl) rfl) rfl) rfl) f409)), (show c_fa c_pa A A397b by exact f410), (show M396.1[t407]? = some (.inr (11, [])) by exact f411)⟩)
    · rw [e391]
      replace hR384b : w_Rep w_TC fr X (u + 6) (l + 64) I384b A384b B384b C384b M383 := hR384b
      replace f392 : c_fi c_ps I I384b := f392
      replace f393 : c_fa c_pa A A384b := f393
      replace f394 : M383.1[t390]? = some (.inr (11, [])) := f394
      exact Or.inr (⟨t390, I384b, A384b, B384b, C384b, rfl, hR384b, (show c_fi c_ps I I384b by exact f392), (show c_fa c_pa A A384b by exact f393), (show M383.1[t390]? = some (.inr (11, [])) by exact f394)⟩)
  · refine w_sw (v := 37) (F' := (145, [(0, .ref 38)], [], M)) h201 rfl rfl ?_
    refine w_adv (n := 1) (F' := (146, [(0, .ref 38)], [.ref 38], M)) rfl ?_
    refine w_call (cm := 80) (as := [(0, .ref 38)]) (rest := []) (o := some (4, 38)) rfl (w_fitR hR rfl) (c_advance hR (show 3 ≤ d by omega) (show l ≤ 7000000 by first | assumption | omega) (show -1 ≤ (I 2436) ∧ (I 2436) < (I 773) ∧ (I 773) ≤ 1501 by first | assumption | omega)) (fun r434 M435 q436 => ?_)
    rcases q436 with ⟨zt437, zk438, zv439, e440, hR436a, f441⟩ | ⟨t442, I436b, A436b, B436b, C436b, e443, hR436b, f444, f445, f446⟩
    · rw [e440]
      replace hR436a : w_Rep w_TC fr X u l (w_up (w_up (w_up (w_up I 2436 ((I 2436) + 1)) 2441 (zt437)) 2437 (zk438)) 2438 (zv439)) A B C M435 := hR436a
      replace f441 : ((I 2436) + 1 < (I 773) ∨ zk438 = 0) := f441
      show w_W _ _ _ (149, [(0, .ref 38)], [], M435) _
      refine w_adv (n := 1) (F' := (150, [(0, .ref 38)], [.ref 38], M435)) rfl ?_
      refine w_gf (v := .ref 26) hR436a rfl rfl rfl rfl ?_
      refine w_adv (n := 2) (F' := (156, [(0, .ref 38)], [.ref 38, .int (Int32.ofInt (22)), .ref 26], M435)) rfl ?_
      refine w_call (cm := 89) (as := [(0, .ref 38)]) (rest := [.int (Int32.ofInt (22)), .ref 26]) (o := some (4, 38)) rfl (w_fitR hR436a rfl) ((hA d (Nat.lt_succ_self d)).1 hR436a (show 10 * (24 - (I 2439)) + 13 ≤ (d : Int) by omega) (show l ≤ 7000000 by first | assumption | omega) (show (0 ≤ (I 2436) + 1 ∧ (I 2436) + 1 ≤ (I 773) ∧ (I 773) ≤ 1501 ∧ (zk438 = 0 ∨ (I 2436) + 1 < (I 773))) ∧ (0 ≤ (I 2439) ∧ (I 2439) ≤ 24 ∧ 0 ≤ (I 2117)) ∧ 0 ≤ (I 1670) ∧ (I 1670) ≤ 2 * ((I 2436) + 1) + 1 by (repeat' apply And.intro) <;> first | assumption | omega)) (fun r447 M448 q449 => ?_)
      rcases q449 with ⟨v450, I449a, A449a, B449a, C449a, e451, ⟨r452, r453⟩, hR449a, f454, f455, f456, f457, f458⟩ | ⟨t459, I449b, A449b, B449b, C449b, e460, hR449b, f461, f462, f463⟩
      · rw [e451]
        replace hR449a : w_Rep w_TC fr X u l I449a A449a B449a C449a M448 := hR449a
        replace f454 : c_fi c_ps (w_up (w_up (w_up (w_up I 2436 ((I 2436) + 1)) 2441 (zt437)) 2437 (zk438)) 2438 (zv439)) I449a := f454
        replace f455 : c_fa c_pa A A449a := f455
        replace f456 : (0 ≤ (I449a 2436) ∧ (I449a 2436) ≤ (I449a 773) ∧ ((I449a 2437) = 0 ∨ (I449a 2436) < (I449a 773))) ∧ ((I449a 773) = (I 773) ∧ (I449a 2439) = (I 2439) ∧ 0 ≤ (I449a 2117)) ∧ ((I 2436) + 1) + 1 ≤ (I449a 2436) ∧ (I449a 1670) + 1 ≤ (I 1670) + 2 * ((I449a 2436) - ((I 2436) + 1)) ∧ (I 1670) ≤ (I449a 1670) := f456
        obtain ⟨⟨n464, n465, n466⟩, ⟨n467, n468, n469⟩, n470, n471, n472⟩ := id f456
        clear f456
        replace f457 : c_agl A A449a (I 1670) := f457
        replace f458 : c_Wn A449a (c_r (I 2439) 3) v450 (I 1670) (I449a 1670) := f458
        have g473 : c_agl A A449a (I 1670) := c_agl_trans c_agl_refl f457 (show (I 1670) ≤ (I 1670) by omega)
        have k474 : c_Wn A449a (c_r (I 2439) 3) v450 (I 1670) (I449a 1670) := c_Wn_up f458 (show c_r (I 2439) 3 ≤ c_r (I 2439) 3 by unfold c_r; omega)
        obtain ⟨b475, b476⟩ := c_W_in k474.1
        show w_W _ _ _ (159, [(0, .ref 38)], [.int (Int32.ofInt (v450)), .int (Int32.ofInt (22)), .ref 26], M448) _
        refine w_adv (n := 2) (F' := (161, [(0, .ref 38)], [.int (Int32.ofInt ((-1))), .int (Int32.ofInt ((-1))), .int (Int32.ofInt (v450)), .int (Int32.ofInt (22)), .ref 26], M448)) rfl ?_
        refine w_call (cm := 94) (as := [(0, .ref 26), (1, .int (Int32.ofInt (22))), (2, .int (Int32.ofInt (v450))), (3, .int (Int32.ofInt ((-1)))), (4, .int (Int32.ofInt ((-1))))]) (rest := []) (o := some (8, 26)) rfl (w_fitR hR449a rfl) (c_mkn (22) (v450) ((-1)) ((-1)) hR449a (show 2 ≤ d by omega) ⟨by omega, by omega⟩ ⟨by omega, by omega⟩ ⟨by omega, by omega⟩ ⟨by omega, by omega⟩ (show 0 ≤ (I449a 1670) ∧ (I449a 1670) < 3016 by first | assumption | omega)) (fun r477 M478 q479 => ?_)
        rcases q479 with ⟨A480, e481, hR479a, f482, f483⟩
        rw [e481]
        replace hR479a : w_Rep w_TC fr X u l (w_up I449a 1670 ((I449a 1670) + 1)) A480 B449a C449a M478 := hR479a
        replace f482 : c_fa c_pa A449a A480 := f482
        replace f483 : c_mk A449a A480 (I449a 1670) 22 v450 (-1) (-1) := f483
        have k484 : c_Wn A480 (c_r (I 2439) 4) (I449a 1670) (I 1670) ((I449a 1670) + 1) := c_Wn_up ⟨c_W_21 f483 (by omega) (show 0 ≤ (I 1670) by omega) (c_Wn_win k474 (show (I 1670) ≤ (I 1670) by omega) (show (I449a 1670) ≤ (I449a 1670) by omega)).1, f483.2.2.2.2.2⟩ (show (c_r (I 2439) 3) + 1 ≤ (c_r (I 2439) 4) by unfold c_r; omega)
        have g485 : c_agl A A480 (I 1670) := c_agl_trans g473 f483.1 (show (I 1670) ≤ (I449a 1670) by omega)
        show w_W _ _ _ (164, [(0, .ref 38)], [.int (Int32.ofInt ((I449a 1670)))], M478) _
        refine w_fin (r := .inl (some ((I449a 1670)))) (M' := M478) rfl ?_
        exact Or.inl ⟨(I449a 1670), (w_up I449a 1670 ((I449a 1670) + 1)), A480, B449a, C449a, rfl, ⟨by omega, by omega⟩, hR479a, (show c_fi c_ps I (w_up I449a 1670 ((I449a 1670) + 1)) by exact (c_fi_up (c_fi_trans (c_fi_up (c_fi_up (c_fi_up (c_fi_up c_fi_refl rfl) rfl) rfl) rfl) f454) rfl)), (show c_fa c_pa A A480 by exact (c_fa_trans f455 f482)), (show (0 ≤ (I449a 2436) ∧ (I449a 2436) ≤ (I449a 773) ∧ ((I449a 2437) = 0 ∨ (I449a 2436) < (I449a 773))) ∧ ((I449a 773) = (I 773) ∧ (I449a 2439) = (I 2439) ∧ 0 ≤ (I449a 2117)) ∧ (I 2436) + 1 ≤ (I449a 2436) ∧ ((I449a 1670) + 1) + 1 ≤ (I 1670) + 2 * ((I449a 2436) - (I 2436)) ∧ (I 1670) ≤ (I449a 1670) + 1 by (repeat' apply And.intro) <;> first | assumption | omega), (show c_agl A A480 (I 1670) by exact g485), (show c_Wn A480 (c_r (I 2439) 4) (I449a 1670) (I 1670) ((I449a 1670) + 1) by exact c_Wn_win (c_Wn_up k484 (show c_r (I 2439) 4 ≤ c_r (I 2439) 4 by unfold c_r; omega)) (show (I 1670) ≤ (I 1670) by omega) (show ((I449a 1670) + 1) ≤ ((I449a 1670) + 1) by omega))⟩
      · rw [e460]
        replace hR449b : w_Rep w_TC fr X (u + 6) (l + 64) I449b A449b B449b C449b M448 := hR449b
        replace f461 : c_fi c_ps (w_up (w_up (w_up (w_up I 2436 ((I 2436) + 1)) 2441 (zt437)) 2437 (zk438)) 2438 (zv439)) I449b := f461
        replace f462 : c_fa c_pa A A449b := f462
        replace f463 : M448.1[t459]? = some (.inr (11, [])) := f463
        exact Or.inr (⟨t459, I449b, A449b, B449b, C449b, rfl, hR449b, (show c_fi c_ps I I449b by exact (c_fi_trans (c_fi_up (c_fi_up (c_fi_up (c_fi_up c_fi_refl rfl) rfl) rfl) rfl) f461)), (show c_fa c_pa A A449b by exact f462), (show M448.1[t459]? = some (.inr (11, [])) by exact f463)⟩)
    · rw [e443]
      replace hR436b : w_Rep w_TC fr X (u + 6) (l + 64) I436b A436b B436b C436b M435 := hR436b
      replace f444 : c_fi c_ps I I436b := f444
      replace f445 : c_fa c_pa A A436b := f445
      replace f446 : M435.1[t442]? = some (.inr (11, [])) := f446
      exact Or.inr (⟨t442, I436b, A436b, B436b, C436b, rfl, hR436b, (show c_fi c_ps I I436b by exact f444), (show c_fa c_pa A A436b by exact f445), (show M435.1[t442]? = some (.inr (11, [])) by exact f446)⟩)
