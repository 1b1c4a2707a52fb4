/-! PARSER of the class: items. -/
def c_oneItem_Q (fr : Nat → Bool) (X : Nat → Option (q_C (Nat → Int32))) (u l : Nat) (I : Nat → Int) (A : Nat → Int → Int) (B C : Nat → Nat) (M : w_M) : w_X → w_M → Prop := fun r M' => (∃ v : Int, ∃ (I' : Nat → Int) (A' : Nat → Int → Int) (B' C' : Nat → Nat), (r = .inl (some v)) ∧ (w_in v) ∧ (w_Rep w_TC fr X u l I' A' B' C' M') ∧ (c_fi c_ps I I') ∧ (c_fa c_pa A A') ∧ ((0 ≤ (I' 2436) ∧ (I' 2436) ≤ (I' 773) ∧ ((I' 2437) = 0 ∨ (I' 2436) < (I' 773))) ∧ ((I' 773) = (I 773) ∧ (I' 2439) = (I 2439) ∧ 0 ≤ (I' 2117)) ∧ (I 2436) + 1 ≤ (I' 2436) ∧ (I' 1670) + 1 ≤ (I 1670) + 2 * ((I' 2436) - (I 2436)) ∧ (I 1670) ≤ (I' 1670)) ∧ (c_agl A A' (I 1670)) ∧ (c_Wn A' (c_r (I 2439) 4) v (I 1670) (I' 1670))) ∨ (∃ t : Nat, ∃ (I' : Nat → Int) (A' : Nat → Int → Int) (B' C' : Nat → Nat), (r = .inr t) ∧ (w_Rep w_TC fr X (u + 6) (l + 64) I' A' B' C' M') ∧ (c_fi c_ps I I') ∧ (c_fa c_pa A A') ∧ (M'.1[None]? = some (.inr (11, []))))
set_option maxHeartbeats 100000000 in
set_option maxRecDepth 100000 in
theorem c_oneItem {L : Nat} {xs : Nat → Int32} {d : Nat} {fr : Nat → Bool} {X : Nat → Option (q_C (Nat → Int32))} {u l : Nat} {I : Nat → Int} {A : Nat → Int → Int} {B C : Nat → Nat} {M : w_M} (hA : c_ALL L xs d) (hR : w_Rep w_TC fr X u l I A B C M) (hd : 10 * (24 - (I 2439)) + 14 ≤ (d : Int)) (hl : l ≤ 100000) (hNU : (0 ≤ (I 2436) ∧ (I 2436) ≤ (I 773) ∧ (I 773) ≤ 1501 ∧ ((I 2437) = 0 ∨ (I 2436) < (I 773))) ∧ (0 ≤ (I 2439) ∧ (I 2439) ≤ 24 ∧ 0 ≤ (I 2117)) ∧ 0 ≤ (I 1670) ∧ (I 1670) ≤ 2 * (I 2436) + 1) : w_W (z_P L xs) d 133 (0, [(0, .ref 38)], [], M) (c_oneItem_Q fr X u l I A B C M) := by
  obtain ⟨d, rfl⟩ : ∃ d0, d = d0 + 1 := ⟨d - 1, by omega⟩
  refine w_adv (n := 1) (F' := (1, [(0, .ref 38)], [.ref 38], M)) rfl ?_
  refine w_gf (v := .int (Int32.ofInt ((I 2437)))) hR rfl rfl rfl rfl ?_
  obtain ⟨r1, r2⟩ : -2147483648 ≤ (I 2437) ∧ (I 2437) ≤ 2147483647 := hR.ri 2437
  have jn165 : w_W (z_P L xs) (d + 1) 133 (165, [(0, .ref 38)], [], M) (c_oneItem_Q fr X u l I A B C M) := by
    skip
    refine w_adv (n := 1) (F' := (166, [(0, .ref 38)], [.ref 38], M)) rfl ?_
    refine w_gf (v := .int (Int32.ofInt ((I 2437)))) hR rfl rfl rfl rfl ?_
    refine w_adv (n := 1) (F' := (171, [(0, .ref 38)], [.int (Int32.ofInt (7)), .int (Int32.ofInt ((I 2437)))], M)) rfl ?_
    refine w_br2 (a := (I 2437)) (b := 7) rfl rfl ⟨by omega, by omega⟩ ⟨by omega, by omega⟩ (fun h3 => ?_) (fun h3 => ?_)
    · have h3 : ¬ (I 2437) = 7 := h3
      show w_W _ _ _ (178, [(0, .ref 38)], [], M) _
      refine w_adv (n := 3) (F' := (181, [(1, .int (Int32.ofInt (0))), (0, .ref 38)], [.ref 38], M)) rfl ?_
      refine w_call (cm := 89) (as := [(0, .ref 38)]) (rest := []) (o := some (4, 38)) rfl (w_fitR hR rfl) ((hA d (Nat.lt_succ_self d)).1 hR (show 10 * (24 - (I 2439)) + 13 ≤ (d : Int) by omega) (show l ≤ 100000 by first | assumption | omega) (show (0 ≤ (I 2436) ∧ (I 2436) ≤ (I 773) ∧ (I 773) ≤ 1501 ∧ ((I 2437) = 0 ∨ (I 2436) < (I 773))) ∧ (0 ≤ (I 2439) ∧ (I 2439) ≤ 24 ∧ 0 ≤ (I 2117)) ∧ 0 ≤ (I 1670) ∧ (I 1670) ≤ 2 * (I 2436) + 1 by (repeat' apply And.intro) <;> first | assumption | omega)) (fun r4 M5 q6 => ?_)
      rcases q6 with ⟨v7, I6a, A6a, B6a, C6a, e8, ⟨r9, r10⟩, hR6a, f11, f12, f13, f14, f15⟩ | ⟨t16, I6b, A6b, B6b, C6b, e17, hR6b, f18, f19, f20⟩
      · rw [e8]
        replace hR6a : w_Rep w_TC fr X u l I6a A6a B6a C6a M5 := hR6a
        replace f11 : c_fi c_ps I I6a := f11
        replace f12 : c_fa c_pa A A6a := f12
        replace f13 : (0 ≤ (I6a 2436) ∧ (I6a 2436) ≤ (I6a 773) ∧ ((I6a 2437) = 0 ∨ (I6a 2436) < (I6a 773))) ∧ ((I6a 773) = (I 773) ∧ (I6a 2439) = (I 2439) ∧ 0 ≤ (I6a 2117)) ∧ (I 2436) + 1 ≤ (I6a 2436) ∧ (I6a 1670) + 1 ≤ (I 1670) + 2 * ((I6a 2436) - (I 2436)) ∧ (I 1670) ≤ (I6a 1670) := f13
        obtain ⟨⟨n21, n22, n23⟩, ⟨n24, n25, n26⟩, n27, n28, n29⟩ := id f13
        clear f13
        replace f14 : c_agl A A6a (I 1670) := f14
        replace f15 : c_Wn A6a (c_r (I 2439) 3) v7 (I 1670) (I6a 1670) := f15
        have g30 : c_agl A A6a (I 1670) := c_agl_trans c_agl_refl f14 (show (I 1670) ≤ (I 1670) by omega)
        have k31 : c_Wn A6a (c_r (I 2439) 3) v7 (I 1670) (I6a 1670) := c_Wn_up f15 (show c_r (I 2439) 3 ≤ c_r (I 2439) 3 by unfold c_r; omega)
        obtain ⟨b32, b33⟩ := c_W_in k31.1
        show w_W _ _ _ (184, [(1, .int (Int32.ofInt (0))), (0, .ref 38)], [.int (Int32.ofInt (v7))], M5) _
        refine w_adv (n := 2) (F' := (186, [(2, .int (Int32.ofInt (v7))), (1, .int (Int32.ofInt (0))), (0, .ref 38)], [.ref 38], M5)) rfl ?_
        refine w_gf (v := .int (Int32.ofInt ((I6a 2437)))) hR6a rfl rfl rfl rfl ?_
        obtain ⟨r34, r35⟩ : -2147483648 ≤ (I6a 2437) ∧ (I6a 2437) ≤ 2147483647 := hR6a.ri 2437
        refine w_adv (n := 1) (F' := (191, [(2, .int (Int32.ofInt (v7))), (1, .int (Int32.ofInt (0))), (0, .ref 38)], [.int (Int32.ofInt (12)), .int (Int32.ofInt ((I6a 2437)))], M5)) rfl ?_
        refine w_br2 (a := (I6a 2437)) (b := 12) rfl rfl ⟨by omega, by omega⟩ ⟨by omega, by omega⟩ (fun h36 => ?_) (fun h36 => ?_)
        · have h36 : ¬ (I6a 2437) = 12 := h36
          show w_W _ _ _ (214, [(2, .int (Int32.ofInt (v7))), (1, .int (Int32.ofInt (0))), (0, .ref 38)], [], M5) _
          refine w_adv (n := 4) (F' := (237, [(2, .int (Int32.ofInt (v7))), (1, .int (Int32.ofInt (0))), (0, .ref 38)], [.int (Int32.ofInt (1)), .ref 38], M5)) rfl ?_
          refine w_call (cm := 100) (as := [(0, .ref 38), (1, .int (Int32.ofInt (1)))]) (rest := []) (o := some (4, 38)) rfl (w_fitR hR6a rfl) (c_fail (1) hR6a ⟨by omega, by omega⟩ (show l ≤ 100000 by first | assumption | omega) (show 1 ≤ 1 ∧ 1 ≤ 7 by first | assumption | omega)) (fun r37 M38 q39 => ?_)
          rcases q39 with ⟨t40, I39a, A39a, B39a, C39a, e41, hR39a, f42, f43, f44⟩
          rw [e41]
          replace hR39a : w_Rep w_TC fr X (u + 6) (l + 64) I39a A39a B39a C39a M38 := hR39a
          replace f42 : c_fi c_ps I6a I39a := f42
          replace f43 : c_fa c_pa A6a A39a := f43
          replace f44 : M38.1[t40]? = some (.inr (11, [])) := f44
          exact Or.inr (⟨t40, I39a, A39a, B39a, C39a, rfl, hR39a, (show c_fi c_ps I I39a by exact (c_fi_trans f11 f42)), (show c_fa c_pa A A39a by exact (c_fa_trans f12 f43)), (show M38.1[t40]? = some (.inr (11, [])) by exact f44)⟩)
        · have h36 : ¬ (¬ (I6a 2437) = 12) := h36
          show w_W _ _ _ (194, [(2, .int (Int32.ofInt (v7))), (1, .int (Int32.ofInt (0))), (0, .ref 38)], [], M5) _
          refine w_adv (n := 1) (F' := (195, [(2, .int (Int32.ofInt (v7))), (1, .int (Int32.ofInt (0))), (0, .ref 38)], [.ref 38], M5)) rfl ?_
          refine w_call (cm := 80) (as := [(0, .ref 38)]) (rest := []) (o := some (4, 38)) rfl (w_fitR hR6a rfl) (c_advance hR6a (show 3 ≤ d by omega) (show l ≤ 100000 by first | assumption | omega) (show -1 ≤ (I6a 2436) ∧ (I6a 2436) < (I6a 773) ∧ (I6a 773) ≤ 1501 by first | assumption | omega)) (fun r45 M46 q47 => ?_)
          rcases q47 with ⟨zt48, zk49, zv50, e51, hR47a, f52⟩ | ⟨t53, I47b, A47b, B47b, C47b, e54, hR47b, f55, f56, f57⟩
          · rw [e51]
            replace hR47a : w_Rep w_TC fr X u l (w_up (w_up (w_up (w_up I6a 2436 ((I6a 2436) + 1)) 2441 (zt48)) 2437 (zk49)) 2438 (zv50)) A6a B6a C6a M46 := hR47a
            replace f52 : ((I6a 2436) + 1 < (I6a 773) ∨ zk49 = 0) := f52
            show w_W _ _ _ (198, [(2, .int (Int32.ofInt (v7))), (1, .int (Int32.ofInt (0))), (0, .ref 38)], [], M46) _
            refine w_adv (n := 1) (F' := (199, [(2, .int (Int32.ofInt (v7))), (1, .int (Int32.ofInt (0))), (0, .ref 38)], [.ref 38], M46)) rfl ?_
            refine w_gf (v := .ref 26) hR47a rfl rfl rfl rfl ?_
            refine w_adv (n := 3) (F' := (206, [(2, .int (Int32.ofInt (v7))), (1, .int (Int32.ofInt (0))), (0, .ref 38)], [.ref 38, .int (Int32.ofInt (v7)), .int (Int32.ofInt (23)), .ref 26], M46)) rfl ?_
            refine w_call (cm := 89) (as := [(0, .ref 38)]) (rest := [.int (Int32.ofInt (v7)), .int (Int32.ofInt (23)), .ref 26]) (o := some (4, 38)) rfl (w_fitR hR47a rfl) ((hA d (Nat.lt_succ_self d)).1 hR47a (show 10 * (24 - (I6a 2439)) + 13 ≤ (d : Int) by omega) (show l ≤ 100000 by first | assumption | omega) (show (0 ≤ (I6a 2436) + 1 ∧ (I6a 2436) + 1 ≤ (I6a 773) ∧ (I6a 773) ≤ 1501 ∧ (zk49 = 0 ∨ (I6a 2436) + 1 < (I6a 773))) ∧ (0 ≤ (I6a 2439) ∧ (I6a 2439) ≤ 24 ∧ 0 ≤ (I6a 2117)) ∧ 0 ≤ (I6a 1670) ∧ (I6a 1670) ≤ 2 * ((I6a 2436) + 1) + 1 by (repeat' apply And.intro) <;> first | assumption | omega)) (fun r58 M59 q60 => ?_)
            rcases q60 with ⟨v61, I60a, A60a, B60a, C60a, e62, ⟨r63, r64⟩, hR60a, f65, f66, f67, f68, f69⟩ | ⟨t70, I60b, A60b, B60b, C60b, e71, hR60b, f72, f73, f74⟩
            · rw [e62]
              replace hR60a : w_Rep w_TC fr X u l I60a A60a B60a C60a M59 := hR60a
              replace f65 : c_fi c_ps (w_up (w_up (w_up (w_up I6a 2436 ((I6a 2436) + 1)) 2441 (zt48)) 2437 (zk49)) 2438 (zv50)) I60a := f65
              replace f66 : c_fa c_pa A6a A60a := f66
              replace f67 : (0 ≤ (I60a 2436) ∧ (I60a 2436) ≤ (I60a 773) ∧ ((I60a 2437) = 0 ∨ (I60a 2436) < (I60a 773))) ∧ ((I60a 773) = (I6a 773) ∧ (I60a 2439) = (I6a 2439) ∧ 0 ≤ (I60a 2117)) ∧ ((I6a 2436) + 1) + 1 ≤ (I60a 2436) ∧ (I60a 1670) + 1 ≤ (I6a 1670) + 2 * ((I60a 2436) - ((I6a 2436) + 1)) ∧ (I6a 1670) ≤ (I60a 1670) := f67
              obtain ⟨⟨n75, n76, n77⟩, ⟨n78, n79, n80⟩, n81, n82, n83⟩ := id f67
              clear f67
              replace f68 : c_agl A6a A60a (I6a 1670) := f68
              replace f69 : c_Wn A60a (c_r (I6a 2439) 3) v61 (I6a 1670) (I60a 1670) := f69
              have k84 : c_Wn A60a (c_r (I 2439) 3) v7 (I 1670) (I6a 1670) := c_Wn_agl k31 f68 (show 0 ≤ (I 1670) by omega) (show (I6a 1670) ≤ (I6a 1670) by omega)
              clear k31
              have g85 : c_agl A A60a (I 1670) := c_agl_trans g30 f68 (show (I 1670) ≤ (I6a 1670) by omega)
              have k86 : c_Wn A60a (c_r (I 2439) 3) v61 (I6a 1670) (I60a 1670) := c_Wn_up f69 (show c_r (I6a 2439) 3 ≤ c_r (I 2439) 3 by unfold c_r; omega)
              obtain ⟨b87, b88⟩ := c_W_in k86.1
              show w_W _ _ _ (209, [(2, .int (Int32.ofInt (v7))), (1, .int (Int32.ofInt (0))), (0, .ref 38)], [.int (Int32.ofInt (v61)), .int (Int32.ofInt (v7)), .int (Int32.ofInt (23)), .ref 26], M59) _
              refine w_adv (n := 1) (F' := (210, [(2, .int (Int32.ofInt (v7))), (1, .int (Int32.ofInt (0))), (0, .ref 38)], [.int (Int32.ofInt ((-1))), .int (Int32.ofInt (v61)), .int (Int32.ofInt (v7)), .int (Int32.ofInt (23)), .ref 26], M59)) rfl ?_
              refine w_call (cm := 94) (as := [(0, .ref 26), (1, .int (Int32.ofInt (23))), (2, .int (Int32.ofInt (v7))), (3, .int (Int32.ofInt (v61))), (4, .int (Int32.ofInt ((-1))))]) (rest := []) (o := some (8, 26)) rfl (w_fitR hR60a rfl) (c_mkn (23) (v7) (v61) ((-1)) hR60a (show 2 ≤ d by omega) ⟨by omega, by omega⟩ ⟨by omega, by omega⟩ ⟨by omega, by omega⟩ ⟨by omega, by omega⟩ (show 0 ≤ (I60a 1670) ∧ (I60a 1670) < 3016 by first | assumption | omega)) (fun r89 M90 q91 => ?_)
              rcases q91 with ⟨A92, e93, hR91a, f94, f95⟩
              rw [e93]
              replace hR91a : w_Rep w_TC fr X u l (w_up I60a 1670 ((I60a 1670) + 1)) A92 B60a C60a M90 := hR91a
              replace f94 : c_fa c_pa A60a A92 := f94
              replace f95 : c_mk A60a A92 (I60a 1670) 23 v7 v61 (-1) := f95
              have k96 : c_Wn A92 (c_r (I 2439) 4) (I60a 1670) (I 1670) ((I60a 1670) + 1) := c_Wn_up ⟨c_W_23 f95 (show 0 ≤ (I 1670) by omega) k84.1 (c_Wn_win k86 (show (I6a 1670) ≤ (I6a 1670) by omega) (show (I60a 1670) ≤ (I60a 1670) by omega)).1, f95.2.2.2.2.2⟩ (show (c_r (I 2439) 3) + 1 ≤ (c_r (I 2439) 4) by unfold c_r; omega)
              have k97 : c_Wn A92 (c_r (I 2439) 3) v7 (I 1670) (I6a 1670) := c_Wn_agl k84 f95.1 (show 0 ≤ (I 1670) by omega) (show (I6a 1670) ≤ (I60a 1670) by omega)
              clear k84
              have k98 : c_Wn A92 (c_r (I 2439) 3) v61 (I6a 1670) (I60a 1670) := c_Wn_agl k86 f95.1 (show 0 ≤ (I6a 1670) by omega) (show (I60a 1670) ≤ (I60a 1670) by omega)
              clear k86
              have g99 : c_agl A A92 (I 1670) := c_agl_trans g85 f95.1 (show (I 1670) ≤ (I60a 1670) by omega)
              show w_W _ _ _ (213, [(2, .int (Int32.ofInt (v7))), (1, .int (Int32.ofInt (0))), (0, .ref 38)], [.int (Int32.ofInt ((I60a 1670)))], M90) _
              refine w_fin (r := .inl (some ((I60a 1670)))) (M' := M90) rfl ?_
              exact Or.inl ⟨(I60a 1670), (w_up I60a 1670 ((I60a 1670) + 1)), A92, B60a, C60a, rfl, ⟨by omega, by omega⟩, hR91a, (show c_fi c_ps I (w_up I60a 1670 ((I60a 1670) + 1)) by exact (c_fi_up (c_fi_trans (c_fi_up (c_fi_up (c_fi_up (c_fi_up f11 rfl) rfl) rfl) rfl) f65) rfl)), (show c_fa c_pa A A92 by exact (c_fa_trans (c_fa_trans f12 f66) f94)), (show (0 ≤ (I60a 2436) ∧ (I60a 2436) ≤ (I60a 773) ∧ ((I60a 2437) = 0 ∨ (I60a 2436) < (I60a 773))) ∧ ((I60a 773) = (I 773) ∧ (I60a 2439) = (I 2439) ∧ 0 ≤ (I60a 2117)) ∧ (I 2436) + 1 ≤ (I60a 2436) ∧ ((I60a 1670) + 1) + 1 ≤ (I 1670) + 2 * ((I60a 2436) - (I 2436)) ∧ (I 1670) ≤ (I60a 1670) + 1 by (repeat' apply And.intro) <;> first | assumption | omega), (show c_agl A A92 (I 1670) by exact g99), (show c_Wn A92 (c_r (I 2439) 4) (I60a 1670) (I 1670) ((I60a 1670) + 1) by exact c_Wn_win (c_Wn_up k96 (show c_r (I 2439) 4 ≤ c_r (I 2439) 4 by unfold c_r; omega)) (show (I 1670) ≤ (I 1670) by omega) (show ((I60a 1670) + 1) ≤ ((I60a 1670) + 1) by omega))⟩
            · rw [e71]
              replace hR60b : w_Rep w_TC fr X (u + 6) (l + 64) I60b A60b B60b C60b M59 := hR60b
              replace f72 : c_fi c_ps (w_up (w_up (w_up (w_up I6a 2436 ((I6a 2436) + 1)) 2441 (zt48)) 2437 (zk49)) 2438 (zv50)) I60b := f72
              replace f73 : c_fa c_pa A6a A60b := f73
              replace f74 : M59.1[t70]? = some (.inr (11, [])) := f74
              exact Or.inr (⟨t70, I60b, A60b, B60b, C60b, rfl, hR60b, (show c_fi c_ps I I60b by exact (c_fi_trans (c_fi_up (c_fi_up (c_fi_up (c_fi_up f11 rfl) rfl) rfl) rfl) f72)), (show c_fa c_pa A A60b by exact (c_fa_trans f12 f73)), (show M59.1[t70]? = some (.inr (11, [])) by exact f74)⟩)
          · rw [e54]
            replace hR47b : w_Rep w_TC fr X (u + 6) (l + 64) I47b A47b B47b C47b M46 := hR47b
            replace f55 : c_fi c_ps I6a I47b := f55
            replace f56 : c_fa c_pa A6a A47b := f56
            replace f57 : M46.1[t53]? = some (.inr (11, [])) := f57
            exact Or.inr (⟨t53, I47b, A47b, B47b, C47b, rfl, hR47b, (show c_fi c_ps I I47b by exact (c_fi_trans f11 f55)), (show c_fa c_pa A A47b by exact (c_fa_trans f12 f56)), (show M46.1[t53]? = some (.inr (11, [])) by exact f57)⟩)
      · rw [e17]
        replace hR6b : w_Rep w_TC fr X (u + 6) (l + 64) I6b A6b B6b C6b M5 := hR6b
        replace f18 : c_fi c_ps I I6b := f18
        replace f19 : c_fa c_pa A A6b := f19
        replace f20 : M5.1[t16]? = some (.inr (11, [])) := f20
        exact Or.inr (⟨t16, I6b, A6b, B6b, C6b, rfl, hR6b, (show c_fi c_ps I I6b by exact f18), (show c_fa c_pa A A6b by exact f19), (show M5.1[t16]? = some (.inr (11, [])) by exact f20)⟩)
    · have h3 : ¬ (¬ (I 2437) = 7) := h3
      show w_W _ _ _ (174, [(0, .ref 38)], [], M) _
      refine w_adv (n := 4) (F' := (181, [(1, .int (Int32.ofInt (1))), (0, .ref 38)], [.ref 38], M)) rfl ?_
      refine w_call (cm := 89) (as := [(0, .ref 38)]) (rest := []) (o := some (4, 38)) rfl (w_fitR hR rfl) ((hA d (Nat.lt_succ_self d)).1 hR (show 10 * (24 - (I 2439)) + 13 ≤ (d : Int) by omega) (show l ≤ 100000 by first | assumption | omega) (show (0 ≤ (I 2436) ∧ (I 2436) ≤ (I 773) ∧ (I 773) ≤ 1501 ∧ ((I 2437) = 0 ∨ (I 2436) < (I 773))) ∧ (0 ≤ (I 2439) ∧ (I 2439) ≤ 24 ∧ 0 ≤ (I 2117)) ∧ 0 ≤ (I 1670) ∧ (I 1670) ≤ 2 * (I 2436) + 1 by (repeat' apply And.intro) <;> first | assumption | omega)) (fun r100 M101 q102 => ?_)
      rcases q102 with ⟨v103, I102a, A102a, B102a, C102a, e104, ⟨r105, r106⟩, hR102a, f107, f108, f109, f110, f111⟩ | ⟨t112, I102b, A102b, B102b, C102b, e113, hR102b, f114, f115, f116⟩
      · rw [e104]
        replace hR102a : w_Rep w_TC fr X u l I102a A102a B102a C102a M101 := hR102a
        replace f107 : c_fi c_ps I I102a := f107
        replace f108 : c_fa c_pa A A102a := f108
        replace f109 : (0 ≤ (I102a 2436) ∧ (I102a 2436) ≤ (I102a 773) ∧ ((I102a 2437) = 0 ∨ (I102a 2436) < (I102a 773))) ∧ ((I102a 773) = (I 773) ∧ (I102a 2439) = (I 2439) ∧ 0 ≤ (I102a 2117)) ∧ (I 2436) + 1 ≤ (I102a 2436) ∧ (I102a 1670) + 1 ≤ (I 1670) + 2 * ((I102a 2436) - (I 2436)) ∧ (I 1670) ≤ (I102a 1670) := f109
        obtain ⟨⟨n117, n118, n119⟩, ⟨n120, n121, n122⟩, n123, n124, n125⟩ := id f109
        clear f109
        replace f110 : c_agl A A102a (I 1670) := f110
        replace f111 : c_Wn A102a (c_r (I 2439) 3) v103 (I 1670) (I102a 1670) := f111
        have g126 : c_agl A A102a (I 1670) := c_agl_trans c_agl_refl f110 (show (I 1670) ≤ (I 1670) by omega)
        have k127 : c_Wn A102a (c_r (I 2439) 3) v103 (I 1670) (I102a 1670) := c_Wn_up f111 (show c_r (I 2439) 3 ≤ c_r (I 2439) 3 by unfold c_r; omega)
        obtain ⟨b128, b129⟩ := c_W_in k127.1
        show w_W _ _ _ (184, [(1, .int (Int32.ofInt (1))), (0, .ref 38)], [.int (Int32.ofInt (v103))], M101) _
        refine w_adv (n := 2) (F' := (186, [(2, .int (Int32.ofInt (v103))), (1, .int (Int32.ofInt (1))), (0, .ref 38)], [.ref 38], M101)) rfl ?_
        refine w_gf (v := .int (Int32.ofInt ((I102a 2437)))) hR102a rfl rfl rfl rfl ?_
        obtain ⟨r130, r131⟩ : -2147483648 ≤ (I102a 2437) ∧ (I102a 2437) ≤ 2147483647 := hR102a.ri 2437
        refine w_adv (n := 1) (F' := (191, [(2, .int (Int32.ofInt (v103))), (1, .int (Int32.ofInt (1))), (0, .ref 38)], [.int (Int32.ofInt (12)), .int (Int32.ofInt ((I102a 2437)))], M101)) rfl ?_
        refine w_br2 (a := (I102a 2437)) (b := 12) rfl rfl ⟨by omega, by omega⟩ ⟨by omega, by omega⟩ (fun h132 => ?_) (fun h132 => ?_)
        · have h132 : ¬ (I102a 2437) = 12 := h132
          show w_W _ _ _ (214, [(2, .int (Int32.ofInt (v103))), (1, .int (Int32.ofInt (1))), (0, .ref 38)], [], M101) _
          refine w_adv (n := 3) (F' := (219, [(2, .int (Int32.ofInt (v103))), (1, .int (Int32.ofInt (1))), (0, .ref 38)], [.ref 38], M101)) rfl ?_
          refine w_gf (v := .ref 26) hR102a rfl rfl rfl rfl ?_
          refine w_adv (n := 1) (F' := (223, [(2, .int (Int32.ofInt (v103))), (1, .int (Int32.ofInt (1))), (0, .ref 38)], [.int (Int32.ofInt (v103)), .ref 26], M101)) rfl ?_
          refine w_call (cm := 135) (as := [(0, .ref 26), (1, .int (Int32.ofInt (v103)))]) (rest := []) (o := some (8, 26)) rfl (w_fitR hR102a rfl) (c_Tree_kind (v103) hR102a (show 2 ≤ d by omega) ⟨by omega, by omega⟩) (fun r133 M134 q135 => ?_)
          rcases q135 with ⟨v136, e137, ⟨r138, r139⟩, e140⟩
          rw [e137, e140]
          show w_W _ _ _ (226, [(2, .int (Int32.ofInt (v103))), (1, .int (Int32.ofInt (1))), (0, .ref 38)], [.int (Int32.ofInt (v136))], M101) _
          refine w_adv (n := 1) (F' := (228, [(2, .int (Int32.ofInt (v103))), (1, .int (Int32.ofInt (1))), (0, .ref 38)], [.int (Int32.ofInt (10)), .int (Int32.ofInt (v136))], M101)) rfl ?_
          refine w_br2 (a := v136) (b := 10) rfl rfl ⟨by omega, by omega⟩ ⟨by omega, by omega⟩ (fun h141 => ?_) (fun h141 => ?_)
          · have h141 : ¬ v136 = 10 := h141
            show w_W _ _ _ (235, [(2, .int (Int32.ofInt (v103))), (1, .int (Int32.ofInt (1))), (0, .ref 38)], [], M101) _
            refine w_adv (n := 2) (F' := (237, [(2, .int (Int32.ofInt (v103))), (1, .int (Int32.ofInt (1))), (0, .ref 38)], [.int (Int32.ofInt (1)), .ref 38], M101)) rfl ?_
            refine w_call (cm := 100) (as := [(0, .ref 38), (1, .int (Int32.ofInt (1)))]) (rest := []) (o := some (4, 38)) rfl (w_fitR hR102a rfl) (c_fail (1) hR102a ⟨by omega, by omega⟩ (show l ≤ 100000 by first | assumption | omega) (show 1 ≤ 1 ∧ 1 ≤ 7 by first | assumption | omega)) (fun r142 M143 q144 => ?_)
            rcases q144 with ⟨t145, I144a, A144a, B144a, C144a, e146, hR144a, f147, f148, f149⟩
            rw [e146]
            replace hR144a : w_Rep w_TC fr X (u + 6) (l + 64) I144a A144a B144a C144a M143 := hR144a
            replace f147 : c_fi c_ps I102a I144a := f147
            replace f148 : c_fa c_pa A102a A144a := f148
            replace f149 : M143.1[t145]? = some (.inr (11, [])) := f149
            exact Or.inr (⟨t145, I144a, A144a, B144a, C144a, rfl, hR144a, (show c_fi c_ps I I144a by exact (c_fi_trans f107 f147)), (show c_fa c_pa A A144a by exact (c_fa_trans f108 f148)), (show M143.1[t145]? = some (.inr (11, [])) by exact f149)⟩)
          · have h141 : ¬ (¬ v136 = 10) := h141
            show w_W _ _ _ (231, [(2, .int (Int32.ofInt (v103))), (1, .int (Int32.ofInt (1))), (0, .ref 38)], [], M101) _
            refine w_adv (n := 2) (F' := (240, [(2, .int (Int32.ofInt (v103))), (1, .int (Int32.ofInt (1))), (0, .ref 38)], [.int (Int32.ofInt (v103))], M101)) rfl ?_
            refine w_fin (r := .inl (some (v103))) (M' := M101) rfl ?_
            exact Or.inl ⟨v103, I102a, A102a, B102a, C102a, rfl, ⟨by omega, by omega⟩, hR102a, (show c_fi c_ps I I102a by exact f107), (show c_fa c_pa A A102a by exact f108), (show (0 ≤ (I102a 2436) ∧ (I102a 2436) ≤ (I102a 773) ∧ ((I102a 2437) = 0 ∨ (I102a 2436) < (I102a 773))) ∧ ((I102a 773) = (I 773) ∧ (I102a 2439) = (I 2439) ∧ 0 ≤ (I102a 2117)) ∧ (I 2436) + 1 ≤ (I102a 2436) ∧ (I102a 1670) + 1 ≤ (I 1670) + 2 * ((I102a 2436) - (I 2436)) ∧ (I 1670) ≤ (I102a 1670) by (repeat' apply And.intro) <;> first | assumption | omega), (show c_agl A A102a (I 1670) by exact g126), (show c_Wn A102a (c_r (I 2439) 4) v103 (I 1670) (I102a 1670) by exact c_Wn_win (c_Wn_up k127 (show c_r (I 2439) 3 ≤ c_r (I 2439) 4 by unfold c_r; omega)) (show (I 1670) ≤ (I 1670) by omega) (show (I102a 1670) ≤ (I102a 1670) by omega))⟩
        · have h132 : ¬ (¬ (I102a 2437) = 12) := h132
          show w_W _ _ _ (194, [(2, .int (Int32.ofInt (v103))), (1, .int (Int32.ofInt (1))), (0, .ref 38)], [], M101) _
          refine w_adv (n := 1) (F' := (195, [(2, .int (Int32.ofInt (v103))), (1, .int (Int32.ofInt (1))), (0, .ref 38)], [.ref 38], M101)) rfl ?_
          refine w_call (cm := 80) (as := [(0, .ref 38)]) (rest := []) (o := some (4, 38)) rfl (w_fitR hR102a rfl) (c_advance hR102a (show 3 ≤ d by omega) (show l ≤ 100000 by first | assumption | omega) (show -1 ≤ (I102a 2436) ∧ (I102a 2436) < (I102a 773) ∧ (I102a 773) ≤ 1501 by first | assumption | omega)) (fun r150 M151 q152 => ?_)
          rcases q152 with ⟨zt153, zk154, zv155, e156, hR152a, f157⟩ | ⟨t158, I152b, A152b, B152b, C152b, e159, hR152b, f160, f161, f162⟩
          · rw [e156]
            replace hR152a : w_Rep w_TC fr X u l (w_up (w_up (w_up (w_up I102a 2436 ((I102a 2436) + 1)) 2441 (zt153)) 2437 (zk154)) 2438 (zv155)) A102a B102a C102a M151 := hR152a
            replace f157 : ((I102a 2436) + 1 < (I102a 773) ∨ zk154 = 0) := f157
            show w_W _ _ _ (198, [(2, .int (Int32.ofInt (v103))), (1, .int (Int32.ofInt (1))), (0, .ref 38)], [], M151) _
            refine w_adv (n := 1) (F' := (199, [(2, .int (Int32.ofInt (v103))), (1, .int (Int32.ofInt (1))), (0, .ref 38)], [.ref 38], M151)) rfl ?_
            refine w_gf (v := .ref 26) hR152a rfl rfl rfl rfl ?_
            refine w_adv (n := 3) (F' := (206, [(2, .int (Int32.ofInt (v103))), (1, .int (Int32.ofInt (1))), (0, .ref 38)], [.ref 38, .int (Int32.ofInt (v103)), .int (Int32.ofInt (23)), .ref 26], M151)) rfl ?_
            refine w_call (cm := 89) (as := [(0, .ref 38)]) (rest := [.int (Int32.ofInt (v103)), .int (Int32.ofInt (23)), .ref 26]) (o := some (4, 38)) rfl (w_fitR hR152a rfl) ((hA d (Nat.lt_succ_self d)).1 hR152a (show 10 * (24 - (I102a 2439)) + 13 ≤ (d : Int) by omega) (show l ≤ 100000 by first | assumption | omega) (show (0 ≤ (I102a 2436) + 1 ∧ (I102a 2436) + 1 ≤ (I102a 773) ∧ (I102a 773) ≤ 1501 ∧ (zk154 = 0 ∨ (I102a 2436) + 1 < (I102a 773))) ∧ (0 ≤ (I102a 2439) ∧ (I102a 2439) ≤ 24 ∧ 0 ≤ (I102a 2117)) ∧ 0 ≤ (I102a 1670) ∧ (I102a 1670) ≤ 2 * ((I102a 2436) + 1) + 1 by (repeat' apply And.intro) <;> first | assumption | omega)) (fun r163 M164 q165 => ?_)
            rcases q165 with ⟨v166, I165a, A165a, B165a, C165a, e167, ⟨r168, r169⟩, hR165a, f170, f171, f172, f173, f174⟩ | ⟨t175, I165b, A165b, B165b, C165b, e176, hR165b, f177, f178, f179⟩
            · rw [e167]
              replace hR165a : w_Rep w_TC fr X u l I165a A165a B165a C165a M164 := hR165a
              replace f170 : c_fi c_ps (w_up (w_up (w_up (w_up I102a 2436 ((I102a 2436) + 1)) 2441 (zt153)) 2437 (zk154)) 2438 (zv155)) I165a := f170
              replace f171 : c_fa c_pa A102a A165a := f171
              replace f172 : (0 ≤ (I165a 2436) ∧ (I165a 2436) ≤ (I165a 773) ∧ ((I165a 2437) = 0 ∨ (I165a 2436) < (I165a 773))) ∧ ((I165a 773) = (I102a 773) ∧ (I165a 2439) = (I102a 2439) ∧ 0 ≤ (I165a 2117)) ∧ ((I102a 2436) + 1) + 1 ≤ (I165a 2436) ∧ (I165a 1670) + 1 ≤ (I102a 1670) + 2 * ((I165a 2436) - ((I102a 2436) + 1)) ∧ (I102a 1670) ≤ (I165a 1670) := f172
              obtain ⟨⟨n180, n181, n182⟩, ⟨n183, n184, n185⟩, n186, n187, n188⟩ := id f172
              clear f172
              replace f173 : c_agl A102a A165a (I102a 1670) := f173
              replace f174 : c_Wn A165a (c_r (I102a 2439) 3) v166 (I102a 1670) (I165a 1670) := f174
              have k189 : c_Wn A165a (c_r (I 2439) 3) v103 (I 1670) (I102a 1670) := c_Wn_agl k127 f173 (show 0 ≤ (I 1670) by omega) (show (I102a 1670) ≤ (I102a 1670) by omega)
              clear k127
              have g190 : c_agl A A165a (I 1670) := c_agl_trans g126 f173 (show (I 1670) ≤ (I102a 1670) by omega)
              have k191 : c_Wn A165a (c_r (I 2439) 3) v166 (I102a 1670) (I165a 1670) := c_Wn_up f174 (show c_r (I102a 2439) 3 ≤ c_r (I 2439) 3 by unfold c_r; omega)
              obtain ⟨b192, b193⟩ := c_W_in k191.1
              show w_W _ _ _ (209, [(2, .int (Int32.ofInt (v103))), (1, .int (Int32.ofInt (1))), (0, .ref 38)], [.int (Int32.ofInt (v166)), .int (Int32.ofInt (v103)), .int (Int32.ofInt (23)), .ref 26], M164) _
              refine w_adv (n := 1) (F' := (210, [(2, .int (Int32.ofInt (v103))), (1, .int (Int32.ofInt (1))), (0, .ref 38)], [.int (Int32.ofInt ((-1))), .int (Int32.ofInt (v166)), .int (Int32.ofInt (v103)), .int (Int32.ofInt (23)), .ref 26], M164)) rfl ?_
              refine w_call (cm := 94) (as := [(0, .ref 26), (1, .int (Int32.ofInt (23))), (2, .int (Int32.ofInt (v103))), (3, .int (Int32.ofInt (v166))), (4, .int (Int32.ofInt ((-1))))]) (rest := []) (o := some (8, 26)) rfl (w_fitR hR165a rfl) (c_mkn (23) (v103) (v166) ((-1)) hR165a (show 2 ≤ d by omega) ⟨by omega, by omega⟩ ⟨by omega, by omega⟩ ⟨by omega, by omega⟩ ⟨by omega, by omega⟩ (show 0 ≤ (I165a 1670) ∧ (I165a 1670) < 3016 by first | assumption | omega)) (fun r194 M195 q196 => ?_)
              rcases q196 with ⟨A197, e198, hR196a, f199, f200⟩
              rw [e198]
              replace hR196a : w_Rep w_TC fr X u l (w_up I165a 1670 ((I165a 1670) + 1)) A197 B165a C165a M195 := hR196a
              replace f199 : c_fa c_pa A165a A197 := f199
              replace f200 : c_mk A165a A197 (I165a 1670) 23 v103 v166 (-1) := f200
              have k201 : c_Wn A197 (c_r (I 2439) 4) (I165a 1670) (I 1670) ((I165a 1670) + 1) := c_Wn_up ⟨c_W_23 f200 (show 0 ≤ (I 1670) by omega) k189.1 (c_Wn_win k191 (show (I102a 1670) ≤ (I102a 1670) by omega) (show (I165a 1670) ≤ (I165a 1670) by omega)).1, f200.2.2.2.2.2⟩ (show (c_r (I 2439) 3) + 1 ≤ (c_r (I 2439) 4) by unfold c_r; omega)
              have k202 : c_Wn A197 (c_r (I 2439) 3) v103 (I 1670) (I102a 1670) := c_Wn_agl k189 f200.1 (show 0 ≤ (I 1670) by omega) (show (I102a 1670) ≤ (I165a 1670) by omega)
              clear k189
              have k203 : c_Wn A197 (c_r (I 2439) 3) v166 (I102a 1670) (I165a 1670) := c_Wn_agl k191 f200.1 (show 0 ≤ (I102a 1670) by omega) (show (I165a 1670) ≤ (I165a 1670) by omega)
              clear k191
              have g204 : c_agl A A197 (I 1670) := c_agl_trans g190 f200.1 (show (I 1670) ≤ (I165a 1670) by omega)
              show w_W _ _ _ (213, [(2, .int (Int32.ofInt (v103))), (1, .int (Int32.ofInt (1))), (0, .ref 38)], [.int (Int32.ofInt ((I165a 1670)))], M195) _
              refine w_fin (r := .inl (some ((I165a 1670)))) (M' := M195) rfl ?_
              exact Or.inl ⟨(I165a 1670), (w_up I165a 1670 ((I165a 1670) + 1)), A197, B165a, C165a, rfl, ⟨by omega, by omega⟩, hR196a, (show c_fi c_ps I (w_up I165a 1670 ((I165a 1670) + 1)) by exact (c_fi_up (c_fi_trans (c_fi_up (c_fi_up (c_fi_up (c_fi_up f107 rfl) rfl) rfl) rfl) f170) rfl)), (show c_fa c_pa A A197 by exact (c_fa_trans (c_fa_trans f108 f171) f199)), (show (0 ≤ (I165a 2436) ∧ (I165a 2436) ≤ (I165a 773) ∧ ((I165a 2437) = 0 ∨ (I165a 2436) < (I165a 773))) ∧ ((I165a 773) = (I 773) ∧ (I165a 2439) = (I 2439) ∧ 0 ≤ (I165a 2117)) ∧ (I 2436) + 1 ≤ (I165a 2436) ∧ ((I165a 1670) + 1) + 1 ≤ (I 1670) + 2 * ((I165a 2436) - (I 2436)) ∧ (I 1670) ≤ (I165a 1670) + 1 by (repeat' apply And.intro) <;> first | assumption | omega), (show c_agl A A197 (I 1670) by exact g204), (show c_Wn A197 (c_r (I 2439) 4) (I165a 1670) (I 1670) ((I165a 1670) + 1) by exact c_Wn_win (c_Wn_up k201 (show c_r (I 2439) 4 ≤ c_r (I 2439) 4 by unfold c_r; omega)) (show (I 1670) ≤ (I 1670) by omega) (show ((I165a 1670) + 1) ≤ ((I165a 1670) + 1) by omega))⟩
            · rw [e176]
              replace hR165b : w_Rep w_TC fr X (u + 6) (l + 64) I165b A165b B165b C165b M164 := hR165b
              replace f177 : c_fi c_ps (w_up (w_up (w_up (w_up I102a 2436 ((I102a 2436) + 1)) 2441 (zt153)) 2437 (zk154)) 2438 (zv155)) I165b := f177
              replace f178 : c_fa c_pa A102a A165b := f178
              replace f179 : M164.1[t175]? = some (.inr (11, [])) := f179
              exact Or.inr (⟨t175, I165b, A165b, B165b, C165b, rfl, hR165b, (show c_fi c_ps I I165b by exact (c_fi_trans (c_fi_up (c_fi_up (c_fi_up (c_fi_up f107 rfl) rfl) rfl) rfl) f177)), (show c_fa c_pa A A165b by exact (c_fa_trans f108 f178)), (show M164.1[t175]? = some (.inr (11, [])) by exact f179)⟩)
          · rw [e159]
            replace hR152b : w_Rep w_TC fr X (u + 6) (l + 64) I152b A152b B152b C152b M151 := hR152b
            replace f160 : c_fi c_ps I102a I152b := f160
            replace f161 : c_fa c_pa A102a A152b := f161
            replace f162 : M151.1[t158]? = some (.inr (11, [])) := f162
            exact Or.inr (⟨t158, I152b, A152b, B152b, C152b, rfl, hR152b, (show c_fi c_ps I I152b by exact (c_fi_trans f107 f160)), (show c_fa c_pa A A152b by exact (c_fa_trans f108 f161)), (show M151.1[t158]? = some (.inr (11, [])) by exact f162)⟩)
      · rw [e113]
        replace hR102b : w_Rep w_TC fr X (u + 6) (l + 64) I102b A102b B102b C102b M101 := hR102b
        replace f114 : c_fi c_ps I I102b := f114
        replace f115 : c_fa c_pa A A102b := f115
        replace f116 : M101.1[t112]? = some (.inr (11, [])) := f116
        exact Or.inr (⟨t112, I102b, A102b, B102b, C102b, rfl, hR102b, (show c_fi c_ps I I102b by exact f114), (show c_fa c_pa A A102b by exact f115), (show M101.1[t112]? = some (.inr (11, [])) by exact f116)⟩)
  rcases (show ((I 2437) < 21 ∨ 37 < (I 2437)) ∨ (I 2437) = 21 ∨ (I 2437) = 22 ∨ (I 2437) = 23 ∨ (I 2437) = 24 ∨ (I 2437) = 25 ∨ (I 2437) = 26 ∨ (I 2437) = 27 ∨ (I 2437) = 28 ∨ (I 2437) = 29 ∨ (I 2437) = 30 ∨ (I 2437) = 31 ∨ (I 2437) = 32 ∨ (I 2437) = 33 ∨ (I 2437) = 34 ∨ (I 2437) = 35 ∨ (I 2437) = 36 ∨ (I 2437) = 37 by omega) with h205 | h205 | h205 | h205 | h205 | h205 | h205 | h205 | h205 | h205 | h205 | h205 | h205 | h205 | h205 | h205 | h205 | h205
  · refine w_swd rfl ⟨by omega, by omega⟩ h205 rfl ?_
    show w_W _ _ _ (165, [(0, .ref 38)], [], M) _
    exact jn165   
  · refine w_sw (v := 21) (F' := (88, [(0, .ref 38)], [], M)) h205 rfl rfl ?_
    refine w_adv (n := 3) (F' := (92, [(0, .ref 38)], [.int (Int32.ofInt ((-1))), .int (Int32.ofInt (24)), .ref 38], M)) rfl ?_
    refine w_call (cm := 93) (as := [(0, .ref 38), (1, .int (Int32.ofInt (24))), (2, .int (Int32.ofInt ((-1))))]) (rest := []) (o := some (4, 38)) rfl (w_fitR hR rfl) (c_leaf (24) ((-1)) hR (show 5 ≤ d by omega) ⟨by omega, by omega⟩ ⟨by omega, by omega⟩ (show l ≤ 100000 by first | assumption | omega) (show (0 ≤ (I 2436) ∧ (I 2436) ≤ (I 773) ∧ (I 773) ≤ 1501 ∧ ((I 2437) = 0 ∨ (I 2436) < (I 773))) ∧ (0 ≤ (I 2439) ∧ (I 2439) ≤ 24 ∧ 0 ≤ (I 2117)) ∧ 0 ≤ (I 1670) ∧ (I 1670) ≤ 2 * (I 2436) + 1 by (repeat' apply And.intro) <;> first | assumption | omega) (show ¬ (I 2437) = 0 by first | assumption | omega) (show 24 = 1 ∨ 24 = 2 ∨ 24 = 3 ∨ 24 = 4 ∨ 24 = 24 by first | assumption | omega)) (fun r206 M207 q208 => ?_)
    rcases q208 with ⟨v209, I208a, A208a, B208a, C208a, e210, ⟨r211, r212⟩, hR208a, f213, f214, f215, f216, f217⟩ | ⟨t218, I208b, A208b, B208b, C208b, e219, hR208b, f220, f221, f222⟩
    · rw [e210]
      replace hR208a : w_Rep w_TC fr X u l I208a A208a B208a C208a M207 := hR208a
      replace f213 : c_fi c_ps I I208a := f213
      replace f214 : c_fa c_pa A A208a := f214
      replace f215 : (0 ≤ (I208a 2436) ∧ (I208a 2436) ≤ (I208a 773) ∧ ((I208a 2437) = 0 ∨ (I208a 2436) < (I208a 773))) ∧ ((I208a 773) = (I 773) ∧ (I208a 2439) = (I 2439) ∧ 0 ≤ (I208a 2117)) ∧ (I 2436) + 1 ≤ (I208a 2436) ∧ (I208a 1670) + 1 ≤ (I 1670) + 2 * ((I208a 2436) - (I 2436)) ∧ (I 1670) ≤ (I208a 1670) := f215
      obtain ⟨⟨n223, n224, n225⟩, ⟨n226, n227, n228⟩, n229, n230, n231⟩ := id f215
      clear f215
      replace f216 : c_agl A A208a (I 1670) := f216
      replace f217 : c_Wn A208a (c_r (I 2439) 1) v209 (I 1670) (I208a 1670) := f217
      have g232 : c_agl A A208a (I 1670) := c_agl_trans c_agl_refl f216 (show (I 1670) ≤ (I 1670) by omega)
      have k233 : c_Wn A208a (c_r (I 2439) 3) v209 (I 1670) (I208a 1670) := c_Wn_up f217 (show c_r (I 2439) 1 ≤ c_r (I 2439) 3 by unfold c_r; omega)
      obtain ⟨b234, b235⟩ := c_W_in k233.1
      show w_W _ _ _ (95, [(0, .ref 38)], [.int (Int32.ofInt (v209))], M207) _
      refine w_fin (r := .inl (some (v209))) (M' := M207) rfl ?_
      exact Or.inl ⟨v209, I208a, A208a, B208a, C208a, rfl, ⟨by omega, by omega⟩, hR208a, (show c_fi c_ps I I208a by exact f213), (show c_fa c_pa A A208a by exact f214), (show (0 ≤ (I208a 2436) ∧ (I208a 2436) ≤ (I208a 773) ∧ ((I208a 2437) = 0 ∨ (I208a 2436) < (I208a 773))) ∧ ((I208a 773) = (I 773) ∧ (I208a 2439) = (I 2439) ∧ 0 ≤ (I208a 2117)) ∧ (I 2436) + 1 ≤ (I208a 2436) ∧ (I208a 1670) + 1 ≤ (I 1670) + 2 * ((I208a 2436) - (I 2436)) ∧ (I 1670) ≤ (I208a 1670) by (repeat' apply And.intro) <;> first | assumption | omega), (show c_agl A A208a (I 1670) by exact g232), (show c_Wn A208a (c_r (I 2439) 4) v209 (I 1670) (I208a 1670) by exact c_Wn_win (c_Wn_up k233 (show c_r (I 2439) 3 ≤ c_r (I 2439) 4 by unfold c_r; omega)) (show (I 1670) ≤ (I 1670) by omega) (show (I208a 1670) ≤ (I208a 1670) by omega))⟩
    · rw [e219]
      replace hR208b : w_Rep w_TC fr X (u + 6) (l + 64) I208b A208b B208b C208b M207 := hR208b
      replace f220 : c_fi c_ps I I208b := f220
      replace f221 : c_fa c_pa A A208b := f221
      replace f222 : M207.1[t218]? = some (.inr (11, [])) := f222
      exact Or.inr (⟨t218, I208b, A208b, B208b, C208b, rfl, hR208b, (show c_fi c_ps I I208b by exact f220), (show c_fa c_pa A A208b by exact f221), (show M207.1[t218]? = some (.inr (11, [])) by exact f222)⟩)
  · refine w_sw (v := 22) (F' := (96, [(0, .ref 38)], [], M)) h205 rfl rfl ?_
    refine w_adv (n := 2) (F' := (98, [(0, .ref 38)], [.int (Int32.ofInt (0)), .ref 38], M)) rfl ?_
    refine w_call (cm := 122) (as := [(0, .ref 38), (1, .int (Int32.ofInt (0)))]) (rest := []) (o := some (4, 38)) rfl (w_fitR hR rfl) (c_local (c_ALL_dn hA) (0) hR (show 10 * (24 - (I 2439)) + 9 ≤ (d : Int) by omega) ⟨by omega, by omega⟩ (show l ≤ 100000 by first | assumption | omega) (show (0 ≤ (I 2436) ∧ (I 2436) ≤ (I 773) ∧ (I 773) ≤ 1501 ∧ ((I 2437) = 0 ∨ (I 2436) < (I 773))) ∧ (0 ≤ (I 2439) ∧ (I 2439) ≤ 24 ∧ 0 ≤ (I 2117)) ∧ 0 ≤ (I 1670) ∧ (I 1670) ≤ 2 * (I 2436) + 1 by (repeat' apply And.intro) <;> first | assumption | omega) (show ¬ (I 2437) = 0 by first | assumption | omega)) (fun r236 M237 q238 => ?_)
    rcases q238 with ⟨v239, I238a, A238a, B238a, C238a, e240, ⟨r241, r242⟩, hR238a, f243, f244, f245, f246, f247⟩ | ⟨t248, I238b, A238b, B238b, C238b, e249, hR238b, f250, f251, f252⟩
    · rw [e240]
      replace hR238a : w_Rep w_TC fr X u l I238a A238a B238a C238a M237 := hR238a
      replace f243 : c_fi c_ps I I238a := f243
      replace f244 : c_fa c_pa A A238a := f244
      replace f245 : (0 ≤ (I238a 2436) ∧ (I238a 2436) ≤ (I238a 773) ∧ ((I238a 2437) = 0 ∨ (I238a 2436) < (I238a 773))) ∧ ((I238a 773) = (I 773) ∧ (I238a 2439) = (I 2439) ∧ 0 ≤ (I238a 2117)) ∧ (I 2436) + 1 ≤ (I238a 2436) ∧ (I238a 1670) + 1 ≤ (I 1670) + 2 * ((I238a 2436) - (I 2436)) ∧ (I 1670) ≤ (I238a 1670) := f245
      obtain ⟨⟨n253, n254, n255⟩, ⟨n256, n257, n258⟩, n259, n260, n261⟩ := id f245
      clear f245
      replace f246 : c_agl A A238a (I 1670) := f246
      replace f247 : c_Wn A238a (c_r (I 2439) 1) v239 (I 1670) (I238a 1670) := f247
      have g262 : c_agl A A238a (I 1670) := c_agl_trans c_agl_refl f246 (show (I 1670) ≤ (I 1670) by omega)
      have k263 : c_Wn A238a (c_r (I 2439) 3) v239 (I 1670) (I238a 1670) := c_Wn_up f247 (show c_r (I 2439) 1 ≤ c_r (I 2439) 3 by unfold c_r; omega)
      obtain ⟨b264, b265⟩ := c_W_in k263.1
      show w_W _ _ _ (101, [(0, .ref 38)], [.int (Int32.ofInt (v239))], M237) _
      refine w_fin (r := .inl (some (v239))) (M' := M237) rfl ?_
      exact Or.inl ⟨v239, I238a, A238a, B238a, C238a, rfl, ⟨by omega, by omega⟩, hR238a, (show c_fi c_ps I I238a by exact f243), (show c_fa c_pa A A238a by exact f244), (show (0 ≤ (I238a 2436) ∧ (I238a 2436) ≤ (I238a 773) ∧ ((I238a 2437) = 0 ∨ (I238a 2436) < (I238a 773))) ∧ ((I238a 773) = (I 773) ∧ (I238a 2439) = (I 2439) ∧ 0 ≤ (I238a 2117)) ∧ (I 2436) + 1 ≤ (I238a 2436) ∧ (I238a 1670) + 1 ≤ (I 1670) + 2 * ((I238a 2436) - (I 2436)) ∧ (I 1670) ≤ (I238a 1670) by (repeat' apply And.intro) <;> first | assumption | omega), (show c_agl A A238a (I 1670) by exact g262), (show c_Wn A238a (c_r (I 2439) 4) v239 (I 1670) (I238a 1670) by exact c_Wn_win (c_Wn_up k263 (show c_r (I 2439) 3 ≤ c_r (I 2439) 4 by unfold c_r; omega)) (show (I 1670) ≤ (I 1670) by omega) (show (I238a 1670) ≤ (I238a 1670) by omega))⟩
    · rw [e249]
      replace hR238b : w_Rep w_TC fr X (u + 6) (l + 64) I238b A238b B238b C238b M237 := hR238b
      replace f250 : c_fi c_ps I I238b := f250
      replace f251 : c_fa c_pa A A238b := f251
      replace f252 : M237.1[t248]? = some (.inr (11, [])) := f252
      exact Or.inr (⟨t248, I238b, A238b, B238b, C238b, rfl, hR238b, (show c_fi c_ps I I238b by exact f250), (show c_fa c_pa A A238b by exact f251), (show M237.1[t248]? = some (.inr (11, [])) by exact f252)⟩)
  · refine w_sw (v := 23) (F' := (165, [(0, .ref 38)], [], M)) h205 rfl rfl ?_
    exact jn165   
  · refine w_sw (v := 24) (F' := (165, [(0, .ref 38)], [], M)) h205 rfl rfl ?_
    exact jn165   
  · refine w_sw (v := 25) (F' := (102, [(0, .ref 38)], [], M)) h205 rfl rfl ?_
    refine w_adv (n := 2) (F' := (104, [(0, .ref 38)], [.int (Int32.ofInt (0)), .ref 38], M)) rfl ?_
    refine w_call (cm := 123) (as := [(0, .ref 38), (1, .int (Int32.ofInt (0)))]) (rest := []) (o := some (4, 38)) rfl (w_fitR hR rfl) (c_choice (c_ALL_dn hA) (0) hR (show 10 * (24 - (I 2439)) + 9 ≤ (d : Int) by omega) ⟨by omega, by omega⟩ (show l ≤ 100000 by first | assumption | omega) (show (0 ≤ (I 2436) ∧ (I 2436) ≤ (I 773) ∧ (I 773) ≤ 1501 ∧ ((I 2437) = 0 ∨ (I 2436) < (I 773))) ∧ (0 ≤ (I 2439) ∧ (I 2439) ≤ 24 ∧ 0 ≤ (I 2117)) ∧ 0 ≤ (I 1670) ∧ (I 1670) ≤ 2 * (I 2436) + 1 by (repeat' apply And.intro) <;> first | assumption | omega) (show ¬ (I 2437) = 0 by first | assumption | omega)) (fun r266 M267 q268 => ?_)
    rcases q268 with ⟨v269, I268a, A268a, B268a, C268a, e270, ⟨r271, r272⟩, hR268a, f273, f274, f275, f276, f277⟩ | ⟨t278, I268b, A268b, B268b, C268b, e279, hR268b, f280, f281, f282⟩
    · rw [e270]
      replace hR268a : w_Rep w_TC fr X u l I268a A268a B268a C268a M267 := hR268a
      replace f273 : c_fi c_ps I I268a := f273
      replace f274 : c_fa c_pa A A268a := f274
      replace f275 : (0 ≤ (I268a 2436) ∧ (I268a 2436) ≤ (I268a 773) ∧ ((I268a 2437) = 0 ∨ (I268a 2436) < (I268a 773))) ∧ ((I268a 773) = (I 773) ∧ (I268a 2439) = (I 2439) ∧ 0 ≤ (I268a 2117)) ∧ (I 2436) + 1 ≤ (I268a 2436) ∧ (I268a 1670) + 1 ≤ (I 1670) + 2 * ((I268a 2436) - (I 2436)) ∧ (I 1670) ≤ (I268a 1670) := f275
      obtain ⟨⟨n283, n284, n285⟩, ⟨n286, n287, n288⟩, n289, n290, n291⟩ := id f275
      clear f275
      replace f276 : c_agl A A268a (I 1670) := f276
      replace f277 : c_Wn A268a (c_r (I 2439) 1) v269 (I 1670) (I268a 1670) := f277
      have g292 : c_agl A A268a (I 1670) := c_agl_trans c_agl_refl f276 (show (I 1670) ≤ (I 1670) by omega)
      have k293 : c_Wn A268a (c_r (I 2439) 3) v269 (I 1670) (I268a 1670) := c_Wn_up f277 (show c_r (I 2439) 1 ≤ c_r (I 2439) 3 by unfold c_r; omega)
      obtain ⟨b294, b295⟩ := c_W_in k293.1
      show w_W _ _ _ (107, [(0, .ref 38)], [.int (Int32.ofInt (v269))], M267) _
      refine w_fin (r := .inl (some (v269))) (M' := M267) rfl ?_
      exact Or.inl ⟨v269, I268a, A268a, B268a, C268a, rfl, ⟨by omega, by omega⟩, hR268a, (show c_fi c_ps I I268a by exact f273), (show c_fa c_pa A A268a by exact f274), (show (0 ≤ (I268a 2436) ∧ (I268a 2436) ≤ (I268a 773) ∧ ((I268a 2437) = 0 ∨ (I268a 2436) < (I268a 773))) ∧ ((I268a 773) = (I 773) ∧ (I268a 2439) = (I 2439) ∧ 0 ≤ (I268a 2117)) ∧ (I 2436) + 1 ≤ (I268a 2436) ∧ (I268a 1670) + 1 ≤ (I 1670) + 2 * ((I268a 2436) - (I 2436)) ∧ (I 1670) ≤ (I268a 1670) by (repeat' apply And.intro) <;> first | assumption | omega), (show c_agl A A268a (I 1670) by exact g292), (show c_Wn A268a (c_r (I 2439) 4) v269 (I 1670) (I268a 1670) by exact c_Wn_win (c_Wn_up k293 (show c_r (I 2439) 3 ≤ c_r (I 2439) 4 by unfold c_r; omega)) (show (I 1670) ≤ (I 1670) by omega) (show (I268a 1670) ≤ (I268a 1670) by omega))⟩
    · rw [e279]
      replace hR268b : w_Rep w_TC fr X (u + 6) (l + 64) I268b A268b B268b C268b M267 := hR268b
      replace f280 : c_fi c_ps I I268b := f280
      replace f281 : c_fa c_pa A A268b := f281
      replace f282 : M267.1[t278]? = some (.inr (11, [])) := f282
      exact Or.inr (⟨t278, I268b, A268b, B268b, C268b, rfl, hR268b, (show c_fi c_ps I I268b by exact f280), (show c_fa c_pa A A268b by exact f281), (show M267.1[t278]? = some (.inr (11, [])) by exact f282)⟩)
  · refine w_sw (v := 26) (F' := (165, [(0, .ref 38)], [], M)) h205 rfl rfl ?_
    exact jn165   
  · refine w_sw (v := 27) (F' := (165, [(0, .ref 38)], [], M)) h205 rfl rfl ?_
    exact jn165   
  · refine w_sw (v := 28) (F' := (108, [(0, .ref 38)], [], M)) h205 rfl rfl ?_
    refine w_adv (n := 2) (F' := (110, [(0, .ref 38)], [.int (Int32.ofInt (0)), .ref 38], M)) rfl ?_
    refine w_call (cm := 125) (as := [(0, .ref 38), (1, .int (Int32.ofInt (0)))]) (rest := []) (o := some (4, 38)) rfl (w_fitR hR rfl) (c_cases (c_ALL_dn hA) (0) hR (show 10 * (24 - (I 2439)) + 9 ≤ (d : Int) by omega) ⟨by omega, by omega⟩ (show l ≤ 100000 by first | assumption | omega) (show (0 ≤ (I 2436) ∧ (I 2436) ≤ (I 773) ∧ (I 773) ≤ 1501 ∧ ((I 2437) = 0 ∨ (I 2436) < (I 773))) ∧ (0 ≤ (I 2439) ∧ (I 2439) ≤ 24 ∧ 0 ≤ (I 2117)) ∧ 0 ≤ (I 1670) ∧ (I 1670) ≤ 2 * (I 2436) + 1 by (repeat' apply And.intro) <;> first | assumption | omega) (show ¬ (I 2437) = 0 by first | assumption | omega)) (fun r296 M297 q298 => ?_)
    rcases q298 with ⟨v299, I298a, A298a, B298a, C298a, e300, ⟨r301, r302⟩, hR298a, f303, f304, f305, f306, f307⟩ | ⟨t308, I298b, A298b, B298b, C298b, e309, hR298b, f310, f311, f312⟩
    · rw [e300]
      replace hR298a : w_Rep w_TC fr X u l I298a A298a B298a C298a M297 := hR298a
      replace f303 : c_fi c_ps I I298a := f303
      replace f304 : c_fa c_pa A A298a := f304
      replace f305 : (0 ≤ (I298a 2436) ∧ (I298a 2436) ≤ (I298a 773) ∧ ((I298a 2437) = 0 ∨ (I298a 2436) < (I298a 773))) ∧ ((I298a 773) = (I 773) ∧ (I298a 2439) = (I 2439) ∧ 0 ≤ (I298a 2117)) ∧ (I 2436) + 1 ≤ (I298a 2436) ∧ (I298a 1670) + 1 ≤ (I 1670) + 2 * ((I298a 2436) - (I 2436)) ∧ (I 1670) ≤ (I298a 1670) := f305
      obtain ⟨⟨n313, n314, n315⟩, ⟨n316, n317, n318⟩, n319, n320, n321⟩ := id f305
      clear f305
      replace f306 : c_agl A A298a (I 1670) := f306
      replace f307 : c_Wn A298a (c_r (I 2439) 1) v299 (I 1670) (I298a 1670) := f307
      have g322 : c_agl A A298a (I 1670) := c_agl_trans c_agl_refl f306 (show (I 1670) ≤ (I 1670) by omega)
      have k323 : c_Wn A298a (c_r (I 2439) 3) v299 (I 1670) (I298a 1670) := c_Wn_up f307 (show c_r (I 2439) 1 ≤ c_r (I 2439) 3 by unfold c_r; omega)
      obtain ⟨b324, b325⟩ := c_W_in k323.1
      show w_W _ _ _ (113, [(0, .ref 38)], [.int (Int32.ofInt (v299))], M297) _
      refine w_fin (r := .inl (some (v299))) (M' := M297) rfl ?_
      exact Or.inl ⟨v299, I298a, A298a, B298a, C298a, rfl, ⟨by omega, by omega⟩, hR298a, (show c_fi c_ps I I298a by exact f303), (show c_fa c_pa A A298a by exact f304), (show (0 ≤ (I298a 2436) ∧ (I298a 2436) ≤ (I298a 773) ∧ ((I298a 2437) = 0 ∨ (I298a 2436) < (I298a 773))) ∧ ((I298a 773) = (I 773) ∧ (I298a 2439) = (I 2439) ∧ 0 ≤ (I298a 2117)) ∧ (I 2436) + 1 ≤ (I298a 2436) ∧ (I298a 1670) + 1 ≤ (I 1670) + 2 * ((I298a 2436) - (I 2436)) ∧ (I 1670) ≤ (I298a 1670) by (repeat' apply And.intro) <;> first | assumption | omega), (show c_agl A A298a (I 1670) by exact g322), (show c_Wn A298a (c_r (I 2439) 4) v299 (I 1670) (I298a 1670) by exact c_Wn_win (c_Wn_up k323 (show c_r (I 2439) 3 ≤ c_r (I 2439) 4 by unfold c_r; omega)) (show (I 1670) ≤ (I 1670) by omega) (show (I298a 1670) ≤ (I298a 1670) by omega))⟩
    · rw [e309]
      replace hR298b : w_Rep w_TC fr X (u + 6) (l + 64) I298b A298b B298b C298b M297 := hR298b
      replace f310 : c_fi c_ps I I298b := f310
      replace f311 : c_fa c_pa A A298b := f311
      replace f312 : M297.1[t308]? = some (.inr (11, [])) := f312
      exact Or.inr (⟨t308, I298b, A298b, B298b, C298b, rfl, hR298b, (show c_fi c_ps I I298b by exact f310), (show c_fa c_pa A A298b by exact f311), (show M297.1[t308]? = some (.inr (11, [])) by exact f312)⟩)
  · refine w_sw (v := 29) (F' := (165, [(0, .ref 38)], [], M)) h205 rfl rfl ?_
    exact jn165   
  · refine w_sw (v := 30) (F' := (165, [(0, .ref 38)], [], M)) h205 rfl rfl ?_
    exact jn165   
  · refine w_sw (v := 31) (F' := (165, [(0, .ref 38)], [], M)) h205 rfl rfl ?_
    exact jn165   
  · refine w_sw (v := 32) (F' := (165, [(0, .ref 38)], [], M)) h205 rfl rfl ?_
    exact jn165   
  · refine w_sw (v := 33) (F' := (114, [(0, .ref 38)], [], M)) h205 rfl rfl ?_
    refine w_adv (n := 2) (F' := (116, [(0, .ref 38)], [.int (Int32.ofInt (0)), .ref 38], M)) rfl ?_
    refine w_call (cm := 129) (as := [(0, .ref 38), (1, .int (Int32.ofInt (0)))]) (rest := []) (o := some (4, 38)) rfl (w_fitR hR rfl) (c_thread (c_ALL_dn hA) (0) hR (show 10 * (24 - (I 2439)) + 9 ≤ (d : Int) by omega) ⟨by omega, by omega⟩ (show l ≤ 100000 by first | assumption | omega) (show (0 ≤ (I 2436) ∧ (I 2436) ≤ (I 773) ∧ (I 773) ≤ 1501 ∧ ((I 2437) = 0 ∨ (I 2436) < (I 773))) ∧ (0 ≤ (I 2439) ∧ (I 2439) ≤ 24 ∧ 0 ≤ (I 2117)) ∧ 0 ≤ (I 1670) ∧ (I 1670) ≤ 2 * (I 2436) + 1 by (repeat' apply And.intro) <;> first | assumption | omega) (show ¬ (I 2437) = 0 by first | assumption | omega)) (fun r326 M327 q328 => ?_)
    rcases q328 with ⟨v329, I328a, A328a, B328a, C328a, e330, ⟨r331, r332⟩, hR328a, f333, f334, f335, f336, f337⟩ | ⟨t338, I328b, A328b, B328b, C328b, e339, hR328b, f340, f341, f342⟩
    · rw [e330]
      replace hR328a : w_Rep w_TC fr X u l I328a A328a B328a C328a M327 := hR328a
      replace f333 : c_fi c_ps I I328a := f333
      replace f334 : c_fa c_pa A A328a := f334
      replace f335 : (0 ≤ (I328a 2436) ∧ (I328a 2436) ≤ (I328a 773) ∧ ((I328a 2437) = 0 ∨ (I328a 2436) < (I328a 773))) ∧ ((I328a 773) = (I 773) ∧ (I328a 2439) = (I 2439) ∧ 0 ≤ (I328a 2117)) ∧ (I 2436) + 1 ≤ (I328a 2436) ∧ (I328a 1670) + 1 ≤ (I 1670) + 2 * ((I328a 2436) - (I 2436)) ∧ (I 1670) ≤ (I328a 1670) := f335
      obtain ⟨⟨n343, n344, n345⟩, ⟨n346, n347, n348⟩, n349, n350, n351⟩ := id f335
      clear f335
      replace f336 : c_agl A A328a (I 1670) := f336
      replace f337 : c_Wn A328a (c_r (I 2439) 1) v329 (I 1670) (I328a 1670) := f337
      have g352 : c_agl A A328a (I 1670) := c_agl_trans c_agl_refl f336 (show (I 1670) ≤ (I 1670) by omega)
      have k353 : c_Wn A328a (c_r (I 2439) 3) v329 (I 1670) (I328a 1670) := c_Wn_up f337 (show c_r (I 2439) 1 ≤ c_r (I 2439) 3 by unfold c_r; omega)
      obtain ⟨b354, b355⟩ := c_W_in k353.1
      show w_W _ _ _ (119, [(0, .ref 38)], [.int (Int32.ofInt (v329))], M327) _
      refine w_fin (r := .inl (some (v329))) (M' := M327) rfl ?_
      exact Or.inl ⟨v329, I328a, A328a, B328a, C328a, rfl, ⟨by omega, by omega⟩, hR328a, (show c_fi c_ps I I328a by exact f333), (show c_fa c_pa A A328a by exact f334), (show (0 ≤ (I328a 2436) ∧ (I328a 2436) ≤ (I328a 773) ∧ ((I328a 2437) = 0 ∨ (I328a 2436) < (I328a 773))) ∧ ((I328a 773) = (I 773) ∧ (I328a 2439) = (I 2439) ∧ 0 ≤ (I328a 2117)) ∧ (I 2436) + 1 ≤ (I328a 2436) ∧ (I328a 1670) + 1 ≤ (I 1670) + 2 * ((I328a 2436) - (I 2436)) ∧ (I 1670) ≤ (I328a 1670) by (repeat' apply And.intro) <;> first | assumption | omega), (show c_agl A A328a (I 1670) by exact g352), (show c_Wn A328a (c_r (I 2439) 4) v329 (I 1670) (I328a 1670) by exact c_Wn_win (c_Wn_up k353 (show c_r (I 2439) 3 ≤ c_r (I 2439) 4 by unfold c_r; omega)) (show (I 1670) ≤ (I 1670) by omega) (show (I328a 1670) ≤ (I328a 1670) by omega))⟩
    · rw [e339]
      replace hR328b : w_Rep w_TC fr X (u + 6) (l + 64) I328b A328b B328b C328b M327 := hR328b
      replace f340 : c_fi c_ps I I328b := f340
      replace f341 : c_fa c_pa A A328b := f341
      replace f342 : M327.1[t338]? = some (.inr (11, [])) := f342
      exact Or.inr (⟨t338, I328b, A328b, B328b, C328b, rfl, hR328b, (show c_fi c_ps I I328b by exact f340), (show c_fa c_pa A A328b by exact f341), (show M327.1[t338]? = some (.inr (11, [])) by exact f342)⟩)
  · refine w_sw (v := 34) (F' := (120, [(0, .ref 38)], [], M)) h205 rfl rfl ?_
    refine w_adv (n := 1) (F' := (121, [(0, .ref 38)], [.ref 38], M)) rfl ?_
    refine w_call (cm := 134) (as := [(0, .ref 38)]) (rest := []) (o := some (4, 38)) rfl (w_fitR hR rfl) (c_attempt (c_ALL_dn hA) hR (show 10 * (24 - (I 2439)) + 9 ≤ (d : Int) by omega) (show l ≤ 100000 by first | assumption | omega) (show (0 ≤ (I 2436) ∧ (I 2436) ≤ (I 773) ∧ (I 773) ≤ 1501 ∧ ((I 2437) = 0 ∨ (I 2436) < (I 773))) ∧ (0 ≤ (I 2439) ∧ (I 2439) ≤ 24 ∧ 0 ≤ (I 2117)) ∧ 0 ≤ (I 1670) ∧ (I 1670) ≤ 2 * (I 2436) + 1 by (repeat' apply And.intro) <;> first | assumption | omega) (show ¬ (I 2437) = 0 by first | assumption | omega)) (fun r356 M357 q358 => ?_)
    rcases q358 with ⟨v359, I358a, A358a, B358a, C358a, e360, ⟨r361, r362⟩, hR358a, f363, f364, f365, f366, f367⟩ | ⟨t368, I358b, A358b, B358b, C358b, e369, hR358b, f370, f371, f372⟩
    · rw [e360]
      replace hR358a : w_Rep w_TC fr X u l I358a A358a B358a C358a M357 := hR358a
      replace f363 : c_fi c_ps I I358a := f363
      replace f364 : c_fa c_pa A A358a := f364
      replace f365 : (0 ≤ (I358a 2436) ∧ (I358a 2436) ≤ (I358a 773) ∧ ((I358a 2437) = 0 ∨ (I358a 2436) < (I358a 773))) ∧ ((I358a 773) = (I 773) ∧ (I358a 2439) = (I 2439) ∧ 0 ≤ (I358a 2117)) ∧ (I 2436) + 1 ≤ (I358a 2436) ∧ (I358a 1670) + 1 ≤ (I 1670) + 2 * ((I358a 2436) - (I 2436)) ∧ (I 1670) ≤ (I358a 1670) := f365
      obtain ⟨⟨n373, n374, n375⟩, ⟨n376, n377, n378⟩, n379, n380, n381⟩ := id f365
      clear f365
      replace f366 : c_agl A A358a (I 1670) := f366
      replace f367 : c_Wn A358a (c_r (I 2439) 1) v359 (I 1670) (I358a 1670) := f367
      have g382 : c_agl A A358a (I 1670) := c_agl_trans c_agl_refl f366 (show (I 1670) ≤ (I 1670) by omega)
      have k383 : c_Wn A358a (c_r (I 2439) 3) v359 (I 1670) (I358a 1670) := c_Wn_up f367 (show c_r (I 2439) 1 ≤ c_r (I 2439) 3 by unfold c_r; omega)
      obtain ⟨b384, b385⟩ := c_W_in k383.1
      show w_W _ _ _ (124, [(0, .ref 38)], [.int (Int32.ofInt (v359))], M357) _
      refine w_fin (r := .inl (some (v359))) (M' := M357) rfl ?_
      exact Or.inl ⟨v359, I358a, A358a, B358a, C358a, rfl, ⟨by omega, by omega⟩, hR358a, (show c_fi c_ps I I358a by exact f363), (show c_fa c_pa A A358a by exact f364), (show (0 ≤ (I358a 2436) ∧ (I358a 2436) ≤ (I358a 773) ∧ ((I358a 2437) = 0 ∨ (I358a 2436) < (I358a 773))) ∧ ((I358a 773) = (I 773) ∧ (I358a 2439) = (I 2439) ∧ 0 ≤ (I358a 2117)) ∧ (I 2436) + 1 ≤ (I358a 2436) ∧ (I358a 1670) + 1 ≤ (I 1670) + 2 * ((I358a 2436) - (I 2436)) ∧ (I 1670) ≤ (I358a 1670) by (repeat' apply And.intro) <;> first | assumption | omega), (show c_agl A A358a (I 1670) by exact g382), (show c_Wn A358a (c_r (I 2439) 4) v359 (I 1670) (I358a 1670) by exact c_Wn_win (c_Wn_up k383 (show c_r (I 2439) 3 ≤ c_r (I 2439) 4 by unfold c_r; omega)) (show (I 1670) ≤ (I 1670) by omega) (show (I358a 1670) ≤ (I358a 1670) by omega))⟩
    · rw [e369]
      replace hR358b : w_Rep w_TC fr X (u + 6) (l + 64) I358b A358b B358b C358b M357 := hR358b
      replace f370 : c_fi c_ps I I358b := f370
      replace f371 : c_fa c_pa A A358b := f371
      replace f372 : M357.1[t368]? = some (.inr (11, [])) := f372
      exact Or.inr (⟨t368, I358b, A358b, B358b, C358b, rfl, hR358b, (show c_fi c_ps I I358b by exact f370), (show c_fa c_pa A A358b by exact f371), (show M357.1[t368]? = some (.inr (11, [])) by exact f372)⟩)
  · refine w_sw (v := 35) (F' := (165, [(0, .ref 38)], [], M)) h205 rfl rfl ?_
    exact jn165   
  · refine w_sw (v := 36) (F' := (125, [(0, .ref 38)], [], M)) h205 rfl rfl ?_
    refine w_adv (n := 1) (F' := (126, [(0, .ref 38)], [.ref 38], M)) rfl ?_
    refine w_call (cm := 80) (as := [(0, .ref 38)]) (rest := []) (o := some (4, 38)) rfl (w_fitR hR rfl) (c_advance hR (show 3 ≤ d by omega) (show l ≤ 100000 by first | assumption | omega) (show -1 ≤ (I 2436) ∧ (I 2436) < (I 773) ∧ (I 773) ≤ 1501 by first | assumption | omega)) (fun r386 M387 q388 => ?_)
    rcases q388 with ⟨zt389, zk390, zv391, e392, hR388a, f393⟩ | ⟨t394, I388b, A388b, B388b, C388b, e395, hR388b, f396, f397, f398⟩
    · rw [e392]
      replace hR388a : w_Rep w_TC fr X u l (w_up (w_up (w_up (w_up I 2436 ((I 2436) + 1)) 2441 (zt389)) 2437 (zk390)) 2438 (zv391)) A B C M387 := hR388a
      replace f393 : ((I 2436) + 1 < (I 773) ∨ zk390 = 0) := f393
      show w_W _ _ _ (129, [(0, .ref 38)], [], M387) _
      refine w_adv (n := 1) (F' := (130, [(0, .ref 38)], [.ref 38], M387)) rfl ?_
      refine w_gf (v := .ref 26) hR388a rfl rfl rfl rfl ?_
      refine w_adv (n := 2) (F' := (136, [(0, .ref 38)], [.ref 38, .int (Int32.ofInt (21)), .ref 26], M387)) rfl ?_
      refine w_call (cm := 89) (as := [(0, .ref 38)]) (rest := [.int (Int32.ofInt (21)), .ref 26]) (o := some (4, 38)) rfl (w_fitR hR388a rfl) ((hA d (Nat.lt_succ_self d)).1 hR388a (show 10 * (24 - (I 2439)) + 13 ≤ (d : Int) by omega) (show l ≤ 100000 by first | assumption | omega) (show (0 ≤ (I 2436) + 1 ∧ (I 2436) + 1 ≤ (I 773) ∧ (I 773) ≤ 1501 ∧ (zk390 = 0 ∨ (I 2436) + 1 < (I 773))) ∧ (0 ≤ (I 2439) ∧ (I 2439) ≤ 24 ∧ 0 ≤ (I 2117)) ∧ 0 ≤ (I 1670) ∧ (I 1670) ≤ 2 * ((I 2436) + 1) + 1 by (repeat' apply And.intro) <;> first | assumption | omega)) (fun r399 M400 q401 => ?_)
      rcases q401 with ⟨v402, I401a, A401a, B401a, C401a, e403, ⟨r404, r405⟩, hR401a, f406, f407, f408, f409, f410⟩ | ⟨t411, I401b, A401b, B401b, C401b, e412, hR401b, f413, f414, f415⟩
      · rw [e403]
        replace hR401a : w_Rep w_TC fr X u l I401a A401a B401a C401a M400 := hR401a
        replace f406 : c_fi c_ps (w_up (w_up (w_up (w_up I 2436 ((I 2436) + 1)) 2441 (zt389)) 2437 (zk390)) 2438 (zv391)) I401a := f406
        replace f407 : c_fa c_pa A A401a := f407
        replace f408 : (0 ≤ (I401a 2436) ∧ (I401a 2436) ≤ (I401a 773) ∧ ((I401a 2437) = 0 ∨ (I401a 2436) < (I401a 773))) ∧ ((I401a 773) = (I 773) ∧ (I401a 2439) = (I 2439) ∧ 0 ≤ (I401a 2117)) ∧ ((I 2436) + 1) + 1 ≤ (I401a 2436) ∧ (I401a 1670) + 1 ≤ (I 1670) + 2 * ((I401a 2436) - ((I 2436) + 1)) ∧ (I 1670) ≤ (I401a 1670) := f408
        obtain ⟨⟨n416, n417, n418⟩, ⟨n419, n420, n421⟩, n422, n423, n424⟩ := id f408
        clear f408
        replace f409 : c_agl A A401a (I 1670) := f409
        replace f410 : c_Wn A401a (c_r (I 2439) 3) v402 (I 1670) (I401a 1670) := f410
        have g425 : c_agl A A401a (I 1670) := c_agl_trans c_agl_refl f409 (show (I 1670) ≤ (I 1670) by omega)
        have k426 : c_Wn A401a (c_r (I 2439) 3) v402 (I 1670) (I401a 1670) := c_Wn_up f410 (show c_r (I 2439) 3 ≤ c_r (I 2439) 3 by unfold c_r; omega)
        obtain ⟨b427, b428⟩ := c_W_in k426.1
        show w_W _ _ _ (139, [(0, .ref 38)], [.int (Int32.ofInt (v402)), .int (Int32.ofInt (21)), .ref 26], M400) _
        refine w_adv (n := 2) (F' := (141, [(0, .ref 38)], [.int (Int32.ofInt ((-1))), .int (Int32.ofInt ((-1))), .int (Int32.ofInt (v402)), .int (Int32.ofInt (21)), .ref 26], M400)) rfl ?_
        refine w_call (cm := 94) (as := [(0, .ref 26), (1, .int (Int32.ofInt (21))), (2, .int (Int32.ofInt (v402))), (3, .int (Int32.ofInt ((-1)))), (4, .int (Int32.ofInt ((-1))))]) (rest := []) (o := some (8, 26)) rfl (w_fitR hR401a rfl) (c_mkn (21) (v402) ((-1)) ((-1)) hR401a (show 2 ≤ d by omega) ⟨by omega, by omega⟩ ⟨by omega, by omega⟩ ⟨by omega, by omega⟩ ⟨by omega, by omega⟩ (show 0 ≤ (I401a 1670) ∧ (I401a 1670) < 3016 by first | assumption | omega)) (fun r429 M430 q431 => ?_)
        rcases q431 with ⟨A432, e433, hR431a, f434, f435⟩
        rw [e433]
        replace hR431a : w_Rep w_TC fr X u l (w_up I401a 1670 ((I401a 1670) + 1)) A432 B401a C401a M430 := hR431a
        replace f434 : c_fa c_pa A401a A432 := f434
        replace f435 : c_mk A401a A432 (I401a 1670) 21 v402 (-1) (-1) := f435
        have k436 : c_Wn A432 (c_r (I 2439) 4) (I401a 1670) (I 1670) ((I401a 1670) + 1) := c_Wn_up ⟨c_W_21 f435 (by omega) (show 0 ≤ (I 1670) by omega) (c_Wn_win k426 (show (I 1670) ≤ (I 1670) by omega) (show (I401a 1670) ≤ (I401a 1670) by omega)).1, f435.2.2.2.2.2⟩ (show (c_r (I 2439) 3) + 1 ≤ (c_r (I 2439) 4) by unfold c_r; omega)
        have k437 : c_Wn A432 (c_r (I 2439) 3) v402 (I 1670) (I401a 1670) := c_Wn_agl k426 f435.1 (show 0 ≤ (I 1670) by omega) (show (I401a 1670) ≤ (I401a 1670) by omega)
        clear k426
        have g438 : c_agl A A432 (I 1670) := c_agl_trans g425 f435.1 (show (I 1670) ≤ (I401a 1670) by omega)
        show w_W _ _ _ (144, [(0, .ref 38)], [.int (Int32.ofInt ((I401a 1670)))], M430) _
        refine w_fin (r := .inl (some ((I401a 1670)))) (M' := M430) rfl ?_
        exact Or.inl ⟨(I401a 1670), (w_up I401a 1670 ((I401a 1670) + 1)), A432, B401a, C401a, rfl, ⟨by omega, by omega⟩, hR431a, (show c_fi c_ps I (w_up I401a 1670 ((I401a 1670) + 1)) by exact (c_fi_up (c_fi_trans (c_fi_up (c_fi_up (c_fi_up (c_fi_up c_fi_refl rfl) rfl) rfl) rfl) f406) rfl)), (show c_fa c_pa A A432 by exact (c_fa_trans f407 f434)), (show (0 ≤ (I401a 2436) ∧ (I401a 2436) ≤ (I401a 773) ∧ ((I401a 2437) = 0 ∨ (I401a 2436) < (I401a 773))) ∧ ((I401a 773) = (I 773) ∧ (I401a 2439) = (I 2439) ∧ 0 ≤ (I401a 2117)) ∧ (I 2436) + 1 ≤ (I401a 2436) ∧ ((I401a 1670) + 1) + 1 ≤ (I 1670) + 2 * ((I401a 2436) - (I 2436)) ∧ (I 1670) ≤ (I401a 1670) + 1 by (repeat' apply And.intro) <;> first | assumption | omega), (show c_agl A A432 (I 1670) by exact g438), (show c_Wn A432 (c_r (I 2439) 4) (I401a 1670) (I 1670) ((I401a 1670) + 1) by exact c_Wn_win (c_Wn_up k436 (show c_r (I 2439) 4 ≤ c_r (I 2439) 4 by unfold c_r; omega)) (show (I 1670) ≤ (I 1670) by omega) (show ((I401a 1670) + 1) ≤ ((I401a 1670) + 1) by omega))⟩
      · rw [e412]
        replace hR401b : w_Rep w_TC fr X (u + 6) (l + 64) I401b A401b B401b C401b M400 := hR401b
        replace f413 : c_fi c_ps (w_up (w_up (w_up (w_up I 2436 ((I 2436) + 1)) 2441 (zt389)) 2437 (zk390)) 2438 (zv391)) I401b := f413
        replace f414 : c_fa c_pa A A401b := f414
        replace f415 : M400.1[t411]? = some (.inr (11, [])) := f415
        exact Or.inr (⟨t411, I401b, A401b, B401b, C401b, rfl, hR401b, (show c_fi c_ps I I401b by exact (c_fi_trans (c_fi_up (c_fi_up (c_fi_up (c_fi_up c_fi_refl rfl) rfl) rfl) rfl) f413)), (show c_fa c_pa A A401b by exact f414), (show M400.1[t411]? = some (.inr (11, [])) by exact f415)⟩)
    · rw [e395]
      replace hR388b : w_Rep w_TC fr X (u + 6) (l + 64) I388b A388b B388b C388b M387 := hR388b
      replace f396 : c_fi c_ps I I388b := f396
      replace f397 : c_fa c_pa A A388b := f397
      replace f398 : M387.1[t394]? = some (.inr (11, [])) := f398
      exact Or.inr (⟨t394, I388b, A388b, B388b, C388b, rfl, hR388b, (show c_fi c_ps I I388b by exact f396), (show c_fa c_pa A A388b by exact f397), (show M387.1[t394]? = some (.inr (11, [])) by exact f398)⟩)
  · refine w_sw (v := 37) (F' := (145, [(0, .ref 38)], [], M)) h205 rfl rfl ?_
    refine w_adv (n := 1) (F' := (146, [(0, .ref 38)], [.ref 38], M)) rfl ?_
    refine w_call (cm := 80) (as := [(0, .ref 38)]) (rest := []) (o := some (4, 38)) rfl (w_fitR hR rfl) (c_advance hR (show 3 ≤ d by omega) (show l ≤ 100000 by first | assumption | omega) (show -1 ≤ (I 2436) ∧ (I 2436) < (I 773) ∧ (I 773) ≤ 1501 by first | assumption | omega)) (fun r439 M440 q441 => ?_)
    rcases q441 with ⟨zt442, zk443, zv444, e445, hR441a, f446⟩ | ⟨t447, I441b, A441b, B441b, C441b, e448, hR441b, f449, f450, f451⟩
    · rw [e445]
      replace hR441a : w_Rep w_TC fr X u l (w_up (w_up (w_up (w_up I 2436 ((I 2436) + 1)) 2441 (zt442)) 2437 (zk443)) 2438 (zv444)) A B C M440 := hR441a
      replace f446 : ((I 2436) + 1 < (I 773) ∨ zk443 = 0) := f446
      show w_W _ _ _ (149, [(0, .ref 38)], [], M440) _
      refine w_adv (n := 1) (F' := (150, [(0, .ref 38)], [.ref 38], M440)) rfl ?_
      refine w_gf (v := .ref 26) hR441a rfl rfl rfl rfl ?_
      refine w_adv (n := 2) (F' := (156, [(0, .ref 38)], [.ref 38, .int (Int32.ofInt (22)), .ref 26], M440)) rfl ?_
      refine w_call (cm := 89) (as := [(0, .ref 38)]) (rest := [.int (Int32.ofInt (22)), .ref 26]) (o := some (4, 38)) rfl (w_fitR hR441a rfl) ((hA d (Nat.lt_succ_self d)).1 hR441a (show 10 * (24 - (I 2439)) + 13 ≤ (d : Int) by omega) (show l ≤ 100000 by first | assumption | omega) (show (0 ≤ (I 2436) + 1 ∧ (I 2436) + 1 ≤ (I 773) ∧ (I 773) ≤ 1501 ∧ (zk443 = 0 ∨ (I 2436) + 1 < (I 773))) ∧ (0 ≤ (I 2439) ∧ (I 2439) ≤ 24 ∧ 0 ≤ (I 2117)) ∧ 0 ≤ (I 1670) ∧ (I 1670) ≤ 2 * ((I 2436) + 1) + 1 by (repeat' apply And.intro) <;> first | assumption | omega)) (fun r452 M453 q454 => ?_)
      rcases q454 with ⟨v455, I454a, A454a, B454a, C454a, e456, ⟨r457, r458⟩, hR454a, f459, f460, f461, f462, f463⟩ | ⟨t464, I454b, A454b, B454b, C454b, e465, hR454b, f466, f467, f468⟩
      · rw [e456]
        replace hR454a : w_Rep w_TC fr X u l I454a A454a B454a C454a M453 := hR454a
        replace f459 : c_fi c_ps (w_up (w_up (w_up (w_up I 2436 ((I 2436) + 1)) 2441 (zt442)) 2437 (zk443)) 2438 (zv444)) I454a := f459
        replace f460 : c_fa c_pa A A454a := f460
        replace f461 : (0 ≤ (I454a 2436) ∧ (I454a 2436) ≤ (I454a 773) ∧ ((I454a 2437) = 0 ∨ (I454a 2436) < (I454a 773))) ∧ ((I454a 773) = (I 773) ∧ (I454a 2439) = (I 2439) ∧ 0 ≤ (I454a 2117)) ∧ ((I 2436) + 1) + 1 ≤ (I454a 2436) ∧ (I454a 1670) + 1 ≤ (I 1670) + 2 * ((I454a 2436) - ((I 2436) + 1)) ∧ (I 1670) ≤ (I454a 1670) := f461
        obtain ⟨⟨n469, n470, n471⟩, ⟨n472, n473, n474⟩, n475, n476, n477⟩ := id f461
        clear f461
        replace f462 : c_agl A A454a (I 1670) := f462
        replace f463 : c_Wn A454a (c_r (I 2439) 3) v455 (I 1670) (I454a 1670) := f463
        have g478 : c_agl A A454a (I 1670) := c_agl_trans c_agl_refl f462 (show (I 1670) ≤ (I 1670) by omega)
        have k479 : c_Wn A454a (c_r (I 2439) 3) v455 (I 1670) (I454a 1670) := c_Wn_up f463 (show c_r (I 2439) 3 ≤ c_r (I 2439) 3 by unfold c_r; omega)
        obtain ⟨b480, b481⟩ := c_W_in k479.1
        show w_W _ _ _ (159, [(0, .ref 38)], [.int (Int32.ofInt (v455)), .int (Int32.ofInt (22)), .ref 26], M453) _
        refine w_adv (n := 2) (F' := (161, [(0, .ref 38)], [.int (Int32.ofInt ((-1))), .int (Int32.ofInt ((-1))), .int (Int32.ofInt (v455)), .int (Int32.ofInt (22)), .ref 26], M453)) rfl ?_
        refine w_call (cm := 94) (as := [(0, .ref 26), (1, .int (Int32.ofInt (22))), (2, .int (Int32.ofInt (v455))), (3, .int (Int32.ofInt ((-1)))), (4, .int (Int32.ofInt ((-1))))]) (rest := []) (o := some (8, 26)) rfl (w_fitR hR454a rfl) (c_mkn (22) (v455) ((-1)) ((-1)) hR454a (show 2 ≤ d by omega) ⟨by omega, by omega⟩ ⟨by omega, by omega⟩ ⟨by omega, by omega⟩ ⟨by omega, by omega⟩ (show 0 ≤ (I454a 1670) ∧ (I454a 1670) < 3016 by first | assumption | omega)) (fun r482 M483 q484 => ?_)
        rcases q484 with ⟨A485, e486, hR484a, f487, f488⟩
        rw [e486]
        replace hR484a : w_Rep w_TC fr X u l (w_up I454a 1670 ((I454a 1670) + 1)) A485 B454a C454a M483 := hR484a
        replace f487 : c_fa c_pa A454a A485 := f487
        replace f488 : c_mk A454a A485 (I454a 1670) 22 v455 (-1) (-1) := f488
        have k489 : c_Wn A485 (c_r (I 2439) 4) (I454a 1670) (I 1670) ((I454a 1670) + 1) := c_Wn_up ⟨c_W_21 f488 (by omega) (show 0 ≤ (I 1670) by omega) (c_Wn_win k479 (show (I 1670) ≤ (I 1670) by omega) (show (I454a 1670) ≤ (I454a 1670) by omega)).1, f488.2.2.2.2.2⟩ (show (c_r (I 2439) 3) + 1 ≤ (c_r (I 2439) 4) by unfold c_r; omega)
        have k490 : c_Wn A485 (c_r (I 2439) 3) v455 (I 1670) (I454a 1670) := c_Wn_agl k479 f488.1 (show 0 ≤ (I 1670) by omega) (show (I454a 1670) ≤ (I454a 1670) by omega)
        clear k479
        have g491 : c_agl A A485 (I 1670) := c_agl_trans g478 f488.1 (show (I 1670) ≤ (I454a 1670) by omega)
        show w_W _ _ _ (164, [(0, .ref 38)], [.int (Int32.ofInt ((I454a 1670)))], M483) _
        refine w_fin (r := .inl (some ((I454a 1670)))) (M' := M483) rfl ?_
        exact Or.inl ⟨(I454a 1670), (w_up I454a 1670 ((I454a 1670) + 1)), A485, B454a, C454a, rfl, ⟨by omega, by omega⟩, hR484a, (show c_fi c_ps I (w_up I454a 1670 ((I454a 1670) + 1)) by exact (c_fi_up (c_fi_trans (c_fi_up (c_fi_up (c_fi_up (c_fi_up c_fi_refl rfl) rfl) rfl) rfl) f459) rfl)), (show c_fa c_pa A A485 by exact (c_fa_trans f460 f487)), (show (0 ≤ (I454a 2436) ∧ (I454a 2436) ≤ (I454a 773) ∧ ((I454a 2437) = 0 ∨ (I454a 2436) < (I454a 773))) ∧ ((I454a 773) = (I 773) ∧ (I454a 2439) = (I 2439) ∧ 0 ≤ (I454a 2117)) ∧ (I 2436) + 1 ≤ (I454a 2436) ∧ ((I454a 1670) + 1) + 1 ≤ (I 1670) + 2 * ((I454a 2436) - (I 2436)) ∧ (I 1670) ≤ (I454a 1670) + 1 by (repeat' apply And.intro) <;> first | assumption | omega), (show c_agl A A485 (I 1670) by exact g491), (show c_Wn A485 (c_r (I 2439) 4) (I454a 1670) (I 1670) ((I454a 1670) + 1) by exact c_Wn_win (c_Wn_up k489 (show c_r (I 2439) 4 ≤ c_r (I 2439) 4 by unfold c_r; omega)) (show (I 1670) ≤ (I 1670) by omega) (show ((I454a 1670) + 1) ≤ ((I454a 1670) + 1) by omega))⟩
      · rw [e465]
        replace hR454b : w_Rep w_TC fr X (u + 6) (l + 64) I454b A454b B454b C454b M453 := hR454b
        replace f466 : c_fi c_ps (w_up (w_up (w_up (w_up I 2436 ((I 2436) + 1)) 2441 (zt442)) 2437 (zk443)) 2438 (zv444)) I454b := f466
        replace f467 : c_fa c_pa A A454b := f467
        replace f468 : M453.1[t464]? = some (.inr (11, [])) := f468
        exact Or.inr (⟨t464, I454b, A454b, B454b, C454b, rfl, hR454b, (show c_fi c_ps I I454b by exact (c_fi_trans (c_fi_up (c_fi_up (c_fi_up (c_fi_up c_fi_refl rfl) rfl) rfl) rfl) f466)), (show c_fa c_pa A A454b by exact f467), (show M453.1[t464]? = some (.inr (11, [])) by exact f468)⟩)
    · rw [e448]
      replace hR441b : w_Rep w_TC fr X (u + 6) (l + 64) I441b A441b B441b C441b M440 := hR441b
      replace f449 : c_fi c_ps I I441b := f449
      replace f450 : c_fa c_pa A A441b := f450
      replace f451 : M440.1[t447]? = some (.inr (11, [])) := f451
      exact Or.inr (⟨t447, I441b, A441b, B441b, C441b, rfl, hR441b, (show c_fi c_ps I I441b by exact f449), (show c_fa c_pa A A441b by exact f450), (show M440.1[t447]? = some (.inr (11, [])) by exact f451)⟩)
