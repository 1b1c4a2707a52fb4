/-! PARSER of the class: procedures. -/
def c_procedure_Q (fr : Nat → Bool) (X : Nat → Option (q_C (Nat → Int32))) (u l : Nat) (I : Nat → Int) (A : Nat → Int → Int) (B C : Nat → Nat) (M : w_M) (b : Int) : w_X → w_M → Prop := fun r M' => (∃ v : Int, ∃ (I' : Nat → Int) (A' : Nat → Int → Int) (B' C' : Nat → Nat), (r = .inl (some v)) ∧ (w_in v) ∧ (w_Rep w_TC fr X u l I' A' B' C' M') ∧ (c_fi c_ps I I') ∧ (c_fa c_pa A A') ∧ ((0 ≤ (I' 2436) ∧ (I' 2436) ≤ (I' 773) ∧ ((I' 2437) = 0 ∨ (I' 2436) < (I' 773))) ∧ ((I' 773) = (I 773) ∧ (I' 2439) = (I 2439) ∧ 0 ≤ (I' 2117)) ∧ (I 2436) + 1 ≤ (I' 2436) ∧ (I' 1670) + 1 ≤ (I 1670) + 2 * ((I' 2436) - (I 2436)) ∧ (I 1670) ≤ (I' 1670)) ∧ (c_agl A A' (I 1670)) ∧ (c_Wn A' (c_r (I 2439) 1) v (I 1670) (I' 1670))) ∨ (∃ t : Nat, ∃ (I' : Nat → Int) (A' : Nat → Int → Int) (B' C' : Nat → Nat), (r = .inr t) ∧ (w_Rep w_TC fr X (u + 6) (l + 64) I' A' B' C' M') ∧ (c_fi c_ps I I') ∧ (c_fa c_pa A A') ∧ (M'.1[None]? = some (.inr (11, []))))
set_option maxHeartbeats 100000000 in
set_option maxRecDepth 100000 in
theorem c_procedure {L : Nat} {xs : Nat → Int32} {d : Nat} {fr : Nat → Bool} {X : Nat → Option (q_C (Nat → Int32))} {u l : Nat} {I : Nat → Int} {A : Nat → Int → Int} {B C : Nat → Nat} {M : w_M} (hA : c_ALL L xs d) (b : Int) (hR : w_Rep w_TC fr X u l I A B C M) (hd : 10 * (24 - (I 2439)) + 9 ≤ (d : Int)) (r_b : w_in b) (hl : l ≤ 100000) (hNU : (0 ≤ (I 2436) ∧ (I 2436) ≤ (I 773) ∧ (I 773) ≤ 1501 ∧ ((I 2437) = 0 ∨ (I 2436) < (I 773))) ∧ (0 ≤ (I 2439) ∧ (I 2439) ≤ 24 ∧ 0 ≤ (I 2117)) ∧ 0 ≤ (I 1670) ∧ (I 1670) ≤ 2 * (I 2436) + 1) (hk0 : ¬ (I 2437) = 0) : w_W (z_P L xs) d 117 (0, [(0, .ref 38), (1, .int (Int32.ofInt (b)))], [], M) (c_procedure_Q fr X u l I A B C M b) := by
  obtain ⟨ra_b, rb_b⟩ := r_b
  obtain ⟨d, rfl⟩ : ∃ d0, d = d0 + 1 := ⟨d - 1, by omega⟩
  refine w_adv (n := 1) (F' := (1, [(0, .ref 38), (1, .int (Int32.ofInt (b)))], [.ref 38], M)) rfl ?_
  refine w_call (cm := 99) (as := [(0, .ref 38)]) (rest := []) (o := some (4, 38)) rfl (w_fitR hR rfl) (c_open hR (show 4 ≤ d by omega) (show l ≤ 100000 by first | assumption | omega) (show -1 ≤ (I 2436) ∧ (I 2436) < (I 773) ∧ (I 773) ≤ 1501 by first | assumption | omega) (show 0 ≤ (I 2439) ∧ (I 2439) ≤ 24 by first | assumption | omega)) (fun r1 M2 q3 => ?_)
  rcases q3 with ⟨zt4, zk5, zv6, e7, hR3a, f8, f9⟩ | ⟨t10, I3b, A3b, B3b, C3b, e11, hR3b, f12, f13, f14⟩
  · rw [e7]
    replace hR3a : w_Rep w_TC fr X u l (w_up (w_up (w_up (w_up (w_up I 2436 ((I 2436) + 1)) 2441 (zt4)) 2437 (zk5)) 2438 (zv6)) 2439 ((I 2439) + 1)) A B C M2 := hR3a
    replace f8 : ((I 2436) + 1 < (I 773) ∨ zk5 = 0) := f8
    replace f9 : (I 2439) < 24 := f9
    show w_W _ _ _ (4, [(0, .ref 38), (1, .int (Int32.ofInt (b)))], [], M2) _
    refine w_adv (n := 1) (F' := (5, [(0, .ref 38), (1, .int (Int32.ofInt (b)))], [.ref 38], M2)) rfl ?_
    refine w_gf (v := .int (Int32.ofInt (zk5))) hR3a rfl rfl rfl rfl ?_
    obtain ⟨r15, r16⟩ : -2147483648 ≤ zk5 ∧ zk5 ≤ 2147483647 := hR3a.ri 2437
    refine w_adv (n := 1) (F' := (10, [(0, .ref 38), (1, .int (Int32.ofInt (b)))], [.int (Int32.ofInt (7)), .int (Int32.ofInt (zk5))], M2)) rfl ?_
    refine w_br2 (a := zk5) (b := 7) rfl rfl ⟨by omega, by omega⟩ ⟨by omega, by omega⟩ (fun h17 => ?_) (fun h17 => ?_)
    · have h17 : zk5 = 7 := h17
      show w_W _ _ _ (19, [(0, .ref 38), (1, .int (Int32.ofInt (b)))], [], M2) _
      refine w_adv (n := 1) (F' := (20, [(0, .ref 38), (1, .int (Int32.ofInt (b)))], [.ref 38], M2)) rfl ?_
      refine w_call (cm := 99) (as := [(0, .ref 38)]) (rest := []) (o := some (4, 38)) rfl (w_fitR hR3a rfl) (c_open hR3a (show 4 ≤ d by omega) (show l ≤ 100000 by first | assumption | omega) (show -1 ≤ (I 2436) + 1 ∧ (I 2436) + 1 < (I 773) ∧ (I 773) ≤ 1501 by first | assumption | omega) (show 0 ≤ (I 2439) + 1 ∧ (I 2439) + 1 ≤ 24 by first | assumption | omega)) (fun r18 M19 q20 => ?_)
      rcases q20 with ⟨zt21, zk22, zv23, e24, hR20a, f25, f26⟩ | ⟨t27, I20b, A20b, B20b, C20b, e28, hR20b, f29, f30, f31⟩
      · rw [e24]
        replace hR20a : w_Rep w_TC fr X u l (w_up (w_up (w_up (w_up (w_up I 2436 ((I 2436) + 1 + 1)) 2441 (zt21)) 2437 (zk22)) 2438 (zv23)) 2439 ((I 2439) + 1 + 1)) A B C M19 := w_Rep.up hR20a (show (w_up (w_up (w_up (w_up (w_up I 2436 ((I 2436) + 1 + 1)) 2441 (zt21)) 2437 (zk22)) 2438 (zv23)) 2439 ((I 2439) + 1 + 1)) = _ from (funext fun s => if e0 : s = 2436 then (by subst e0; rfl) else if e1 : s = 2437 then (by subst e1; rfl) else if e2 : s = 2438 then (by subst e2; rfl) else if e3 : s = 2439 then (by subst e3; rfl) else if e4 : s = 2441 then (by subst e4; rfl) else (by simp only [w_up_ne e0, w_up_ne e1, w_up_ne e2, w_up_ne e3, w_up_ne e4]))) rfl
        replace f25 : ((I 2436) + 1 + 1 < (I 773) ∨ zk22 = 0) := f25
        replace f26 : (I 2439) + 1 < 24 := f26
        show w_W _ _ _ (23, [(0, .ref 38), (1, .int (Int32.ofInt (b)))], [], M19) _
        refine w_adv (n := 1) (F' := (24, [(0, .ref 38), (1, .int (Int32.ofInt (b)))], [.ref 38], M19)) rfl ?_
        refine w_gf (v := .ref 33) hR20a rfl rfl rfl rfl ?_
        refine w_call (cm := 118) (as := [(0, .ref 33)]) (rest := []) (o := some (5, 33)) rfl (w_fitR hR20a rfl) (c_snext hR20a) (fun r32 M33 q34 => ?_)
        rcases q34 with ⟨e35, e36⟩
        rw [e35, e36]
        show w_W _ _ _ (30, [(0, .ref 38), (1, .int (Int32.ofInt (b)))], [.int (Int32.ofInt ((I 2117)))], M19) _
        refine w_adv (n := 2) (F' := (32, [(2, .int (Int32.ofInt ((I 2117)))), (0, .ref 38), (1, .int (Int32.ofInt (b)))], [.ref 38], M19)) rfl ?_
        refine w_call (cm := 119) (as := [(0, .ref 38)]) (rest := []) (o := some (4, 38)) rfl (w_fitR hR20a rfl) (c_variables hR20a (show 5 ≤ d by omega) (show l ≤ 100000 by first | assumption | omega) (show (0 ≤ (I 2436) + 1 + 1 ∧ (I 2436) + 1 + 1 ≤ (I 773) ∧ (I 773) ≤ 1501 ∧ (zk22 = 0 ∨ (I 2436) + 1 + 1 < (I 773))) ∧ (0 ≤ (I 2439) + 1 + 1 ∧ (I 2439) + 1 + 1 ≤ 24 ∧ 0 ≤ (I 2117)) ∧ 0 ≤ (I 1670) ∧ (I 1670) ≤ 2 * ((I 2436) + 1 + 1) + 1 by (repeat' apply And.intro) <;> first | assumption | omega)) (fun r37 M38 q39 => ?_)
        rcases q39 with ⟨v40, I39a, A39a, B39a, C39a, e41, ⟨r42, r43⟩, hR39a, f44, f45, f46, f47, f48⟩ | ⟨t49, I39b, A39b, B39b, C39b, e50, hR39b, f51, f52, f53⟩
        · rw [e41]
          replace hR39a : w_Rep w_TC fr X u l I39a A39a B39a C39a M38 := hR39a
          replace f44 : c_fi c_ps (w_up (w_up (w_up (w_up (w_up I 2436 ((I 2436) + 1 + 1)) 2441 (zt21)) 2437 (zk22)) 2438 (zv23)) 2439 ((I 2439) + 1 + 1)) I39a := f44
          replace f45 : c_fa c_pa A A39a := f45
          replace f46 : (0 ≤ (I39a 2436) ∧ (I39a 2436) ≤ (I39a 773) ∧ ((I39a 2437) = 0 ∨ (I39a 2436) < (I39a 773))) ∧ ((I39a 773) = (I 773) ∧ (I39a 2439) = (I 2439) + 1 + 1 ∧ 0 ≤ (I39a 2117)) ∧ ((I 2436) + 1 + 1) + 0 ≤ (I39a 2436) ∧ (I39a 1670) + 0 ≤ (I 1670) + 2 * ((I39a 2436) - ((I 2436) + 1 + 1)) ∧ (I 1670) ≤ (I39a 1670) := f46
          obtain ⟨⟨n54, n55, n56⟩, ⟨n57, n58, n59⟩, n60, n61, n62⟩ := id f46
          clear f46
          replace f47 : c_agl A A39a (I 1670) := f47
          replace f48 : 0 ≤ v40 := f48
          have g63 : c_agl A A39a (I 1670) := c_agl_trans c_agl_refl f47 (show (I 1670) ≤ (I 1670) by omega)
          show w_W _ _ _ (35, [(2, .int (Int32.ofInt ((I 2117)))), (0, .ref 38), (1, .int (Int32.ofInt (b)))], [.int (Int32.ofInt (v40))], M38) _
          refine w_adv (n := 3) (F' := (39, [(3, .int (Int32.ofInt (v40))), (2, .int (Int32.ofInt ((I 2117)))), (0, .ref 38), (1, .int (Int32.ofInt (b)))], [.int (Int32.ofInt (8)), .ref 38], M38)) rfl ?_
          refine w_call (cm := 113) (as := [(0, .ref 38), (1, .int (Int32.ofInt (8)))]) (rest := []) (o := some (4, 38)) rfl (w_fitR hR39a rfl) (c_close (8) hR39a (show 4 ≤ d by omega) ⟨by omega, by omega⟩ (show l ≤ 100000 by first | assumption | omega) (show -1 ≤ (I39a 2436) ∧ ((I39a 2437) = 0 ∨ (I39a 2436) < (I39a 773)) ∧ (I39a 773) ≤ 1501 ∧ 1 ≤ 8 by first | assumption | omega) (show 0 ≤ (I39a 2439) ∧ (I39a 2439) ≤ 24 by first | assumption | omega)) (fun r64 M65 q66 => ?_)
          rcases q66 with ⟨zt67, zk68, zv69, e70, hR66a, f71, f72⟩ | ⟨t73, I66b, A66b, B66b, C66b, e74, hR66b, f75, f76, f77⟩
          · rw [e70]
            replace hR66a : w_Rep w_TC fr X u l (w_up (w_up (w_up (w_up (w_up I39a 2436 ((I39a 2436) + 1)) 2441 (zt67)) 2437 (zk68)) 2438 (zv69)) 2439 ((I39a 2439) - 1)) A39a B39a C39a M65 := hR66a
            replace f71 : ((I39a 2436) + 1 < (I39a 773) ∨ zk68 = 0) := f71
            replace f72 : (I39a 2437) = 8 := f72
            show w_W _ _ _ (42, [(3, .int (Int32.ofInt (v40))), (2, .int (Int32.ofInt ((I 2117)))), (0, .ref 38), (1, .int (Int32.ofInt (b)))], [], M65) _
            refine w_adv (n := 2) (F' := (44, [(3, .int (Int32.ofInt (v40))), (2, .int (Int32.ofInt ((I 2117)))), (0, .ref 38), (1, .int (Int32.ofInt (b)))], [.int (Int32.ofInt (b)), .ref 38], M65)) rfl ?_
            refine w_call (cm := 88) (as := [(0, .ref 38), (1, .int (Int32.ofInt (b)))]) (rest := []) (o := some (4, 38)) rfl (w_fitR hR66a rfl) ((hA d (Nat.lt_succ_self d)).2 (b) hR66a (show 10 * (24 - ((I39a 2439) - 1)) + 15 ≤ (d : Int) by omega) ⟨by omega, by omega⟩ (show l ≤ 100000 by first | assumption | omega) (show (0 ≤ (I39a 2436) + 1 ∧ (I39a 2436) + 1 ≤ (I39a 773) ∧ (I39a 773) ≤ 1501 ∧ (zk68 = 0 ∨ (I39a 2436) + 1 < (I39a 773))) ∧ (0 ≤ (I39a 2439) - 1 ∧ (I39a 2439) - 1 ≤ 24 ∧ 0 ≤ (I39a 2117)) ∧ 0 ≤ (I39a 1670) ∧ (I39a 1670) ≤ 2 * ((I39a 2436) + 1) + 1 by (repeat' apply And.intro) <;> first | assumption | omega)) (fun r78 M79 q80 => ?_)
            rcases q80 with ⟨v81, I80a, A80a, B80a, C80a, e82, ⟨r83, r84⟩, hR80a, f85, f86, f87, f88, f89⟩ | ⟨t90, I80b, A80b, B80b, C80b, e91, hR80b, f92, f93, f94⟩
            · rw [e82]
              replace hR80a : w_Rep w_TC fr X u l I80a A80a B80a C80a M79 := hR80a
              replace f85 : c_fi c_ps (w_up (w_up (w_up (w_up (w_up I39a 2436 ((I39a 2436) + 1)) 2441 (zt67)) 2437 (zk68)) 2438 (zv69)) 2439 ((I39a 2439) - 1)) I80a := f85
              replace f86 : c_fa c_pa A39a A80a := f86
              replace f87 : (0 ≤ (I80a 2436) ∧ (I80a 2436) ≤ (I80a 773) ∧ ((I80a 2437) = 0 ∨ (I80a 2436) < (I80a 773))) ∧ ((I80a 773) = (I39a 773) ∧ (I80a 2439) = (I39a 2439) - 1 ∧ 0 ≤ (I80a 2117)) ∧ ((I39a 2436) + 1) + 1 ≤ (I80a 2436) ∧ (I80a 1670) + 0 ≤ (I39a 1670) + 2 * ((I80a 2436) - ((I39a 2436) + 1)) ∧ (I39a 1670) ≤ (I80a 1670) := f87
              obtain ⟨⟨n95, n96, n97⟩, ⟨n98, n99, n100⟩, n101, n102, n103⟩ := id f87
              clear f87
              replace f88 : c_agl A39a A80a (I39a 1670) := f88
              replace f89 : c_Bd A80a (c_W A80a (c_r ((I39a 2439) - 1) 4)) v81 (I39a 1670) (I80a 1670) := f89
              have g104 : c_agl A A80a (I 1670) := c_agl_trans g63 f88 (show (I 1670) ≤ (I39a 1670) by omega)
              have k105 : c_Bd A80a (c_W A80a (c_r (I 2439) 0)) v81 (I39a 1670) (I80a 1670) := c_Bd_up f89 (show c_r ((I39a 2439) - 1) 4 ≤ c_r (I 2439) 0 by unfold c_r; omega)
              obtain ⟨b106, b107, -⟩ := id k105
              show w_W _ _ _ (47, [(3, .int (Int32.ofInt (v40))), (2, .int (Int32.ofInt ((I 2117)))), (0, .ref 38), (1, .int (Int32.ofInt (b)))], [.int (Int32.ofInt (v81))], M79) _
              refine w_adv (n := 2) (F' := (50, [(4, .int (Int32.ofInt (v81))), (3, .int (Int32.ofInt (v40))), (2, .int (Int32.ofInt ((I 2117)))), (0, .ref 38), (1, .int (Int32.ofInt (b)))], [.ref 38], M79)) rfl ?_
              refine w_gf (v := .ref 33) hR80a rfl rfl rfl rfl ?_
              refine w_adv (n := 2) (F' := (55, [(4, .int (Int32.ofInt (v81))), (3, .int (Int32.ofInt (v40))), (2, .int (Int32.ofInt ((I 2117)))), (0, .ref 38), (1, .int (Int32.ofInt (b)))], [.int (Int32.ofInt (v40)), .int (Int32.ofInt ((I 2117))), .ref 33], M79)) rfl ?_
              refine w_call (cm := 121) (as := [(0, .ref 33), (1, .int (Int32.ofInt ((I 2117)))), (2, .int (Int32.ofInt (v40)))]) (rest := []) (o := some (5, 33)) rfl (w_fitR hR80a rfl) (c_lv ((I 2117)) (v40) hR80a (show 1 ≤ d by omega) ⟨by omega, by omega⟩ ⟨by omega, by omega⟩ (show -5 ≤ (I 2117) ∧ -5 ≤ v40 by first | assumption | omega)) (fun r108 M109 q110 => ?_)
              rcases q110 with ⟨A111, e112, hR110a, f113, f114⟩
              rw [e112]
              replace hR110a : w_Rep w_TC fr X u l I80a A111 B80a C80a M109 := hR110a
              replace f113 : c_fa c_pa A80a A111 := f113
              replace f114 : c_ags A80a A111 := f114
              have k115 : c_Bd A111 (c_W A111 (c_r (I 2439) 0)) v81 (I39a 1670) (I80a 1670) := c_Bd_agl k105 (c_ags_l f114 (I80a 1670)) (show 0 ≤ (I39a 1670) by omega) (show (I80a 1670) ≤ (I80a 1670) by omega)
              clear k105
              have g116 : c_agl A A111 (I 1670) := c_agl_trans g104 (c_ags_l f114 (I80a 1670)) (show (I 1670) ≤ (I80a 1670) by omega)
              show w_W _ _ _ (58, [(4, .int (Int32.ofInt (v81))), (3, .int (Int32.ofInt (v40))), (2, .int (Int32.ofInt ((I 2117)))), (0, .ref 38), (1, .int (Int32.ofInt (b)))], [], M109) _
              refine w_adv (n := 2) (F' := (61, [(4, .int (Int32.ofInt (v81))), (3, .int (Int32.ofInt (v40))), (2, .int (Int32.ofInt ((I 2117)))), (0, .ref 38), (1, .int (Int32.ofInt (b)))], [.int (Int32.ofInt (24)), .ref 38], M109)) rfl ?_
              refine w_call (cm := 113) (as := [(0, .ref 38), (1, .int (Int32.ofInt (24)))]) (rest := []) (o := some (4, 38)) rfl (w_fitR hR110a rfl) (c_close (24) hR110a (show 4 ≤ d by omega) ⟨by omega, by omega⟩ (show l ≤ 100000 by first | assumption | omega) (show -1 ≤ (I80a 2436) ∧ ((I80a 2437) = 0 ∨ (I80a 2436) < (I80a 773)) ∧ (I80a 773) ≤ 1501 ∧ 1 ≤ 24 by first | assumption | omega) (show 0 ≤ (I80a 2439) ∧ (I80a 2439) ≤ 24 by first | assumption | omega)) (fun r117 M118 q119 => ?_)
              rcases q119 with ⟨zt120, zk121, zv122, e123, hR119a, f124, f125⟩ | ⟨t126, I119b, A119b, B119b, C119b, e127, hR119b, f128, f129, f130⟩
              · rw [e123]
                replace hR119a : w_Rep w_TC fr X u l (w_up (w_up (w_up (w_up (w_up I80a 2436 ((I80a 2436) + 1)) 2441 (zt120)) 2437 (zk121)) 2438 (zv122)) 2439 ((I80a 2439) - 1)) A111 B80a C80a M118 := hR119a
                replace f124 : ((I80a 2436) + 1 < (I80a 773) ∨ zk121 = 0) := f124
                replace f125 : (I80a 2437) = 24 := f125
                show w_W _ _ _ (64, [(4, .int (Int32.ofInt (v81))), (3, .int (Int32.ofInt (v40))), (2, .int (Int32.ofInt ((I 2117)))), (0, .ref 38), (1, .int (Int32.ofInt (b)))], [], M118) _
                refine w_adv (n := 1) (F' := (65, [(4, .int (Int32.ofInt (v81))), (3, .int (Int32.ofInt (v40))), (2, .int (Int32.ofInt ((I 2117)))), (0, .ref 38), (1, .int (Int32.ofInt (b)))], [.ref 38], M118)) rfl ?_
                refine w_gf (v := .ref 26) hR119a rfl rfl rfl rfl ?_
                refine w_adv (n := 1) (F' := (69, [(4, .int (Int32.ofInt (v81))), (3, .int (Int32.ofInt (v40))), (2, .int (Int32.ofInt ((I 2117)))), (0, .ref 38), (1, .int (Int32.ofInt (b)))], [.int (Int32.ofInt (b)), .ref 26], M118)) rfl ?_
                refine w_br1 (a := b) rfl rfl ⟨by omega, by omega⟩ (fun h131 => ?_) (fun h131 => ?_)
                · have h131 : b = 0 := h131
                  show w_W _ _ _ (77, [(4, .int (Int32.ofInt (v81))), (3, .int (Int32.ofInt (v40))), (2, .int (Int32.ofInt ((I 2117)))), (0, .ref 38), (1, .int (Int32.ofInt (b)))], [.ref 26], M118) _
                  refine w_adv (n := 5) (F' := (84, [(4, .int (Int32.ofInt (v81))), (3, .int (Int32.ofInt (v40))), (2, .int (Int32.ofInt ((I 2117)))), (0, .ref 38), (1, .int (Int32.ofInt (b)))], [.int (Int32.ofInt ((I 2117))), .int (Int32.ofInt (v40)), .int (Int32.ofInt (v81)), .int (Int32.ofInt ((I 2117))), .int (Int32.ofInt (11)), .ref 26], M118)) rfl ?_
                  refine w_sub rfl ?_
                  refine w_int (fun x132 r133 e134 => ?_)
                  obtain ⟨r133a, r133b⟩ := r133
                  clear e134
                  refine w_call (cm := 94) (as := [(0, .ref 26), (1, .int (Int32.ofInt (11))), (2, .int (Int32.ofInt ((I 2117)))), (3, .int (Int32.ofInt (v81))), (4, .int (Int32.ofInt (x132)))]) (rest := []) (o := some (8, 26)) rfl (w_fitR hR119a rfl) (c_mkn (11) ((I 2117)) (v81) (x132) hR119a (show 2 ≤ d by omega) ⟨by omega, by omega⟩ ⟨by omega, by omega⟩ ⟨by omega, by omega⟩ ⟨by omega, by omega⟩ (show 0 ≤ (I80a 1670) ∧ (I80a 1670) < 3016 by first | assumption | omega)) (fun r135 M136 q137 => ?_)
                  rcases q137 with ⟨A138, e139, hR137a, f140, f141⟩
                  rw [e139]
                  replace hR137a : w_Rep w_TC fr X u l (w_up (w_up (w_up (w_up (w_up (w_up I80a 2436 ((I80a 2436) + 1)) 2441 (zt120)) 2437 (zk121)) 2438 (zv122)) 2439 ((I80a 2439) - 1)) 1670 ((I80a 1670) + 1)) A138 B80a C80a M136 := hR137a
                  replace f140 : c_fa c_pa A111 A138 := f140
                  replace f141 : c_mk A111 A138 (I80a 1670) 11 (I 2117) v81 x132 := f141
                  have k142 : c_Wn A138 (c_r (I 2439) 1) (I80a 1670) (I39a 1670) ((I80a 1670) + 1) := c_Wn_up ⟨c_W_11 f141 (by omega) (show 0 ≤ (I39a 1670) by omega) (c_BdW_win k115 (show (I39a 1670) ≤ (I39a 1670) by omega) (show (I80a 1670) ≤ (I80a 1670) by omega)), f141.2.2.2.2.2⟩ (show (c_r (I 2439) 0) + 1 ≤ (c_r (I 2439) 1) by unfold c_r; omega)
                  have k143 : c_Bd A138 (c_W A138 (c_r (I 2439) 0)) v81 (I39a 1670) (I80a 1670) := c_Bd_agl k115 f141.1 (show 0 ≤ (I39a 1670) by omega) (show (I80a 1670) ≤ (I80a 1670) by omega)
                  clear k115
                  have g144 : c_agl A A138 (I 1670) := c_agl_trans g116 f141.1 (show (I 1670) ≤ (I80a 1670) by omega)
                  show w_W _ _ _ (88, [(4, .int (Int32.ofInt (v81))), (3, .int (Int32.ofInt (v40))), (2, .int (Int32.ofInt ((I 2117)))), (0, .ref 38), (1, .int (Int32.ofInt (b)))], [.int (Int32.ofInt ((I80a 1670)))], M136) _
                  refine w_fin (r := .inl (some ((I80a 1670)))) (M' := M136) rfl ?_
                  exact Or.inl ⟨(I80a 1670), (w_up (w_up (w_up (w_up (w_up (w_up I80a 2436 ((I80a 2436) + 1)) 2441 (zt120)) 2437 (zk121)) 2438 (zv122)) 2439 ((I80a 2439) - 1)) 1670 ((I80a 1670) + 1)), A138, B80a, C80a, rfl, ⟨by omega, by omega⟩, hR137a, (show c_fi c_ps I (w_up (w_up (w_up (w_up (w_up (w_up I80a 2436 ((I80a 2436) + 1)) 2441 (zt120)) 2437 (zk121)) 2438 (zv122)) 2439 ((I80a 2439) - 1)) 1670 ((I80a 1670) + 1)) by exact (c_fi_up (c_fi_up (c_fi_up (c_fi_up (c_fi_up (c_fi_up (c_fi_trans (c_fi_up (c_fi_up (c_fi_up (c_fi_up (c_fi_up (c_fi_trans (c_fi_up (c_fi_up (c_fi_up (c_fi_up (c_fi_up c_fi_refl rfl) rfl) rfl) rfl) rfl) f44) rfl) rfl) rfl) rfl) rfl) f85) rfl) rfl) rfl) rfl) rfl) rfl)), (show c_fa c_pa A A138 by exact (c_fa_trans (c_fa_trans (c_fa_trans f45 f86) f113) f140)), (show (0 ≤ (I80a 2436) + 1 ∧ (I80a 2436) + 1 ≤ (I80a 773) ∧ (zk121 = 0 ∨ (I80a 2436) + 1 < (I80a 773))) ∧ ((I80a 773) = (I 773) ∧ (I80a 2439) - 1 = (I 2439) ∧ 0 ≤ (I80a 2117)) ∧ (I 2436) + 1 ≤ (I80a 2436) + 1 ∧ ((I80a 1670) + 1) + 1 ≤ (I 1670) + 2 * (((I80a 2436) + 1) - (I 2436)) ∧ (I 1670) ≤ (I80a 1670) + 1 by (repeat' apply And.intro) <;> first | assumption | omega), (show c_agl A A138 (I 1670) by exact g144), (show c_Wn A138 (c_r (I 2439) 1) (I80a 1670) (I 1670) ((I80a 1670) + 1) by exact c_Wn_win (c_Wn_up k142 (show c_r (I 2439) 1 ≤ c_r (I 2439) 1 by unfold c_r; omega)) (show (I 1670) ≤ (I39a 1670) by omega) (show ((I80a 1670) + 1) ≤ ((I80a 1670) + 1) by omega))⟩
                · have h131 : ¬ (b = 0) := h131
                  show w_W _ _ _ (72, [(4, .int (Int32.ofInt (v81))), (3, .int (Int32.ofInt (v40))), (2, .int (Int32.ofInt ((I 2117)))), (0, .ref 38), (1, .int (Int32.ofInt (b)))], [.ref 26], M118) _
                  refine w_adv (n := 6) (F' := (84, [(4, .int (Int32.ofInt (v81))), (3, .int (Int32.ofInt (v40))), (2, .int (Int32.ofInt ((I 2117)))), (0, .ref 38), (1, .int (Int32.ofInt (b)))], [.int (Int32.ofInt ((I 2117))), .int (Int32.ofInt (v40)), .int (Int32.ofInt (v81)), .int (Int32.ofInt ((I 2117))), .int (Int32.ofInt (12)), .ref 26], M118)) rfl ?_
                  refine w_sub rfl ?_
                  refine w_int (fun x145 r146 e147 => ?_)
                  obtain ⟨r146a, r146b⟩ := r146
                  clear e147
                  refine w_call (cm := 94) (as := [(0, .ref 26), (1, .int (Int32.ofInt (12))), (2, .int (Int32.ofInt ((I 2117)))), (3, .int (Int32.ofInt (v81))), (4, .int (Int32.ofInt (x145)))]) (rest := []) (o := some (8, 26)) rfl (w_fitR hR119a rfl) (c_mkn (12) ((I 2117)) (v81) (x145) hR119a (show 2 ≤ d by omega) ⟨by omega, by omega⟩ ⟨by omega, by omega⟩ ⟨by omega, by omega⟩ ⟨by omega, by omega⟩ (show 0 ≤ (I80a 1670) ∧ (I80a 1670) < 3016 by first | assumption | omega)) (fun r148 M149 q150 => ?_)
                  rcases q150 with ⟨A151, e152, hR150a, f153, f154⟩
                  rw [e152]
                  replace hR150a : w_Rep w_TC fr X u l (w_up (w_up (w_up (w_up (w_up (w_up I80a 2436 ((I80a 2436) + 1)) 2441 (zt120)) 2437 (zk121)) 2438 (zv122)) 2439 ((I80a 2439) - 1)) 1670 ((I80a 1670) + 1)) A151 B80a C80a M149 := hR150a
                  replace f153 : c_fa c_pa A111 A151 := f153
                  replace f154 : c_mk A111 A151 (I80a 1670) 12 (I 2117) v81 x145 := f154
                  have k155 : c_Wn A151 (c_r (I 2439) 1) (I80a 1670) (I39a 1670) ((I80a 1670) + 1) := c_Wn_up ⟨c_W_11 f154 (by omega) (show 0 ≤ (I39a 1670) by omega) (c_BdW_win k115 (show (I39a 1670) ≤ (I39a 1670) by omega) (show (I80a 1670) ≤ (I80a 1670) by omega)), f154.2.2.2.2.2⟩ (show (c_r (I 2439) 0) + 1 ≤ (c_r (I 2439) 1) by unfold c_r; omega)
                  have k156 : c_Bd A151 (c_W A151 (c_r (I 2439) 0)) v81 (I39a 1670) (I80a 1670) := c_Bd_agl k115 f154.1 (show 0 ≤ (I39a 1670) by omega) (show (I80a 1670) ≤ (I80a 1670) by omega)
                  clear k115
                  have g157 : c_agl A A151 (I 1670) := c_agl_trans g116 f154.1 (show (I 1670) ≤ (I80a 1670) by omega)
                  show w_W _ _ _ (88, [(4, .int (Int32.ofInt (v81))), (3, .int (Int32.ofInt (v40))), (2, .int (Int32.ofInt ((I 2117)))), (0, .ref 38), (1, .int (Int32.ofInt (b)))], [.int (Int32.ofInt ((I80a 1670)))], M149) _
                  refine w_fin (r := .inl (some ((I80a 1670)))) (M' := M149) rfl ?_
                  exact Or.inl ⟨(I80a 1670), (w_up (w_up (w_up (w_up (w_up (w_up I80a 2436 ((I80a 2436) + 1)) 2441 (zt120)) 2437 (zk121)) 2438 (zv122)) 2439 ((I80a 2439) - 1)) 1670 ((I80a 1670) + 1)), A151, B80a, C80a, rfl, ⟨by omega, by omega⟩, hR150a, (show c_fi c_ps I (w_up (w_up (w_up (w_up (w_up (w_up I80a 2436 ((I80a 2436) + 1)) 2441 (zt120)) 2437 (zk121)) 2438 (zv122)) 2439 ((I80a 2439) - 1)) 1670 ((I80a 1670) + 1)) by exact (c_fi_up (c_fi_up (c_fi_up (c_fi_up (c_fi_up (c_fi_up (c_fi_trans (c_fi_up (c_fi_up (c_fi_up (c_fi_up (c_fi_up (c_fi_trans (c_fi_up (c_fi_up (c_fi_up (c_fi_up (c_fi_up c_fi_refl rfl) rfl) rfl) rfl) rfl) f44) rfl) rfl) rfl) rfl) rfl) f85) rfl) rfl) rfl) rfl) rfl) rfl)), (show c_fa c_pa A A151 by exact (c_fa_trans (c_fa_trans (c_fa_trans f45 f86) f113) f153)), (show (0 ≤ (I80a 2436) + 1 ∧ (I80a 2436) + 1 ≤ (I80a 773) ∧ (zk121 = 0 ∨ (I80a 2436) + 1 < (I80a 773))) ∧ ((I80a 773) = (I 773) ∧ (I80a 2439) - 1 = (I 2439) ∧ 0 ≤ (I80a 2117)) ∧ (I 2436) + 1 ≤ (I80a 2436) + 1 ∧ ((I80a 1670) + 1) + 1 ≤ (I 1670) + 2 * (((I80a 2436) + 1) - (I 2436)) ∧ (I 1670) ≤ (I80a 1670) + 1 by (repeat' apply And.intro) <;> first | assumption | omega), (show c_agl A A151 (I 1670) by exact g157), (show c_Wn A151 (c_r (I 2439) 1) (I80a 1670) (I 1670) ((I80a 1670) + 1) by exact c_Wn_win (c_Wn_up k155 (show c_r (I 2439) 1 ≤ c_r (I 2439) 1 by unfold c_r; omega)) (show (I 1670) ≤ (I39a 1670) by omega) (show ((I80a 1670) + 1) ≤ ((I80a 1670) + 1) by omega))⟩
              · rw [e127]
                replace hR119b : w_Rep w_TC fr X (u + 6) (l + 64) I119b A119b B119b C119b M118 := hR119b
                replace f128 : c_fi c_ps I80a I119b := f128
                replace f129 : c_fa c_pa A111 A119b := f129
                replace f130 : M118.1[t126]? = some (.inr (11, [])) := f130
                exact Or.inr (⟨t126, I119b, A119b, B119b, C119b, rfl, hR119b, (show c_fi c_ps I I119b by exact (c_fi_trans (c_fi_trans (c_fi_up (c_fi_up (c_fi_up (c_fi_up (c_fi_up (c_fi_trans (c_fi_up (c_fi_up (c_fi_up (c_fi_up (c_fi_up c_fi_refl rfl) rfl) rfl) rfl) rfl) f44) rfl) rfl) rfl) rfl) rfl) f85) f128)), (show c_fa c_pa A A119b by exact (c_fa_trans (c_fa_trans (c_fa_trans f45 f86) f113) f129)), (show M118.1[t126]? = some (.inr (11, [])) by exact f130)⟩)
            · rw [e91]
              replace hR80b : w_Rep w_TC fr X (u + 6) (l + 64) I80b A80b B80b C80b M79 := hR80b
              replace f92 : c_fi c_ps (w_up (w_up (w_up (w_up (w_up I39a 2436 ((I39a 2436) + 1)) 2441 (zt67)) 2437 (zk68)) 2438 (zv69)) 2439 ((I39a 2439) - 1)) I80b := f92
              replace f93 : c_fa c_pa A39a A80b := f93
              replace f94 : M79.1[t90]? = some (.inr (11, [])) := f94
              exact Or.inr (⟨t90, I80b, A80b, B80b, C80b, rfl, hR80b, (show c_fi c_ps I I80b by exact (c_fi_trans (c_fi_up (c_fi_up (c_fi_up (c_fi_up (c_fi_up (c_fi_trans (c_fi_up (c_fi_up (c_fi_up (c_fi_up (c_fi_up c_fi_refl rfl) rfl) rfl) rfl) rfl) f44) rfl) rfl) rfl) rfl) rfl) f92)), (show c_fa c_pa A A80b by exact (c_fa_trans f45 f93)), (show M79.1[t90]? = some (.inr (11, [])) by exact f94)⟩)
          · rw [e74]
            replace hR66b : w_Rep w_TC fr X (u + 6) (l + 64) I66b A66b B66b C66b M65 := hR66b
            replace f75 : c_fi c_ps I39a I66b := f75
            replace f76 : c_fa c_pa A39a A66b := f76
            replace f77 : M65.1[t73]? = some (.inr (11, [])) := f77
            exact Or.inr (⟨t73, I66b, A66b, B66b, C66b, rfl, hR66b, (show c_fi c_ps I I66b by exact (c_fi_trans (c_fi_trans (c_fi_up (c_fi_up (c_fi_up (c_fi_up (c_fi_up c_fi_refl rfl) rfl) rfl) rfl) rfl) f44) f75)), (show c_fa c_pa A A66b by exact (c_fa_trans f45 f76)), (show M65.1[t73]? = some (.inr (11, [])) by exact f77)⟩)
        · rw [e50]
          replace hR39b : w_Rep w_TC fr X (u + 6) (l + 64) I39b A39b B39b C39b M38 := hR39b
          replace f51 : c_fi c_ps (w_up (w_up (w_up (w_up (w_up I 2436 ((I 2436) + 1 + 1)) 2441 (zt21)) 2437 (zk22)) 2438 (zv23)) 2439 ((I 2439) + 1 + 1)) I39b := f51
          replace f52 : c_fa c_pa A A39b := f52
          replace f53 : M38.1[t49]? = some (.inr (11, [])) := f53
          exact Or.inr (⟨t49, I39b, A39b, B39b, C39b, rfl, hR39b, (show c_fi c_ps I I39b by exact (c_fi_trans (c_fi_up (c_fi_up (c_fi_up (c_fi_up (c_fi_up c_fi_refl rfl) rfl) rfl) rfl) rfl) f51)), (show c_fa c_pa A A39b by exact f52), (show M38.1[t49]? = some (.inr (11, [])) by exact f53)⟩)
      · rw [e28]
        replace hR20b : w_Rep w_TC fr X (u + 6) (l + 64) I20b A20b B20b C20b M19 := hR20b
        replace f29 : c_fi c_ps (w_up (w_up (w_up (w_up (w_up I 2436 ((I 2436) + 1)) 2441 (zt4)) 2437 (zk5)) 2438 (zv6)) 2439 ((I 2439) + 1)) I20b := f29
        replace f30 : c_fa c_pa A A20b := f30
        replace f31 : M19.1[t27]? = some (.inr (11, [])) := f31
        exact Or.inr (⟨t27, I20b, A20b, B20b, C20b, rfl, hR20b, (show c_fi c_ps I I20b by exact (c_fi_trans (c_fi_up (c_fi_up (c_fi_up (c_fi_up (c_fi_up c_fi_refl rfl) rfl) rfl) rfl) rfl) f29)), (show c_fa c_pa A A20b by exact f30), (show M19.1[t27]? = some (.inr (11, [])) by exact f31)⟩)
    · have h17 : ¬ (zk5 = 7) := h17
      show w_W _ _ _ (13, [(0, .ref 38), (1, .int (Int32.ofInt (b)))], [], M2) _
      refine w_adv (n := 2) (F' := (15, [(0, .ref 38), (1, .int (Int32.ofInt (b)))], [.int (Int32.ofInt (1)), .ref 38], M2)) rfl ?_
      refine w_call (cm := 100) (as := [(0, .ref 38), (1, .int (Int32.ofInt (1)))]) (rest := []) (o := some (4, 38)) rfl (w_fitR hR3a rfl) (c_fail (1) hR3a ⟨by omega, by omega⟩ (show l ≤ 100000 by first | assumption | omega) (show 1 ≤ 1 ∧ 1 ≤ 7 by first | assumption | omega)) (fun r158 M159 q160 => ?_)
      rcases q160 with ⟨t161, I160a, A160a, B160a, C160a, e162, hR160a, f163, f164, f165⟩
      rw [e162]
      replace hR160a : w_Rep w_TC fr X (u + 6) (l + 64) I160a A160a B160a C160a M159 := hR160a
      replace f163 : c_fi c_ps (w_up (w_up (w_up (w_up (w_up I 2436 ((I 2436) + 1)) 2441 (zt4)) 2437 (zk5)) 2438 (zv6)) 2439 ((I 2439) + 1)) I160a := f163
      replace f164 : c_fa c_pa A A160a := f164
      replace f165 : M159.1[t161]? = some (.inr (11, [])) := f165
      exact Or.inr (⟨t161, I160a, A160a, B160a, C160a, rfl, hR160a, (show c_fi c_ps I I160a by exact (c_fi_trans (c_fi_up (c_fi_up (c_fi_up (c_fi_up (c_fi_up c_fi_refl rfl) rfl) rfl) rfl) rfl) f163)), (show c_fa c_pa A A160a by exact f164), (show M159.1[t161]? = some (.inr (11, [])) by exact f165)⟩)
  · rw [e11]
    replace hR3b : w_Rep w_TC fr X (u + 6) (l + 64) I3b A3b B3b C3b M2 := hR3b
    replace f12 : c_fi c_ps I I3b := f12
    replace f13 : c_fa c_pa A A3b := f13
    replace f14 : M2.1[t10]? = some (.inr (11, [])) := f14
    exact Or.inr (⟨t10, I3b, A3b, B3b, C3b, rfl, hR3b, (show c_fi c_ps I I3b by exact f12), (show c_fa c_pa A A3b by exact f13), (show M2.1[t10]? = some (.inr (11, [])) by exact f14)⟩)
