def c_local_Q (fr : Nat → Bool) (X : Nat → Option (q_C (Nat → Int32))) (u l : Nat) (I : Nat → Int) (A : Nat → Int → Int) (B C : Nat → Nat) (M : w_M) (b : Int) : w_X → w_M → Prop := fun r M' => (∃ v : Int, ∃ (I' : Nat → Int) (A' : Nat → Int → Int) (B' C' : Nat → Nat), (r = .inl (some v)) ∧ (w_in v) ∧ (w_Rep w_TC fr X u l I' A' B' C' M') ∧ (c_fi c_ps I I') ∧ (c_fa c_pa A A') ∧ ((0 ≤ (I' 2436) ∧ (I' 2436) ≤ (I' 773) ∧ ((I' 2437) = 0 ∨ (I' 2436) < (I' 773))) ∧ ((I' 773) = (I 773) ∧ (I' 2439) = (I 2439) ∧ 0 ≤ (I' 2117)) ∧ (I 2436) + 1 ≤ (I' 2436) ∧ (I' 1670) + 1 ≤ (I 1670) + 2 * ((I' 2436) - (I 2436)) ∧ (I 1670) ≤ (I' 1670)) ∧ (c_agl A A' (I 1670)) ∧ (c_Wn A' (c_r (I 2439) 1) v (I 1670) (I' 1670))) ∨ (∃ t : Nat, ∃ (I' : Nat → Int) (A' : Nat → Int → Int) (B' C' : Nat → Nat), (r = .inr t) ∧ (w_Rep w_TC fr X (u + 6) (l + 64) I' A' B' C' M') ∧ (c_fi c_ps I I') ∧ (c_fa c_pa A A') ∧ (M'.1[t]? = some (.inr (11, []))))
set_option maxHeartbeats 100000000 in
set_option maxRecDepth 100000 in
theorem c_local {L : Nat} {xs : Nat → Int32} {d : Nat} {fr : Nat → Bool} {X : Nat → Option (q_C (Nat → Int32))} {u l : Nat} {I : Nat → Int} {A : Nat → Int → Int} {B C : Nat → Nat} {M : w_M} (hA : c_ALL L xs d) (b : Int) (hR : w_Rep w_TC fr X u l I A B C M) (hd : 10 * (24 - (I 2439)) + 9 ≤ (d : Int)) (r_b : w_in b) (hl : l ≤ 7000000) (hNU : (0 ≤ (I 2436) ∧ (I 2436) ≤ (I 773) ∧ (I 773) ≤ 1501 ∧ ((I 2437) = 0 ∨ (I 2436) < (I 773))) ∧ (0 ≤ (I 2439) ∧ (I 2439) ≤ 24 ∧ 0 ≤ (I 2117)) ∧ 0 ≤ (I 1670) ∧ (I 1670) ≤ 2 * (I 2436) + 1) (hk0 : ¬ (I 2437) = 0) : w_W (z_P L xs) d 122 (0, [(0, .ref 38), (1, .int (Int32.ofInt (b)))], [], M) (c_local_Q fr X u l I A B C M b) := by
  obtain ⟨ra_b, rb_b⟩ := r_b
  obtain ⟨d, rfl⟩ : ∃ d0, d = d0 + 1 := ⟨d - 1, by omega⟩
  refine w_adv (n := 1) (F' := (1, [(0, .ref 38), (1, .int (Int32.ofInt (b)))], [.ref 38], M)) rfl ?_
  refine w_call (cm := 99) (as := [(0, .ref 38)]) (rest := []) (o := some (4, 38)) rfl (w_fitR hR rfl) (c_open hR (show 4 ≤ d by omega) (show l ≤ 7000000 by first | assumption | omega) (show -1 ≤ (I 2436) ∧ (I 2436) < (I 773) ∧ (I 773) ≤ 1501 by first | assumption | omega) (show 0 ≤ (I 2439) ∧ (I 2439) ≤ 24 by first | assumption | omega)) (fun r1 M2 q3 => ?_)
  rcases q3 with ⟨zt4, zk5, zv6, e7, hR3a, f8, f9⟩ | ⟨t10, I3b, A3b, B3b, C3b, e11, hR3b, f12, f13, f14⟩
  · rw [e7]
    replace hR3a : w_Rep w_TC fr X u l (w_up (w_up (w_up (w_up (w_up I 2436 ((I 2436) + 1)) 2441 (zt4)) 2437 (zk5)) 2438 (zv6)) 2439 ((I 2439) + 1)) A B C M2 := hR3a
    replace f8 : ((I 2436) + 1 < (I 773) ∨ zk5 = 0) := f8
    replace f9 : (I 2439) < 24 := f9
    show w_W _ _ _ (4, [(0, .ref 38), (1, .int (Int32.ofInt (b)))], [], M2) _
    refine w_adv (n := 1) (F' := (5, [(0, .ref 38), (1, .int (Int32.ofInt (b)))], [.ref 38], M2)) rfl ?_
    refine w_gf (v := .ref 33) hR3a rfl rfl rfl rfl ?_
    refine w_call (cm := 118) (as := [(0, .ref 33)]) (rest := []) (o := some (5, 33)) rfl (w_fitR hR3a rfl) (c_snext hR3a) (fun r15 M16 q17 => ?_)
    rcases q17 with ⟨e18, e19⟩
    rw [e18, e19]
    obtain ⟨r20, r21⟩ : -2147483648 ≤ (I 2117) ∧ (I 2117) ≤ 2147483647 := hR3a.ri 2117
    show w_W _ _ _ (11, [(0, .ref 38), (1, .int (Int32.ofInt (b)))], [.int (Int32.ofInt ((I 2117)))], M2) _
    refine w_adv (n := 2) (F' := (13, [(2, .int (Int32.ofInt ((I 2117)))), (0, .ref 38), (1, .int (Int32.ofInt (b)))], [.ref 38], M2)) rfl ?_
    refine w_gf (v := .int (Int32.ofInt (zk5))) hR3a rfl rfl rfl rfl ?_
    obtain ⟨r22, r23⟩ : -2147483648 ≤ zk5 ∧ zk5 ≤ 2147483647 := hR3a.ri 2437
    refine w_adv (n := 1) (F' := (17, [(2, .int (Int32.ofInt ((I 2117)))), (0, .ref 38), (1, .int (Int32.ofInt (b)))], [.int (Int32.ofInt (2)), .int (Int32.ofInt (zk5))], M2)) rfl ?_
    refine w_br2 (a := zk5) (b := 2) rfl rfl ⟨by omega, by omega⟩ ⟨by omega, by omega⟩ (fun h24 => ?_) (fun h24 => ?_)
    · have h24 : zk5 = 2 := h24
      show w_W _ _ _ (26, [(2, .int (Int32.ofInt ((I 2117)))), (0, .ref 38), (1, .int (Int32.ofInt (b)))], [], M2) _
      refine w_adv (n := 1) (F' := (27, [(2, .int (Int32.ofInt ((I 2117)))), (0, .ref 38), (1, .int (Int32.ofInt (b)))], [.ref 38], M2)) rfl ?_
      refine w_call (cm := 119) (as := [(0, .ref 38)]) (rest := []) (o := some (4, 38)) rfl (w_fitR hR3a rfl) (c_variables hR3a (show 5 ≤ d by omega) (show l ≤ 7000000 by first | assumption | omega) (show (0 ≤ (I 2436) + 1 ∧ (I 2436) + 1 ≤ (I 773) ∧ (I 773) ≤ 1501 ∧ (zk5 = 0 ∨ (I 2436) + 1 < (I 773))) ∧ (0 ≤ (I 2439) + 1 ∧ (I 2439) + 1 ≤ 24 ∧ 0 ≤ (I 2117)) ∧ 0 ≤ (I 1670) ∧ (I 1670) ≤ 2 * ((I 2436) + 1) + 1 by (repeat' apply And.intro) <;> first | assumption | omega)) (fun r25 M26 q27 => ?_)
      rcases q27 with ⟨v28, I27a, A27a, B27a, C27a, e29, ⟨r30, r31⟩, hR27a, f32, f33, f34, f35, f36⟩ | ⟨t37, I27b, A27b, B27b, C27b, e38, hR27b, f39, f40, f41⟩
      · rw [e29]
        replace hR27a : w_Rep w_TC fr X u l I27a A27a B27a C27a M26 := hR27a
        replace f32 : c_fi c_ps (w_up (w_up (w_up (w_up (w_up I 2436 ((I 2436) + 1)) 2441 (zt4)) 2437 (zk5)) 2438 (zv6)) 2439 ((I 2439) + 1)) I27a := f32
        replace f33 : c_fa c_pa A A27a := f33
        replace f34 : (0 ≤ (I27a 2436) ∧ (I27a 2436) ≤ (I27a 773) ∧ ((I27a 2437) = 0 ∨ (I27a 2436) < (I27a 773))) ∧ ((I27a 773) = (I 773) ∧ (I27a 2439) = (I 2439) + 1 ∧ 0 ≤ (I27a 2117)) ∧ ((I 2436) + 1) + 0 ≤ (I27a 2436) ∧ (I27a 1670) + 0 ≤ (I 1670) + 2 * ((I27a 2436) - ((I 2436) + 1)) ∧ (I 1670) ≤ (I27a 1670) := f34
        obtain ⟨⟨n42, n43, n44⟩, ⟨n45, n46, n47⟩, n48, n49, n50⟩ := id f34
        clear f34
        replace f35 : c_agl A A27a (I 1670) := f35
        replace f36 : 0 ≤ v28 := f36
        have g51 : c_agl A A27a (I 1670) := c_agl_trans c_agl_refl f35 (show (I 1670) ≤ (I 1670) by omega)
        show w_W _ _ _ (30, [(2, .int (Int32.ofInt ((I 2117)))), (0, .ref 38), (1, .int (Int32.ofInt (b)))], [.int (Int32.ofInt (v28))], M26) _
        refine w_adv (n := 3) (F' := (34, [(3, .int (Int32.ofInt (v28))), (2, .int (Int32.ofInt ((I 2117)))), (0, .ref 38), (1, .int (Int32.ofInt (b)))], [.int (Int32.ofInt (23)), .ref 38], M26)) rfl ?_
        refine w_call (cm := 105) (as := [(0, .ref 38), (1, .int (Int32.ofInt (23)))]) (rest := []) (o := some (4, 38)) rfl (w_fitR hR27a rfl) (c_need (23) hR27a (show 4 ≤ d by omega) ⟨by omega, by omega⟩ (show l ≤ 7000000 by first | assumption | omega) (show -1 ≤ (I27a 2436) ∧ ((I27a 2437) = 0 ∨ (I27a 2436) < (I27a 773)) ∧ (I27a 773) ≤ 1501 ∧ 1 ≤ 23 by first | assumption | omega)) (fun r52 M53 q54 => ?_)
        rcases q54 with ⟨zt55, zk56, zv57, e58, hR54a, f59, f60⟩ | ⟨t61, I54b, A54b, B54b, C54b, e62, hR54b, f63, f64, f65⟩
        · rw [e58]
          replace hR54a : w_Rep w_TC fr X u l (w_up (w_up (w_up (w_up I27a 2436 ((I27a 2436) + 1)) 2441 (zt55)) 2437 (zk56)) 2438 (zv57)) A27a B27a C27a M53 := hR54a
          replace f59 : ((I27a 2436) + 1 < (I27a 773) ∨ zk56 = 0) := f59
          replace f60 : (I27a 2437) = 23 := f60
          show w_W _ _ _ (37, [(3, .int (Int32.ofInt (v28))), (2, .int (Int32.ofInt ((I 2117)))), (0, .ref 38), (1, .int (Int32.ofInt (b)))], [], M53) _
          refine w_adv (n := 2) (F' := (39, [(3, .int (Int32.ofInt (v28))), (2, .int (Int32.ofInt ((I 2117)))), (0, .ref 38), (1, .int (Int32.ofInt (b)))], [.int (Int32.ofInt (b)), .ref 38], M53)) rfl ?_
          refine w_call (cm := 88) (as := [(0, .ref 38), (1, .int (Int32.ofInt (b)))]) (rest := []) (o := some (4, 38)) rfl (w_fitR hR54a rfl) ((hA d (Nat.lt_succ_self d)).2 (b) hR54a (show 10 * (24 - (I27a 2439)) + 15 ≤ (d : Int) by omega) ⟨by omega, by omega⟩ (show l ≤ 7000000 by first | assumption | omega) (show (0 ≤ (I27a 2436) + 1 ∧ (I27a 2436) + 1 ≤ (I27a 773) ∧ (I27a 773) ≤ 1501 ∧ (zk56 = 0 ∨ (I27a 2436) + 1 < (I27a 773))) ∧ (0 ≤ (I27a 2439) ∧ (I27a 2439) ≤ 24 ∧ 0 ≤ (I27a 2117)) ∧ 0 ≤ (I27a 1670) ∧ (I27a 1670) ≤ 2 * ((I27a 2436) + 1) + 1 by (repeat' apply And.intro) <;> first | assumption | omega)) (fun r66 M67 q68 => ?_)
          rcases q68 with ⟨v69, I68a, A68a, B68a, C68a, e70, ⟨r71, r72⟩, hR68a, f73, f74, f75, f76, f77⟩ | ⟨t78, I68b, A68b, B68b, C68b, e79, hR68b, f80, f81, f82⟩
          · rw [e70]
            replace hR68a : w_Rep w_TC fr X u l I68a A68a B68a C68a M67 := hR68a
            replace f73 : c_fi c_ps (w_up (w_up (w_up (w_up I27a 2436 ((I27a 2436) + 1)) 2441 (zt55)) 2437 (zk56)) 2438 (zv57)) I68a := f73
            replace f74 : c_fa c_pa A27a A68a := f74
            replace f75 : (0 ≤ (I68a 2436) ∧ (I68a 2436) ≤ (I68a 773) ∧ ((I68a 2437) = 0 ∨ (I68a 2436) < (I68a 773))) ∧ ((I68a 773) = (I27a 773) ∧ (I68a 2439) = (I27a 2439) ∧ 0 ≤ (I68a 2117)) ∧ ((I27a 2436) + 1) + 1 ≤ (I68a 2436) ∧ (I68a 1670) + 0 ≤ (I27a 1670) + 2 * ((I68a 2436) - ((I27a 2436) + 1)) ∧ (I27a 1670) ≤ (I68a 1670) := f75
            obtain ⟨⟨n83, n84, n85⟩, ⟨n86, n87, n88⟩, n89, n90, n91⟩ := id f75
            clear f75
            replace f76 : c_agl A27a A68a (I27a 1670) := f76
            replace f77 : c_Bd A68a (c_W A68a (c_r (I27a 2439) 4)) v69 (I27a 1670) (I68a 1670) := f77
            have g92 : c_agl A A68a (I 1670) := c_agl_trans g51 f76 (show (I 1670) ≤ (I27a 1670) by omega)
            have k93 : c_Bd A68a (c_W A68a (c_r (I 2439) 0)) v69 (I27a 1670) (I68a 1670) := c_Bd_up f77 (show c_r (I27a 2439) 4 ≤ c_r (I 2439) 0 by unfold c_r; omega)
            obtain ⟨b94, b95, -⟩ := id k93
            show w_W _ _ _ (42, [(3, .int (Int32.ofInt (v28))), (2, .int (Int32.ofInt ((I 2117)))), (0, .ref 38), (1, .int (Int32.ofInt (b)))], [.int (Int32.ofInt (v69))], M67) _
            refine w_adv (n := 2) (F' := (45, [(4, .int (Int32.ofInt (v69))), (3, .int (Int32.ofInt (v28))), (2, .int (Int32.ofInt ((I 2117)))), (0, .ref 38), (1, .int (Int32.ofInt (b)))], [.ref 38], M67)) rfl ?_
            refine w_gf (v := .ref 33) hR68a rfl rfl rfl rfl ?_
            refine w_adv (n := 2) (F' := (50, [(4, .int (Int32.ofInt (v69))), (3, .int (Int32.ofInt (v28))), (2, .int (Int32.ofInt ((I 2117)))), (0, .ref 38), (1, .int (Int32.ofInt (b)))], [.int (Int32.ofInt (v28)), .int (Int32.ofInt ((I 2117))), .ref 33], M67)) rfl ?_
            refine w_call (cm := 121) (as := [(0, .ref 33), (1, .int (Int32.ofInt ((I 2117)))), (2, .int (Int32.ofInt (v28)))]) (rest := []) (o := some (5, 33)) rfl (w_fitR hR68a rfl) (c_lv ((I 2117)) (v28) hR68a (show 1 ≤ d by omega) ⟨by omega, by omega⟩ ⟨by omega, by omega⟩ (show -5 ≤ (I 2117) ∧ -5 ≤ v28 by first | assumption | omega)) (fun r96 M97 q98 => ?_)
            rcases q98 with ⟨A99, e100, hR98a, f101, f102⟩
            rw [e100]
            replace hR98a : w_Rep w_TC fr X u l I68a A99 B68a C68a M97 := hR98a
            replace f101 : c_fa c_pa A68a A99 := f101
            replace f102 : c_ags A68a A99 := f102
            have k103 : c_Bd A99 (c_W A99 (c_r (I 2439) 0)) v69 (I27a 1670) (I68a 1670) := c_Bd_agl k93 (c_ags_l f102 (I68a 1670)) (show 0 ≤ (I27a 1670) by omega) (show (I68a 1670) ≤ (I68a 1670) by omega)
            clear k93
            have g104 : c_agl A A99 (I 1670) := c_agl_trans g92 (c_ags_l f102 (I68a 1670)) (show (I 1670) ≤ (I68a 1670) by omega)
            show w_W _ _ _ (53, [(4, .int (Int32.ofInt (v69))), (3, .int (Int32.ofInt (v28))), (2, .int (Int32.ofInt ((I 2117)))), (0, .ref 38), (1, .int (Int32.ofInt (b)))], [], M97) _
            refine w_adv (n := 2) (F' := (56, [(4, .int (Int32.ofInt (v69))), (3, .int (Int32.ofInt (v28))), (2, .int (Int32.ofInt ((I 2117)))), (0, .ref 38), (1, .int (Int32.ofInt (b)))], [.int (Int32.ofInt (24)), .ref 38], M97)) rfl ?_
            refine w_call (cm := 113) (as := [(0, .ref 38), (1, .int (Int32.ofInt (24)))]) (rest := []) (o := some (4, 38)) rfl (w_fitR hR98a rfl) (c_close (24) hR98a (show 4 ≤ d by omega) ⟨by omega, by omega⟩ (show l ≤ 7000000 by first | assumption | omega) (show -1 ≤ (I68a 2436) ∧ ((I68a 2437) = 0 ∨ (I68a 2436) < (I68a 773)) ∧ (I68a 773) ≤ 1501 ∧ 1 ≤ 24 by first | assumption | omega) (show 0 ≤ (I68a 2439) ∧ (I68a 2439) ≤ 24 by first | assumption | omega)) (fun r105 M106 q107 => ?_)
            rcases q107 with ⟨zt108, zk109, zv110, e111, hR107a, f112, f113⟩ | ⟨t114, I107b, A107b, B107b, C107b, e115, hR107b, f116, f117, f118⟩
            · rw [e111]
              replace hR107a : w_Rep w_TC fr X u l (w_up (w_up (w_up (w_up (w_up I68a 2436 ((I68a 2436) + 1)) 2441 (zt108)) 2437 (zk109)) 2438 (zv110)) 2439 ((I68a 2439) - 1)) A99 B68a C68a M106 := hR107a
              replace f112 : ((I68a 2436) + 1 < (I68a 773) ∨ zk109 = 0) := f112
              replace f113 : (I68a 2437) = 24 := f113
              show w_W _ _ _ (59, [(4, .int (Int32.ofInt (v69))), (3, .int (Int32.ofInt (v28))), (2, .int (Int32.ofInt ((I 2117)))), (0, .ref 38), (1, .int (Int32.ofInt (b)))], [], M106) _
              refine w_adv (n := 1) (F' := (60, [(4, .int (Int32.ofInt (v69))), (3, .int (Int32.ofInt (v28))), (2, .int (Int32.ofInt ((I 2117)))), (0, .ref 38), (1, .int (Int32.ofInt (b)))], [.ref 38], M106)) rfl ?_
              refine w_gf (v := .ref 26) hR107a rfl rfl rfl rfl ?_
              refine w_adv (n := 5) (F' := (70, [(4, .int (Int32.ofInt (v69))), (3, .int (Int32.ofInt (v28))), (2, .int (Int32.ofInt ((I 2117)))), (0, .ref 38), (1, .int (Int32.ofInt (b)))], [.int (Int32.ofInt ((I 2117))), .int (Int32.ofInt (v28)), .int (Int32.ofInt (v69)), .int (Int32.ofInt ((I 2117))), .int (Int32.ofInt (13)), .ref 26], M106)) rfl ?_
              refine w_sub rfl ?_
              refine w_int (fun x119 r120 e121 => ?_)
              obtain ⟨r120a, r120b⟩ := r120
              clear e121
              refine w_call (cm := 94) (as := [(0, .ref 26), (1, .int (Int32.ofInt (13))), (2, .int (Int32.ofInt ((I 2117)))), (3, .int (Int32.ofInt (v69))), (4, .int (Int32.ofInt (x119)))]) (rest := []) (o := some (8, 26)) rfl (w_fitR hR107a rfl) (c_mkn (13) ((I 2117)) (v69) (x119) hR107a (show 2 ≤ d by omega) ⟨by omega, by omega⟩ ⟨by omega, by omega⟩ ⟨by omega, by omega⟩ ⟨by omega, by omega⟩ (show 0 ≤ (I68a 1670) ∧ (I68a 1670) < 3016 by first | assumption | omega)) (fun r122 M123 q124 => ?_)
              rcases q124 with ⟨A125, e126, hR124a, f127, f128⟩
              rw [e126]
              replace hR124a : w_Rep w_TC fr X u l (w_up (w_up (w_up (w_up (w_up (w_up I68a 2436 ((I68a 2436) + 1)) 2441 (zt108)) 2437 (zk109)) 2438 (zv110)) 2439 ((I68a 2439) - 1)) 1670 ((I68a 1670) + 1)) A125 B68a C68a M123 := hR124a
              replace f127 : c_fa c_pa A99 A125 := f127
              replace f128 : c_mk A99 A125 (I68a 1670) 13 (I 2117) v69 x119 := f128
              have k129 : c_Wn A125 (c_r (I 2439) 1) (I68a 1670) (I27a 1670) ((I68a 1670) + 1) := c_Wn_up ⟨c_W_11 f128 (by omega) (show 0 ≤ (I27a 1670) by omega) (c_BdW_win k103 (show (I27a 1670) ≤ (I27a 1670) by omega) (show (I68a 1670) ≤ (I68a 1670) by omega)), f128.2.2.2.2.2⟩ (show (c_r (I 2439) 0) + 1 ≤ (c_r (I 2439) 1) by unfold c_r; omega)
              have g130 : c_agl A A125 (I 1670) := c_agl_trans g104 f128.1 (show (I 1670) ≤ (I68a 1670) by omega)
              show w_W _ _ _ (74, [(4, .int (Int32.ofInt (v69))), (3, .int (Int32.ofInt (v28))), (2, .int (Int32.ofInt ((I 2117)))), (0, .ref 38), (1, .int (Int32.ofInt (b)))], [.int (Int32.ofInt ((I68a 1670)))], M123) _
              refine w_fin (r := .inl (some ((I68a 1670)))) (M' := M123) rfl ?_
              exact Or.inl ⟨(I68a 1670), (w_up (w_up (w_up (w_up (w_up (w_up I68a 2436 ((I68a 2436) + 1)) 2441 (zt108)) 2437 (zk109)) 2438 (zv110)) 2439 ((I68a 2439) - 1)) 1670 ((I68a 1670) + 1)), A125, B68a, C68a, rfl, ⟨by omega, by omega⟩, hR124a, (show c_fi c_ps I (w_up (w_up (w_up (w_up (w_up (w_up I68a 2436 ((I68a 2436) + 1)) 2441 (zt108)) 2437 (zk109)) 2438 (zv110)) 2439 ((I68a 2439) - 1)) 1670 ((I68a 1670) + 1)) by exact (c_fi_up (c_fi_up (c_fi_up (c_fi_up (c_fi_up (c_fi_up (c_fi_trans (c_fi_up (c_fi_up (c_fi_up (c_fi_up (c_fi_trans (c_fi_up (c_fi_up (c_fi_up (c_fi_up (c_fi_up c_fi_refl rfl) rfl) rfl) rfl) rfl) f32) rfl) rfl) rfl) rfl) f73) rfl) rfl) rfl) rfl) rfl) rfl)), (show c_fa c_pa A A125 by exact (c_fa_trans (c_fa_trans (c_fa_trans f33 f74) f101) f127)), (show (0 ≤ (I68a 2436) + 1 ∧ (I68a 2436) + 1 ≤ (I68a 773) ∧ (zk109 = 0 ∨ (I68a 2436) + 1 < (I68a 773))) ∧ ((I68a 773) = (I 773) ∧ (I68a 2439) - 1 = (I 2439) ∧ 0 ≤ (I68a 2117)) ∧ (I 2436) + 1 ≤ (I68a 2436) + 1 ∧ ((I68a 1670) + 1) + 1 ≤ (I 1670) + 2 * (((I68a 2436) + 1) - (I 2436)) ∧ (I 1670) ≤ (I68a 1670) + 1 by (repeat' apply And.intro) <;> first | assumption | omega), (show c_agl A A125 (I 1670) by exact g130), (show c_Wn A125 (c_r (I 2439) 1) (I68a 1670) (I 1670) ((I68a 1670) + 1) by exact c_Wn_win (c_Wn_up k129 (show c_r (I 2439) 1 ≤ c_r (I 2439) 1 by unfold c_r; omega)) (show (I 1670) ≤ (I27a 1670) by omega) (show ((I68a 1670) + 1) ≤ ((I68a 1670) + 1) by omega))⟩
            · rw [e115]
              replace hR107b : w_Rep w_TC fr X (u + 6) (l + 64) I107b A107b B107b C107b M106 := hR107b
              replace f116 : c_fi c_ps I68a I107b := f116
              replace f117 : c_fa c_pa A99 A107b := f117
              replace f118 : M106.1[t114]? = some (.inr (11, [])) := f118
              exact Or.inr (⟨t114, I107b, A107b, B107b, C107b, rfl, hR107b, (show c_fi c_ps I I107b by exact (c_fi_trans (c_fi_trans (c_fi_up (c_fi_up (c_fi_up (c_fi_up (c_fi_trans (c_fi_up (c_fi_up (c_fi_up (c_fi_up (c_fi_up c_fi_refl rfl) rfl) rfl) rfl) rfl) f32) rfl) rfl) rfl) rfl) f73) f116)), (show c_fa c_pa A A107b by exact (c_fa_trans (c_fa_trans (c_fa_trans f33 f74) f101) f117)), (show M106.1[t114]? = some (.inr (11, [])) by exact f118)⟩)
          · rw [e79]
            replace hR68b : w_Rep w_TC fr X (u + 6) (l + 64) I68b A68b B68b C68b M67 := hR68b
            replace f80 : c_fi c_ps (w_up (w_up (w_up (w_up I27a 2436 ((I27a 2436) + 1)) 2441 (zt55)) 2437 (zk56)) 2438 (zv57)) I68b := f80
            replace f81 : c_fa c_pa A27a A68b := f81
            replace f82 : M67.1[t78]? = some (.inr (11, [])) := f82
            exact Or.inr (⟨t78, I68b, A68b, B68b, C68b, rfl, hR68b, (show c_fi c_ps I I68b by exact (c_fi_trans (c_fi_up (c_fi_up (c_fi_up (c_fi_up (c_fi_trans (c_fi_up (c_fi_up (c_fi_up (c_fi_up (c_fi_up c_fi_refl rfl) rfl) rfl) rfl) rfl) f32) rfl) rfl) rfl) rfl) f80)), (show c_fa c_pa A A68b by exact (c_fa_trans f33 f81)), (show M67.1[t78]? = some (.inr (11, [])) by exact f82)⟩)
        · rw [e62]
          replace hR54b : w_Rep w_TC fr X (u + 6) (l + 64) I54b A54b B54b C54b M53 := hR54b
          replace f63 : c_fi c_ps I27a I54b := f63
          replace f64 : c_fa c_pa A27a A54b := f64
          replace f65 : M53.1[t61]? = some (.inr (11, [])) := f65
          exact Or.inr (⟨t61, I54b, A54b, B54b, C54b, rfl, hR54b, (show c_fi c_ps I I54b by exact (c_fi_trans (c_fi_trans (c_fi_up (c_fi_up (c_fi_up (c_fi_up (c_fi_up c_fi_refl rfl) rfl) rfl) rfl) rfl) f32) f63)), (show c_fa c_pa A A54b by exact (c_fa_trans f33 f64)), (show M53.1[t61]? = some (.inr (11, [])) by exact f65)⟩)
      · rw [e38]
        replace hR27b : w_Rep w_TC fr X (u + 6) (l + 64) I27b A27b B27b C27b M26 := hR27b
        replace f39 : c_fi c_ps (w_up (w_up (w_up (w_up (w_up I 2436 ((I 2436) + 1)) 2441 (zt4)) 2437 (zk5)) 2438 (zv6)) 2439 ((I 2439) + 1)) I27b := f39
        replace f40 : c_fa c_pa A A27b := f40
        replace f41 : M26.1[t37]? = some (.inr (11, [])) := f41
        exact Or.inr (⟨t37, I27b, A27b, B27b, C27b, rfl, hR27b, (show c_fi c_ps I I27b by exact (c_fi_trans (c_fi_up (c_fi_up (c_fi_up (c_fi_up (c_fi_up c_fi_refl rfl) rfl) rfl) rfl) rfl) f39)), (show c_fa c_pa A A27b by exact f40), (show M26.1[t37]? = some (.inr (11, [])) by exact f41)⟩)
    · have h24 : ¬ (zk5 = 2) := h24
      show w_W _ _ _ (20, [(2, .int (Int32.ofInt ((I 2117)))), (0, .ref 38), (1, .int (Int32.ofInt (b)))], [], M2) _
      refine w_adv (n := 2) (F' := (22, [(2, .int (Int32.ofInt ((I 2117)))), (0, .ref 38), (1, .int (Int32.ofInt (b)))], [.int (Int32.ofInt (1)), .ref 38], M2)) rfl ?_
      refine w_call (cm := 100) (as := [(0, .ref 38), (1, .int (Int32.ofInt (1)))]) (rest := []) (o := some (4, 38)) rfl (w_fitR hR3a rfl) (c_fail (1) hR3a ⟨by omega, by omega⟩ (show l ≤ 7000000 by first | assumption | omega) (show 1 ≤ 1 ∧ 1 ≤ 7 by first | assumption | omega)) (fun r131 M132 q133 => ?_)
      rcases q133 with ⟨t134, I133a, A133a, B133a, C133a, e135, hR133a, f136, f137, f138⟩
      rw [e135]
      replace hR133a : w_Rep w_TC fr X (u + 6) (l + 64) I133a A133a B133a C133a M132 := hR133a
      replace f136 : c_fi c_ps (w_up (w_up (w_up (w_up (w_up I 2436 ((I 2436) + 1)) 2441 (zt4)) 2437 (zk5)) 2438 (zv6)) 2439 ((I 2439) + 1)) I133a := f136
      replace f137 : c_fa c_pa A A133a := f137
      replace f138 : M132.1[t134]? = some (.inr (11, [])) := f138
      exact Or.inr (⟨t134, I133a, A133a, B133a, C133a, rfl, hR133a, (show c_fi c_ps I I133a by exact (c_fi_trans (c_fi_up (c_fi_up (c_fi_up (c_fi_up (c_fi_up c_fi_refl rfl) rfl) rfl) rfl) rfl) f136)), (show c_fa c_pa A A133a by exact f137), (show M132.1[t134]? = some (.inr (11, [])) by exact f138)⟩)
  · rw [e11]
    replace hR3b : w_Rep w_TC fr X (u + 6) (l + 64) I3b A3b B3b C3b M2 := hR3b
    replace f12 : c_fi c_ps I I3b := f12
    replace f13 : c_fa c_pa A A3b := f13
    replace f14 : M2.1[t10]? = some (.inr (11, [])) := f14
    exact Or.inr (⟨t10, I3b, A3b, B3b, C3b, rfl, hR3b, (show c_fi c_ps I I3b by exact f12), (show c_fa c_pa A A3b by exact f13), (show M2.1[t10]? = some (.inr (11, [])) by exact f14)⟩)
def c_attempt_Q (fr : Nat → Bool) (X : Nat → Option (q_C (Nat → Int32))) (u l : Nat) (I : Nat → Int) (A : Nat → Int → Int) (B C : Nat → Nat) (M : w_M) : w_X → w_M → Prop := fun r M' => (∃ v : Int, ∃ (I' : Nat → Int) (A' : Nat → Int → Int) (B' C' : Nat → Nat), (r = .inl (some v)) ∧ (w_in v) ∧ (w_Rep w_TC fr X u l I' A' B' C' M') ∧ (c_fi c_ps I I') ∧ (c_fa c_pa A A') ∧ ((0 ≤ (I' 2436) ∧ (I' 2436) ≤ (I' 773) ∧ ((I' 2437) = 0 ∨ (I' 2436) < (I' 773))) ∧ ((I' 773) = (I 773) ∧ (I' 2439) = (I 2439) ∧ 0 ≤ (I' 2117)) ∧ (I 2436) + 1 ≤ (I' 2436) ∧ (I' 1670) + 1 ≤ (I 1670) + 2 * ((I' 2436) - (I 2436)) ∧ (I 1670) ≤ (I' 1670)) ∧ (c_agl A A' (I 1670)) ∧ (c_Wn A' (c_r (I 2439) 1) v (I 1670) (I' 1670))) ∨ (∃ t : Nat, ∃ (I' : Nat → Int) (A' : Nat → Int → Int) (B' C' : Nat → Nat), (r = .inr t) ∧ (w_Rep w_TC fr X (u + 6) (l + 64) I' A' B' C' M') ∧ (c_fi c_ps I I') ∧ (c_fa c_pa A A') ∧ (M'.1[t]? = some (.inr (11, []))))
set_option maxHeartbeats 100000000 in
set_option maxRecDepth 100000 in
theorem c_attempt {L : Nat} {xs : Nat → Int32} {d : Nat} {fr : Nat → Bool} {X : Nat → Option (q_C (Nat → Int32))} {u l : Nat} {I : Nat → Int} {A : Nat → Int → Int} {B C : Nat → Nat} {M : w_M} (hA : c_ALL L xs d) (hR : w_Rep w_TC fr X u l I A B C M) (hd : 10 * (24 - (I 2439)) + 9 ≤ (d : Int)) (hl : l ≤ 7000000) (hNU : (0 ≤ (I 2436) ∧ (I 2436) ≤ (I 773) ∧ (I 773) ≤ 1501 ∧ ((I 2437) = 0 ∨ (I 2436) < (I 773))) ∧ (0 ≤ (I 2439) ∧ (I 2439) ≤ 24 ∧ 0 ≤ (I 2117)) ∧ 0 ≤ (I 1670) ∧ (I 1670) ≤ 2 * (I 2436) + 1) (hk0 : ¬ (I 2437) = 0) : w_W (z_P L xs) d 134 (0, [(0, .ref 38)], [], M) (c_attempt_Q fr X u l I A B C M) := by
  obtain ⟨d, rfl⟩ : ∃ d0, d = d0 + 1 := ⟨d - 1, by omega⟩
  refine w_adv (n := 2) (F' := (2, [(0, .ref 38)], [.ref 38, .ref 38], M)) rfl ?_
  refine w_gf (v := .int (Int32.ofInt ((I 2440)))) hR rfl rfl rfl rfl ?_
  obtain ⟨r1, r2⟩ : -2147483648 ≤ (I 2440) ∧ (I 2440) ≤ 2147483647 := hR.ri 2440
  refine w_adv (n := 2) (F' := (7, [(0, .ref 38)], [.int ((Int32.ofInt ((I 2440))) ||| (Int32.ofInt (2))), .ref 38], M)) rfl ?_
  refine w_int (fun x3 r4 e5 => ?_)
  obtain ⟨r4a, r4b⟩ := r4
  refine w_pf hR rfl rfl rfl rfl (show w_in (x3) from ⟨by omega, by omega⟩) (fun h => absurd h (by decide)) (fun M6 hR7 => ?_)
  replace hR7 : w_Rep w_TC fr X u l (w_up I 2440 (x3)) A B C M6 := hR7
  refine w_adv (n := 1) (F' := (11, [(0, .ref 38)], [.ref 38], M6)) rfl ?_
  refine w_call (cm := 99) (as := [(0, .ref 38)]) (rest := []) (o := some (4, 38)) rfl (w_fitR hR7 rfl) (c_open hR7 (show 4 ≤ d by omega) (show l ≤ 7000000 by first | assumption | omega) (show -1 ≤ (I 2436) ∧ (I 2436) < (I 773) ∧ (I 773) ≤ 1501 by first | assumption | omega) (show 0 ≤ (I 2439) ∧ (I 2439) ≤ 24 by first | assumption | omega)) (fun r8 M9 q10 => ?_)
  rcases q10 with ⟨zt11, zk12, zv13, e14, hR10a, f15, f16⟩ | ⟨t17, I10b, A10b, B10b, C10b, e18, hR10b, f19, f20, f21⟩
  · rw [e14]
    replace hR10a : w_Rep w_TC fr X u l (w_up (w_up (w_up (w_up (w_up (w_up I 2440 (x3)) 2436 ((I 2436) + 1)) 2441 (zt11)) 2437 (zk12)) 2438 (zv13)) 2439 ((I 2439) + 1)) A B C M9 := hR10a
    replace f15 : ((I 2436) + 1 < (I 773) ∨ zk12 = 0) := f15
    replace f16 : (I 2439) < 24 := f16
    show w_W _ _ _ (14, [(0, .ref 38)], [], M9) _
    refine w_adv (n := 2) (F' := (16, [(0, .ref 38)], [.int (Int32.ofInt (0)), .ref 38], M9)) rfl ?_
    refine w_call (cm := 88) (as := [(0, .ref 38), (1, .int (Int32.ofInt (0)))]) (rest := []) (o := some (4, 38)) rfl (w_fitR hR10a rfl) ((hA d (Nat.lt_succ_self d)).2 (0) hR10a (show 10 * (24 - ((I 2439) + 1)) + 15 ≤ (d : Int) by omega) ⟨by omega, by omega⟩ (show l ≤ 7000000 by first | assumption | omega) (show (0 ≤ (I 2436) + 1 ∧ (I 2436) + 1 ≤ (I 773) ∧ (I 773) ≤ 1501 ∧ (zk12 = 0 ∨ (I 2436) + 1 < (I 773))) ∧ (0 ≤ (I 2439) + 1 ∧ (I 2439) + 1 ≤ 24 ∧ 0 ≤ (I 2117)) ∧ 0 ≤ (I 1670) ∧ (I 1670) ≤ 2 * ((I 2436) + 1) + 1 by (repeat' apply And.intro) <;> first | assumption | omega)) (fun r22 M23 q24 => ?_)
    rcases q24 with ⟨v25, I24a, A24a, B24a, C24a, e26, ⟨r27, r28⟩, hR24a, f29, f30, f31, f32, f33⟩ | ⟨t34, I24b, A24b, B24b, C24b, e35, hR24b, f36, f37, f38⟩
    · rw [e26]
      replace hR24a : w_Rep w_TC fr X u l I24a A24a B24a C24a M23 := hR24a
      replace f29 : c_fi c_ps (w_up (w_up (w_up (w_up (w_up (w_up I 2440 (x3)) 2436 ((I 2436) + 1)) 2441 (zt11)) 2437 (zk12)) 2438 (zv13)) 2439 ((I 2439) + 1)) I24a := f29
      replace f30 : c_fa c_pa A A24a := f30
      replace f31 : (0 ≤ (I24a 2436) ∧ (I24a 2436) ≤ (I24a 773) ∧ ((I24a 2437) = 0 ∨ (I24a 2436) < (I24a 773))) ∧ ((I24a 773) = (I 773) ∧ (I24a 2439) = (I 2439) + 1 ∧ 0 ≤ (I24a 2117)) ∧ ((I 2436) + 1) + 1 ≤ (I24a 2436) ∧ (I24a 1670) + 0 ≤ (I 1670) + 2 * ((I24a 2436) - ((I 2436) + 1)) ∧ (I 1670) ≤ (I24a 1670) := f31
      obtain ⟨⟨n39, n40, n41⟩, ⟨n42, n43, n44⟩, n45, n46, n47⟩ := id f31
      clear f31
      replace f32 : c_agl A A24a (I 1670) := f32
      replace f33 : c_Bd A24a (c_W A24a (c_r ((I 2439) + 1) 4)) v25 (I 1670) (I24a 1670) := f33
      have g48 : c_agl A A24a (I 1670) := c_agl_trans c_agl_refl f32 (show (I 1670) ≤ (I 1670) by omega)
      have k49 : c_Bd A24a (c_W A24a (c_r (I 2439) 0)) v25 (I 1670) (I24a 1670) := c_Bd_up f33 (show c_r ((I 2439) + 1) 4 ≤ c_r (I 2439) 0 by unfold c_r; omega)
      obtain ⟨b50, b51, -⟩ := id k49
      show w_W _ _ _ (19, [(0, .ref 38)], [.int (Int32.ofInt (v25))], M23) _
      refine w_adv (n := 3) (F' := (23, [(1, .int (Int32.ofInt (v25))), (0, .ref 38)], [.int (Int32.ofInt (35)), .ref 38], M23)) rfl ?_
      refine w_call (cm := 105) (as := [(0, .ref 38), (1, .int (Int32.ofInt (35)))]) (rest := []) (o := some (4, 38)) rfl (w_fitR hR24a rfl) (c_need (35) hR24a (show 4 ≤ d by omega) ⟨by omega, by omega⟩ (show l ≤ 7000000 by first | assumption | omega) (show -1 ≤ (I24a 2436) ∧ ((I24a 2437) = 0 ∨ (I24a 2436) < (I24a 773)) ∧ (I24a 773) ≤ 1501 ∧ 1 ≤ 35 by first | assumption | omega)) (fun r52 M53 q54 => ?_)
      rcases q54 with ⟨zt55, zk56, zv57, e58, hR54a, f59, f60⟩ | ⟨t61, I54b, A54b, B54b, C54b, e62, hR54b, f63, f64, f65⟩
      · rw [e58]
        replace hR54a : w_Rep w_TC fr X u l (w_up (w_up (w_up (w_up I24a 2436 ((I24a 2436) + 1)) 2441 (zt55)) 2437 (zk56)) 2438 (zv57)) A24a B24a C24a M53 := hR54a
        replace f59 : ((I24a 2436) + 1 < (I24a 773) ∨ zk56 = 0) := f59
        replace f60 : (I24a 2437) = 35 := f60
        show w_W _ _ _ (26, [(1, .int (Int32.ofInt (v25))), (0, .ref 38)], [], M53) _
        refine w_adv (n := 1) (F' := (27, [(1, .int (Int32.ofInt (v25))), (0, .ref 38)], [.ref 38], M53)) rfl ?_
        refine w_gf (v := .int (Int32.ofInt (zk56))) hR54a rfl rfl rfl rfl ?_
        obtain ⟨r66, r67⟩ : -2147483648 ≤ zk56 ∧ zk56 ≤ 2147483647 := hR54a.ri 2437
        refine w_adv (n := 1) (F' := (31, [(1, .int (Int32.ofInt (v25))), (0, .ref 38)], [.int (Int32.ofInt (2)), .int (Int32.ofInt (zk56))], M53)) rfl ?_
        refine w_br2 (a := zk56) (b := 2) rfl rfl ⟨by omega, by omega⟩ ⟨by omega, by omega⟩ (fun h68 => ?_) (fun h68 => ?_)
        · have h68 : zk56 = 2 := h68
          show w_W _ _ _ (40, [(1, .int (Int32.ofInt (v25))), (0, .ref 38)], [], M53) _
          refine w_adv (n := 2) (F' := (42, [(1, .int (Int32.ofInt (v25))), (0, .ref 38)], [.ref 38, .ref 38], M53)) rfl ?_
          refine w_gf (v := .ref 33) hR54a rfl rfl rfl rfl ?_
          refine w_call (cm := 118) (as := [(0, .ref 33)]) (rest := [.ref 38]) (o := some (5, 33)) rfl (w_fitR hR54a rfl) (c_snext hR54a) (fun r69 M70 q71 => ?_)
          rcases q71 with ⟨e72, e73⟩
          rw [e72, e73]
          obtain ⟨r74, r75⟩ : -2147483648 ≤ (I24a 2117) ∧ (I24a 2117) ≤ 2147483647 := hR54a.ri 2117
          show w_W _ _ _ (48, [(1, .int (Int32.ofInt (v25))), (0, .ref 38)], [.int (Int32.ofInt ((I24a 2117))), .ref 38], M53) _
          refine w_adv (n := 1) (F' := (49, [(1, .int (Int32.ofInt (v25))), (0, .ref 38)], [.int (Int32.ofInt (1)), .int (Int32.ofInt ((I24a 2117))), .ref 38], M53)) rfl ?_
          refine w_call (cm := 120) (as := [(0, .ref 38), (1, .int (Int32.ofInt ((I24a 2117)))), (2, .int (Int32.ofInt (1)))]) (rest := []) (o := some (4, 38)) rfl (w_fitR hR54a rfl) (c_bind ((I24a 2117)) (1) hR54a (show 3 ≤ d by omega) ⟨by omega, by omega⟩ ⟨by omega, by omega⟩ (show l ≤ 7000000 by first | assumption | omega) (show 0 ≤ (I24a 2117) by first | assumption | omega)) (fun r76 M77 q78 => ?_)
          rcases q78 with ⟨v79, A80, zs81, e82, ⟨r83, r84⟩, hR78a, f85, f86, f87⟩ | ⟨t88, I78b, A78b, B78b, C78b, e89, hR78b, f90, f91, f92⟩
          · rw [e82]
            replace hR78a : w_Rep w_TC fr X u l (w_up (w_up (w_up (w_up (w_up I24a 2436 ((I24a 2436) + 1)) 2441 (zt55)) 2437 (zk56)) 2438 (zv57)) 2117 (zs81)) A80 B24a C24a M77 := hR78a
            replace f85 : c_fa c_pa A24a A80 := f85
            replace f86 : c_ags A24a A80 := f86
            replace f87 : 0 ≤ zs81 ∧ -1 ≤ v79 ∧ v79 ≤ 1508 := f87
            obtain ⟨n93, n94, n95⟩ := id f87
            clear f87
            have k96 : c_Bd A80 (c_W A80 (c_r (I 2439) 0)) v25 (I 1670) (I24a 1670) := c_Bd_agl k49 (c_ags_l f86 (I24a 1670)) (show 0 ≤ (I 1670) by omega) (show (I24a 1670) ≤ (I24a 1670) by omega)
            clear k49
            have g97 : c_agl A A80 (I 1670) := c_agl_trans g48 (c_ags_l f86 (I24a 1670)) (show (I 1670) ≤ (I24a 1670) by omega)
            show w_W _ _ _ (52, [(1, .int (Int32.ofInt (v25))), (0, .ref 38)], [.int (Int32.ofInt (v79))], M77) _
            refine w_adv (n := 2) (F' := (54, [(2, .int (Int32.ofInt (v79))), (1, .int (Int32.ofInt (v25))), (0, .ref 38)], [.ref 38], M77)) rfl ?_
            refine w_call (cm := 80) (as := [(0, .ref 38)]) (rest := []) (o := some (4, 38)) rfl (w_fitR hR78a rfl) (c_advance hR78a (show 3 ≤ d by omega) (show l ≤ 7000000 by first | assumption | omega) (show -1 ≤ (I24a 2436) + 1 ∧ (I24a 2436) + 1 < (I24a 773) ∧ (I24a 773) ≤ 1501 by first | assumption | omega)) (fun r98 M99 q100 => ?_)
            rcases q100 with ⟨zt101, zk102, zv103, e104, hR100a, f105⟩ | ⟨t106, I100b, A100b, B100b, C100b, e107, hR100b, f108, f109, f110⟩
            · rw [e104]
              replace hR100a : w_Rep w_TC fr X u l (w_up (w_up (w_up (w_up (w_up I24a 2117 (zs81)) 2436 ((I24a 2436) + 1 + 1)) 2441 (zt101)) 2437 (zk102)) 2438 (zv103)) A80 B24a C24a M99 := w_Rep.up hR100a (show (w_up (w_up (w_up (w_up (w_up I24a 2117 (zs81)) 2436 ((I24a 2436) + 1 + 1)) 2441 (zt101)) 2437 (zk102)) 2438 (zv103)) = _ from (funext fun s => if e0 : s = 2117 then (by subst e0; rfl) else if e1 : s = 2436 then (by subst e1; rfl) else if e2 : s = 2437 then (by subst e2; rfl) else if e3 : s = 2438 then (by subst e3; rfl) else if e4 : s = 2441 then (by subst e4; rfl) else (by simp only [w_up_ne e0, w_up_ne e1, w_up_ne e2, w_up_ne e3, w_up_ne e4]))) rfl
              replace f105 : ((I24a 2436) + 1 + 1 < (I24a 773) ∨ zk102 = 0) := f105
              show w_W _ _ _ (57, [(2, .int (Int32.ofInt (v79))), (1, .int (Int32.ofInt (v25))), (0, .ref 38)], [], M99) _
              refine w_adv (n := 2) (F' := (60, [(2, .int (Int32.ofInt (v79))), (1, .int (Int32.ofInt (v25))), (0, .ref 38)], [.int (Int32.ofInt (26)), .ref 38], M99)) rfl ?_
              refine w_call (cm := 105) (as := [(0, .ref 38), (1, .int (Int32.ofInt (26)))]) (rest := []) (o := some (4, 38)) rfl (w_fitR hR100a rfl) (c_need (26) hR100a (show 4 ≤ d by omega) ⟨by omega, by omega⟩ (show l ≤ 7000000 by first | assumption | omega) (show -1 ≤ (I24a 2436) + 1 + 1 ∧ (zk102 = 0 ∨ (I24a 2436) + 1 + 1 < (I24a 773)) ∧ (I24a 773) ≤ 1501 ∧ 1 ≤ 26 by first | assumption | omega)) (fun r111 M112 q113 => ?_)
              rcases q113 with ⟨zt114, zk115, zv116, e117, hR113a, f118, f119⟩ | ⟨t120, I113b, A113b, B113b, C113b, e121, hR113b, f122, f123, f124⟩
              · rw [e117]
                replace hR113a : w_Rep w_TC fr X u l (w_up (w_up (w_up (w_up (w_up I24a 2117 (zs81)) 2436 ((I24a 2436) + 1 + 1 + 1)) 2441 (zt114)) 2437 (zk115)) 2438 (zv116)) A80 B24a C24a M112 := w_Rep.up hR113a (show (w_up (w_up (w_up (w_up (w_up I24a 2117 (zs81)) 2436 ((I24a 2436) + 1 + 1 + 1)) 2441 (zt114)) 2437 (zk115)) 2438 (zv116)) = _ from (funext fun s => if e0 : s = 2117 then (by subst e0; rfl) else if e1 : s = 2436 then (by subst e1; rfl) else if e2 : s = 2437 then (by subst e2; rfl) else if e3 : s = 2438 then (by subst e3; rfl) else if e4 : s = 2441 then (by subst e4; rfl) else (by simp only [w_up_ne e0, w_up_ne e1, w_up_ne e2, w_up_ne e3, w_up_ne e4]))) rfl
                replace f118 : ((I24a 2436) + 1 + 1 + 1 < (I24a 773) ∨ zk115 = 0) := f118
                replace f119 : zk102 = 26 := f119
                show w_W _ _ _ (63, [(2, .int (Int32.ofInt (v79))), (1, .int (Int32.ofInt (v25))), (0, .ref 38)], [], M112) _
                refine w_adv (n := 2) (F' := (65, [(2, .int (Int32.ofInt (v79))), (1, .int (Int32.ofInt (v25))), (0, .ref 38)], [.int (Int32.ofInt (0)), .ref 38], M112)) rfl ?_
                refine w_call (cm := 88) (as := [(0, .ref 38), (1, .int (Int32.ofInt (0)))]) (rest := []) (o := some (4, 38)) rfl (w_fitR hR113a rfl) ((hA d (Nat.lt_succ_self d)).2 (0) hR113a (show 10 * (24 - (I24a 2439)) + 15 ≤ (d : Int) by omega) ⟨by omega, by omega⟩ (show l ≤ 7000000 by first | assumption | omega) (show (0 ≤ (I24a 2436) + 1 + 1 + 1 ∧ (I24a 2436) + 1 + 1 + 1 ≤ (I24a 773) ∧ (I24a 773) ≤ 1501 ∧ (zk115 = 0 ∨ (I24a 2436) + 1 + 1 + 1 < (I24a 773))) ∧ (0 ≤ (I24a 2439) ∧ (I24a 2439) ≤ 24 ∧ 0 ≤ zs81) ∧ 0 ≤ (I24a 1670) ∧ (I24a 1670) ≤ 2 * ((I24a 2436) + 1 + 1 + 1) + 1 by (repeat' apply And.intro) <;> first | assumption | omega)) (fun r125 M126 q127 => ?_)
                rcases q127 with ⟨v128, I127a, A127a, B127a, C127a, e129, ⟨r130, r131⟩, hR127a, f132, f133, f134, f135, f136⟩ | ⟨t137, I127b, A127b, B127b, C127b, e138, hR127b, f139, f140, f141⟩
                · rw [e129]
                  replace hR127a : w_Rep w_TC fr X u l I127a A127a B127a C127a M126 := hR127a
                  replace f132 : c_fi c_ps (w_up (w_up (w_up (w_up (w_up I24a 2117 (zs81)) 2436 ((I24a 2436) + 1 + 1 + 1)) 2441 (zt114)) 2437 (zk115)) 2438 (zv116)) I127a := f132
                  replace f133 : c_fa c_pa A80 A127a := f133
                  replace f134 : (0 ≤ (I127a 2436) ∧ (I127a 2436) ≤ (I127a 773) ∧ ((I127a 2437) = 0 ∨ (I127a 2436) < (I127a 773))) ∧ ((I127a 773) = (I24a 773) ∧ (I127a 2439) = (I24a 2439) ∧ 0 ≤ (I127a 2117)) ∧ ((I24a 2436) + 1 + 1 + 1) + 1 ≤ (I127a 2436) ∧ (I127a 1670) + 0 ≤ (I24a 1670) + 2 * ((I127a 2436) - ((I24a 2436) + 1 + 1 + 1)) ∧ (I24a 1670) ≤ (I127a 1670) := f134
                  obtain ⟨⟨n142, n143, n144⟩, ⟨n145, n146, n147⟩, n148, n149, n150⟩ := id f134
                  clear f134
                  replace f135 : c_agl A80 A127a (I24a 1670) := f135
                  replace f136 : c_Bd A127a (c_W A127a (c_r (I24a 2439) 4)) v128 (I24a 1670) (I127a 1670) := f136
                  have k151 : c_Bd A127a (c_W A127a (c_r (I 2439) 0)) v25 (I 1670) (I24a 1670) := c_Bd_agl k96 f135 (show 0 ≤ (I 1670) by omega) (show (I24a 1670) ≤ (I24a 1670) by omega)
                  clear k96
                  have g152 : c_agl A A127a (I 1670) := c_agl_trans g97 f135 (show (I 1670) ≤ (I24a 1670) by omega)
                  have k153 : c_Bd A127a (c_W A127a (c_r (I 2439) 0)) v128 (I24a 1670) (I127a 1670) := c_Bd_up f136 (show c_r (I24a 2439) 4 ≤ c_r (I 2439) 0 by unfold c_r; omega)
                  obtain ⟨b154, b155, -⟩ := id k153
                  show w_W _ _ _ (68, [(2, .int (Int32.ofInt (v79))), (1, .int (Int32.ofInt (v25))), (0, .ref 38)], [.int (Int32.ofInt (v128))], M126) _
                  refine w_adv (n := 2) (F' := (70, [(3, .int (Int32.ofInt (v128))), (2, .int (Int32.ofInt (v79))), (1, .int (Int32.ofInt (v25))), (0, .ref 38)], [.ref 38], M126)) rfl ?_
                  refine w_gf (v := .ref 33) hR127a rfl rfl rfl rfl ?_
                  refine w_adv (n := 3) (F' := (76, [(3, .int (Int32.ofInt (v128))), (2, .int (Int32.ofInt (v79))), (1, .int (Int32.ofInt (v25))), (0, .ref 38)], [.int (Int32.ofInt (1)), .int (Int32.ofInt (v79)), .int (Int32.ofInt (v79)), .ref 33], M126)) rfl ?_
                  refine w_add rfl ?_
                  refine w_call (cm := 121) (as := [(0, .ref 33), (1, .int (Int32.ofInt (v79))), (2, .int (Int32.ofInt (v79 + 1)))]) (rest := []) (o := some (5, 33)) rfl (w_fitR hR127a rfl) (c_lv (v79) (v79 + 1) hR127a (show 1 ≤ d by omega) ⟨by omega, by omega⟩ ⟨by omega, by omega⟩ (show -5 ≤ v79 ∧ -5 ≤ v79 + 1 by first | assumption | omega)) (fun r156 M157 q158 => ?_)
                  rcases q158 with ⟨A159, e160, hR158a, f161, f162⟩
                  rw [e160]
                  replace hR158a : w_Rep w_TC fr X u l I127a A159 B127a C127a M157 := hR158a
                  replace f161 : c_fa c_pa A127a A159 := f161
                  replace f162 : c_ags A127a A159 := f162
                  have k163 : c_Bd A159 (c_W A159 (c_r (I 2439) 0)) v25 (I 1670) (I24a 1670) := c_Bd_agl k151 (c_ags_l f162 (I127a 1670)) (show 0 ≤ (I 1670) by omega) (show (I24a 1670) ≤ (I127a 1670) by omega)
                  clear k151
                  have k164 : c_Bd A159 (c_W A159 (c_r (I 2439) 0)) v128 (I24a 1670) (I127a 1670) := c_Bd_agl k153 (c_ags_l f162 (I127a 1670)) (show 0 ≤ (I24a 1670) by omega) (show (I127a 1670) ≤ (I127a 1670) by omega)
                  clear k153
                  have g165 : c_agl A A159 (I 1670) := c_agl_trans g152 (c_ags_l f162 (I127a 1670)) (show (I 1670) ≤ (I127a 1670) by omega)
                  show w_W _ _ _ (80, [(3, .int (Int32.ofInt (v128))), (2, .int (Int32.ofInt (v79))), (1, .int (Int32.ofInt (v25))), (0, .ref 38)], [], M157) _
                  refine w_adv (n := 2) (F' := (83, [(3, .int (Int32.ofInt (v128))), (2, .int (Int32.ofInt (v79))), (1, .int (Int32.ofInt (v25))), (0, .ref 38)], [.int (Int32.ofInt (24)), .ref 38], M157)) rfl ?_
                  refine w_call (cm := 113) (as := [(0, .ref 38), (1, .int (Int32.ofInt (24)))]) (rest := []) (o := some (4, 38)) rfl (w_fitR hR158a rfl) (c_close (24) hR158a (show 4 ≤ d by omega) ⟨by omega, by omega⟩ (show l ≤ 7000000 by first | assumption | omega) (show -1 ≤ (I127a 2436) ∧ ((I127a 2437) = 0 ∨ (I127a 2436) < (I127a 773)) ∧ (I127a 773) ≤ 1501 ∧ 1 ≤ 24 by first | assumption | omega) (show 0 ≤ (I127a 2439) ∧ (I127a 2439) ≤ 24 by first | assumption | omega)) (fun r166 M167 q168 => ?_)
                  rcases q168 with ⟨zt169, zk170, zv171, e172, hR168a, f173, f174⟩ | ⟨t175, I168b, A168b, B168b, C168b, e176, hR168b, f177, f178, f179⟩
                  · rw [e172]
                    replace hR168a : w_Rep w_TC fr X u l (w_up (w_up (w_up (w_up (w_up I127a 2436 ((I127a 2436) + 1)) 2441 (zt169)) 2437 (zk170)) 2438 (zv171)) 2439 ((I127a 2439) - 1)) A159 B127a C127a M167 := hR168a
                    replace f173 : ((I127a 2436) + 1 < (I127a 773) ∨ zk170 = 0) := f173
                    replace f174 : (I127a 2437) = 24 := f174
                    show w_W _ _ _ (86, [(3, .int (Int32.ofInt (v128))), (2, .int (Int32.ofInt (v79))), (1, .int (Int32.ofInt (v25))), (0, .ref 38)], [], M167) _
                    refine w_adv (n := 1) (F' := (87, [(3, .int (Int32.ofInt (v128))), (2, .int (Int32.ofInt (v79))), (1, .int (Int32.ofInt (v25))), (0, .ref 38)], [.ref 38], M167)) rfl ?_
                    refine w_gf (v := .ref 26) hR168a rfl rfl rfl rfl ?_
                    refine w_adv (n := 4) (F' := (95, [(3, .int (Int32.ofInt (v128))), (2, .int (Int32.ofInt (v79))), (1, .int (Int32.ofInt (v25))), (0, .ref 38)], [.int (Int32.ofInt (v79)), .int (Int32.ofInt (v128)), .int (Int32.ofInt (v25)), .int (Int32.ofInt (20)), .ref 26], M167)) rfl ?_
                    refine w_call (cm := 94) (as := [(0, .ref 26), (1, .int (Int32.ofInt (20))), (2, .int (Int32.ofInt (v25))), (3, .int (Int32.ofInt (v128))), (4, .int (Int32.ofInt (v79)))]) (rest := []) (o := some (8, 26)) rfl (w_fitR hR168a rfl) (c_mkn (20) (v25) (v128) (v79) hR168a (show 2 ≤ d by omega) ⟨by omega, by omega⟩ ⟨by omega, by omega⟩ ⟨by omega, by omega⟩ ⟨by omega, by omega⟩ (show 0 ≤ (I127a 1670) ∧ (I127a 1670) < 3016 by first | assumption | omega)) (fun r180 M181 q182 => ?_)
                    rcases q182 with ⟨A183, e184, hR182a, f185, f186⟩
                    rw [e184]
                    replace hR182a : w_Rep w_TC fr X u l (w_up (w_up (w_up (w_up (w_up (w_up I127a 2436 ((I127a 2436) + 1)) 2441 (zt169)) 2437 (zk170)) 2438 (zv171)) 2439 ((I127a 2439) - 1)) 1670 ((I127a 1670) + 1)) A183 B127a C127a M181 := hR182a
                    replace f185 : c_fa c_pa A159 A183 := f185
                    replace f186 : c_mk A159 A183 (I127a 1670) 20 v25 v128 v79 := f186
                    have k187 : c_Wn A183 (c_r (I 2439) 1) (I127a 1670) (I 1670) ((I127a 1670) + 1) := c_Wn_up ⟨c_W_20 f186 (show 0 ≤ (I 1670) by omega) k163 (c_BdW_win k164 (show (I24a 1670) ≤ (I24a 1670) by omega) (show (I127a 1670) ≤ (I127a 1670) by omega)), f186.2.2.2.2.2⟩ (show (c_r (I 2439) 0) + 1 ≤ (c_r (I 2439) 1) by unfold c_r; omega)
                    have g188 : c_agl A A183 (I 1670) := c_agl_trans g165 f186.1 (show (I 1670) ≤ (I127a 1670) by omega)
                    show w_W _ _ _ (98, [(3, .int (Int32.ofInt (v128))), (2, .int (Int32.ofInt (v79))), (1, .int (Int32.ofInt (v25))), (0, .ref 38)], [.int (Int32.ofInt ((I127a 1670)))], M181) _
                    refine w_fin (r := .inl (some ((I127a 1670)))) (M' := M181) rfl ?_
                    exact Or.inl ⟨(I127a 1670), (w_up (w_up (w_up (w_up (w_up (w_up I127a 2436 ((I127a 2436) + 1)) 2441 (zt169)) 2437 (zk170)) 2438 (zv171)) 2439 ((I127a 2439) - 1)) 1670 ((I127a 1670) + 1)), A183, B127a, C127a, rfl, ⟨by omega, by omega⟩, hR182a, (show c_fi c_ps I (w_up (w_up (w_up (w_up (w_up (w_up I127a 2436 ((I127a 2436) + 1)) 2441 (zt169)) 2437 (zk170)) 2438 (zv171)) 2439 ((I127a 2439) - 1)) 1670 ((I127a 1670) + 1)) by exact (c_fi_up (c_fi_up (c_fi_up (c_fi_up (c_fi_up (c_fi_up (c_fi_trans (c_fi_up (c_fi_up (c_fi_up (c_fi_up (c_fi_up (c_fi_trans (c_fi_up (c_fi_up (c_fi_up (c_fi_up (c_fi_up (c_fi_up c_fi_refl rfl) rfl) rfl) rfl) rfl) rfl) f29) rfl) rfl) rfl) rfl) rfl) f132) rfl) rfl) rfl) rfl) rfl) rfl)), (show c_fa c_pa A A183 by exact (c_fa_trans (c_fa_trans (c_fa_trans (c_fa_trans f30 f85) f133) f161) f185)), (show (0 ≤ (I127a 2436) + 1 ∧ (I127a 2436) + 1 ≤ (I127a 773) ∧ (zk170 = 0 ∨ (I127a 2436) + 1 < (I127a 773))) ∧ ((I127a 773) = (I 773) ∧ (I127a 2439) - 1 = (I 2439) ∧ 0 ≤ (I127a 2117)) ∧ (I 2436) + 1 ≤ (I127a 2436) + 1 ∧ ((I127a 1670) + 1) + 1 ≤ (I 1670) + 2 * (((I127a 2436) + 1) - (I 2436)) ∧ (I 1670) ≤ (I127a 1670) + 1 by (repeat' apply And.intro) <;> first | assumption | omega), (show c_agl A A183 (I 1670) by exact g188), (show c_Wn A183 (c_r (I 2439) 1) (I127a 1670) (I 1670) ((I127a 1670) + 1) by exact c_Wn_win (c_Wn_up k187 (show c_r (I 2439) 1 ≤ c_r (I 2439) 1 by unfold c_r; omega)) (show (I 1670) ≤ (I 1670) by omega) (show ((I127a 1670) + 1) ≤ ((I127a 1670) + 1) by omega))⟩
                  · rw [e176]
                    replace hR168b : w_Rep w_TC fr X (u + 6) (l + 64) I168b A168b B168b C168b M167 := hR168b
                    replace f177 : c_fi c_ps I127a I168b := f177
                    replace f178 : c_fa c_pa A159 A168b := f178
                    replace f179 : M167.1[t175]? = some (.inr (11, [])) := f179
                    exact Or.inr (⟨t175, I168b, A168b, B168b, C168b, rfl, hR168b, (show c_fi c_ps I I168b by exact (c_fi_trans (c_fi_trans (c_fi_up (c_fi_up (c_fi_up (c_fi_up (c_fi_up (c_fi_trans (c_fi_up (c_fi_up (c_fi_up (c_fi_up (c_fi_up (c_fi_up c_fi_refl rfl) rfl) rfl) rfl) rfl) rfl) f29) rfl) rfl) rfl) rfl) rfl) f132) f177)), (show c_fa c_pa A A168b by exact (c_fa_trans (c_fa_trans (c_fa_trans (c_fa_trans f30 f85) f133) f161) f178)), (show M167.1[t175]? = some (.inr (11, [])) by exact f179)⟩)
                · rw [e138]
                  replace hR127b : w_Rep w_TC fr X (u + 6) (l + 64) I127b A127b B127b C127b M126 := hR127b
                  replace f139 : c_fi c_ps (w_up (w_up (w_up (w_up (w_up I24a 2117 (zs81)) 2436 ((I24a 2436) + 1 + 1 + 1)) 2441 (zt114)) 2437 (zk115)) 2438 (zv116)) I127b := f139
                  replace f140 : c_fa c_pa A80 A127b := f140
                  replace f141 : M126.1[t137]? = some (.inr (11, [])) := f141
                  exact Or.inr (⟨t137, I127b, A127b, B127b, C127b, rfl, hR127b, (show c_fi c_ps I I127b by exact (c_fi_trans (c_fi_up (c_fi_up (c_fi_up (c_fi_up (c_fi_up (c_fi_trans (c_fi_up (c_fi_up (c_fi_up (c_fi_up (c_fi_up (c_fi_up c_fi_refl rfl) rfl) rfl) rfl) rfl) rfl) f29) rfl) rfl) rfl) rfl) rfl) f139)), (show c_fa c_pa A A127b by exact (c_fa_trans (c_fa_trans f30 f85) f140)), (show M126.1[t137]? = some (.inr (11, [])) by exact f141)⟩)
              · rw [e121]
                replace hR113b : w_Rep w_TC fr X (u + 6) (l + 64) I113b A113b B113b C113b M112 := hR113b
                replace f122 : c_fi c_ps (w_up (w_up (w_up (w_up (w_up I24a 2117 (zs81)) 2436 ((I24a 2436) + 1 + 1)) 2441 (zt101)) 2437 (zk102)) 2438 (zv103)) I113b := f122
                replace f123 : c_fa c_pa A80 A113b := f123
                replace f124 : M112.1[t120]? = some (.inr (11, [])) := f124
                exact Or.inr (⟨t120, I113b, A113b, B113b, C113b, rfl, hR113b, (show c_fi c_ps I I113b by exact (c_fi_trans (c_fi_up (c_fi_up (c_fi_up (c_fi_up (c_fi_up (c_fi_trans (c_fi_up (c_fi_up (c_fi_up (c_fi_up (c_fi_up (c_fi_up c_fi_refl rfl) rfl) rfl) rfl) rfl) rfl) f29) rfl) rfl) rfl) rfl) rfl) f122)), (show c_fa c_pa A A113b by exact (c_fa_trans (c_fa_trans f30 f85) f123)), (show M112.1[t120]? = some (.inr (11, [])) by exact f124)⟩)
            · rw [e107]
              replace hR100b : w_Rep w_TC fr X (u + 6) (l + 64) I100b A100b B100b C100b M99 := hR100b
              replace f108 : c_fi c_ps (w_up (w_up (w_up (w_up (w_up I24a 2436 ((I24a 2436) + 1)) 2441 (zt55)) 2437 (zk56)) 2438 (zv57)) 2117 (zs81)) I100b := f108
              replace f109 : c_fa c_pa A80 A100b := f109
              replace f110 : M99.1[t106]? = some (.inr (11, [])) := f110
              exact Or.inr (⟨t106, I100b, A100b, B100b, C100b, rfl, hR100b, (show c_fi c_ps I I100b by exact (c_fi_trans (c_fi_up (c_fi_up (c_fi_up (c_fi_up (c_fi_up (c_fi_trans (c_fi_up (c_fi_up (c_fi_up (c_fi_up (c_fi_up (c_fi_up c_fi_refl rfl) rfl) rfl) rfl) rfl) rfl) f29) rfl) rfl) rfl) rfl) rfl) f108)), (show c_fa c_pa A A100b by exact (c_fa_trans (c_fa_trans f30 f85) f109)), (show M99.1[t106]? = some (.inr (11, [])) by exact f110)⟩)
          · rw [e89]
            replace hR78b : w_Rep w_TC fr X (u + 6) (l + 64) I78b A78b B78b C78b M77 := hR78b
            replace f90 : c_fi c_ps (w_up (w_up (w_up (w_up I24a 2436 ((I24a 2436) + 1)) 2441 (zt55)) 2437 (zk56)) 2438 (zv57)) I78b := f90
            replace f91 : c_fa c_pa A24a A78b := f91
            replace f92 : M77.1[t88]? = some (.inr (11, [])) := f92
            exact Or.inr (⟨t88, I78b, A78b, B78b, C78b, rfl, hR78b, (show c_fi c_ps I I78b by exact (c_fi_trans (c_fi_up (c_fi_up (c_fi_up (c_fi_up (c_fi_trans (c_fi_up (c_fi_up (c_fi_up (c_fi_up (c_fi_up (c_fi_up c_fi_refl rfl) rfl) rfl) rfl) rfl) rfl) f29) rfl) rfl) rfl) rfl) f90)), (show c_fa c_pa A A78b by exact (c_fa_trans f30 f91)), (show M77.1[t88]? = some (.inr (11, [])) by exact f92)⟩)
        · have h68 : ¬ (zk56 = 2) := h68
          show w_W _ _ _ (34, [(1, .int (Int32.ofInt (v25))), (0, .ref 38)], [], M53) _
          refine w_adv (n := 2) (F' := (36, [(1, .int (Int32.ofInt (v25))), (0, .ref 38)], [.int (Int32.ofInt (1)), .ref 38], M53)) rfl ?_
          refine w_call (cm := 100) (as := [(0, .ref 38), (1, .int (Int32.ofInt (1)))]) (rest := []) (o := some (4, 38)) rfl (w_fitR hR54a rfl) (c_fail (1) hR54a ⟨by omega, by omega⟩ (show l ≤ 7000000 by first | assumption | omega) (show 1 ≤ 1 ∧ 1 ≤ 7 by first | assumption | omega)) (fun r189 M190 q191 => ?_)
          rcases q191 with ⟨t192, I191a, A191a, B191a, C191a, e193, hR191a, f194, f195, f196⟩
          rw [e193]
          replace hR191a : w_Rep w_TC fr X (u + 6) (l + 64) I191a A191a B191a C191a M190 := hR191a
          replace f194 : c_fi c_ps (w_up (w_up (w_up (w_up I24a 2436 ((I24a 2436) + 1)) 2441 (zt55)) 2437 (zk56)) 2438 (zv57)) I191a := f194
          replace f195 : c_fa c_pa A24a A191a := f195
          replace f196 : M190.1[t192]? = some (.inr (11, [])) := f196
          exact Or.inr (⟨t192, I191a, A191a, B191a, C191a, rfl, hR191a, (show c_fi c_ps I I191a by exact (c_fi_trans (c_fi_up (c_fi_up (c_fi_up (c_fi_up (c_fi_trans (c_fi_up (c_fi_up (c_fi_up (c_fi_up (c_fi_up (c_fi_up c_fi_refl rfl) rfl) rfl) rfl) rfl) rfl) f29) rfl) rfl) rfl) rfl) f194)), (show c_fa c_pa A A191a by exact (c_fa_trans f30 f195)), (show M190.1[t192]? = some (.inr (11, [])) by exact f196)⟩)
      · rw [e62]
        replace hR54b : w_Rep w_TC fr X (u + 6) (l + 64) I54b A54b B54b C54b M53 := hR54b
        replace f63 : c_fi c_ps I24a I54b := f63
        replace f64 : c_fa c_pa A24a A54b := f64
        replace f65 : M53.1[t61]? = some (.inr (11, [])) := f65
        exact Or.inr (⟨t61, I54b, A54b, B54b, C54b, rfl, hR54b, (show c_fi c_ps I I54b by exact (c_fi_trans (c_fi_trans (c_fi_up (c_fi_up (c_fi_up (c_fi_up (c_fi_up (c_fi_up c_fi_refl rfl) rfl) rfl) rfl) rfl) rfl) f29) f63)), (show c_fa c_pa A A54b by exact (c_fa_trans f30 f64)), (show M53.1[t61]? = some (.inr (11, [])) by exact f65)⟩)
    · rw [e35]
      replace hR24b : w_Rep w_TC fr X (u + 6) (l + 64) I24b A24b B24b C24b M23 := hR24b
      replace f36 : c_fi c_ps (w_up (w_up (w_up (w_up (w_up (w_up I 2440 (x3)) 2436 ((I 2436) + 1)) 2441 (zt11)) 2437 (zk12)) 2438 (zv13)) 2439 ((I 2439) + 1)) I24b := f36
      replace f37 : c_fa c_pa A A24b := f37
      replace f38 : M23.1[t34]? = some (.inr (11, [])) := f38
      exact Or.inr (⟨t34, I24b, A24b, B24b, C24b, rfl, hR24b, (show c_fi c_ps I I24b by exact (c_fi_trans (c_fi_up (c_fi_up (c_fi_up (c_fi_up (c_fi_up (c_fi_up c_fi_refl rfl) rfl) rfl) rfl) rfl) rfl) f36)), (show c_fa c_pa A A24b by exact f37), (show M23.1[t34]? = some (.inr (11, [])) by exact f38)⟩)
  · rw [e18]
    replace hR10b : w_Rep w_TC fr X (u + 6) (l + 64) I10b A10b B10b C10b M9 := hR10b
    replace f19 : c_fi c_ps (w_up I 2440 (x3)) I10b := f19
    replace f20 : c_fa c_pa A A10b := f20
    replace f21 : M9.1[t17]? = some (.inr (11, [])) := f21
    exact Or.inr (⟨t17, I10b, A10b, B10b, C10b, rfl, hR10b, (show c_fi c_ps I I10b by exact (c_fi_trans (c_fi_up c_fi_refl rfl) f19)), (show c_fa c_pa A A10b by exact f20), (show M9.1[t17]? = some (.inr (11, [])) by exact f21)⟩)
