def c_local_Q (fr : Nat → Bool) (X : Nat → Option (q_C (Nat → Int32))) (u l : Nat) (I : Nat → Int) (A : Nat → Int → Int) (B C : Nat → Nat) (M : w_M) (b : Int) : w_X → w_M → Prop := fun r M' => (∃ v : Int, ∃ (I' : Nat → Int) (A' : Nat → Int → Int) (B' C' : Nat → Nat), (r = .inl (some v)) ∧ (w_in v) ∧ (w_Rep w_TC fr X u l I' A' B' C' M') ∧ (c_fi c_ps I I') ∧ (c_fa c_pa A A') ∧ ((0 ≤ (I' 2436) ∧ (I' 2436) ≤ (I' 773) ∧ ((I' 2437) = 0 ∨ (I' 2436) < (I' 773))) ∧ ((I' 773) = (I 773) ∧ (I' 2439) = (I 2439) ∧ 0 ≤ (I' 2117)) ∧ (I 2436) + 1 ≤ (I' 2436) ∧ (I' 1670) + 1 ≤ (I 1670) + 2 * ((I' 2436) - (I 2436)) ∧ (I 1670) ≤ (I' 1670)) ∧ (c_agl A A' (I 1670)) ∧ (c_Wn A' (c_r (I 2439) 1) v (I 1670) (I' 1670))) ∨ (∃ t : Nat, ∃ (I' : Nat → Int) (A' : Nat → Int → Int) (B' C' : Nat → Nat), (r = .inr t) ∧ (w_Rep w_TC fr X (u + 6) (l + 64) I' A' B' C' M') ∧ (c_fi c_ps I I') ∧ (c_fa c_pa A A') ∧ (M'.1[None]? = some (.inr (11, []))))
set_option maxHeartbeats 100000000 in
set_option maxRecDepth 100000 in
theorem c_local {L : Nat} {xs : Nat → Int32} {d : Nat} {fr : Nat → Bool} {X : Nat → Option (q_C (Nat → Int32))} {u l : Nat} {I : Nat → Int} {A : Nat → Int → Int} {B C : Nat → Nat} {M : w_M} (hA : c_ALL L xs d) (b : Int) (hR : w_Rep w_TC fr X u l I A B C M) (hd : 10 * (24 - (I 2439)) + 9 ≤ (d : Int)) (r_b : w_in b) (hl : l ≤ 100000) (hNU : (0 ≤ (I 2436) ∧ (I 2436) ≤ (I 773) ∧ (I 773) ≤ 1501 ∧ ((I 2437) = 0 ∨ (I 2436) < (I 773))) ∧ (0 ≤ (I 2439) ∧ (I 2439) ≤ 24 ∧ 0 ≤ (I 2117)) ∧ 0 ≤ (I 1670) ∧ (I 1670) ≤ 2 * (I 2436) + 1) (hk0 : ¬ (I 2437) = 0) : w_W (z_P L xs) d 122 (0, [(0, .ref 38), (1, .int (Int32.ofInt (b)))], [], M) (c_local_Q fr X u l I A B C M b) := by
  obtain ⟨ra_b, rb_b⟩ := r_b
  obtain ⟨d, rfl⟩ : ∃ d0, d = d0 + 1 := ⟨d - 1, by omega⟩
  refine w_adv (n := 1) (F' := (1, [(0, .ref 38), (1, .int (Int32.ofInt (b)))], [.ref 38], M)) rfl ?_
  refine w_call (cm := 99) (as := [(0, .ref 38)]) (rest := []) (o := some (4, 38)) rfl (w_fitR hR rfl) (c_open hR (show 4 ≤ d by omega) (show l ≤ 100000 by first | assumption | omega) (show -1 ≤ (I 2436) ∧ (I 2436) < (I 773) ∧ (I 773) ≤ 1501 by first | assumption | omega) (show 0 ≤ (I 2439) ∧ (I 2439) ≤ 24 by first | assumption | omega)) (fun r1 M2 q3 => ?_)
  rcases q3 with ⟨zt4, zk5, zv6, e7, hR3a, f8, f9⟩ | ⟨t10, I3b, A3b, B3b, C3b, e11, hR3b, f12, f13, f14⟩
  · rw [e7]
    replace hR3a : w_Rep w_TC fr X u l (w_up (w_up (w_up (w_up (w_up I 2436 ((I 2436) + 1)) 2441 (zt4)) 2437 (zk5)) 2438 (zv6)) 2439 ((I 2439) + 1)) A B C M2 := hR3a
    replace f8 : ((I 2436) + 1 < (I 773) ∨ zk5 = 0) := f8
    replace f9 : (I 2439) < 24 := f9
    show w_W _ _ _ (4, [(0, .ref 38), (1, .int (Int32.ofInt (b)))], [], M2) _
    refine w_adv (n := 1) (F' := (5, [(0, .ref 38), (1, .int (Int32.ofInt (b)))], [.ref 38], M2)) rfl ?_
    refine w_gf (v := .ref 33) hR3a rfl rfl rfl rfl ?_
    refine w_call (cm := 118) (as := [(0, .ref 33)]) (rest := []) (o := some (5, 33)) rfl (w_fitR hR3a rfl) (c_snext hR3a) (fun r15 M16 q17 => ?_)
    rcases q17 with ⟨e18, e19⟩
    rw [e18, e19]
    show w_W _ _ _ (11, [(0, .ref 38), (1, .int (Int32.ofInt (b)))], [.int (Int32.ofInt ((I 2117)))], M2) _
    refine w_adv (n := 2) (F' := (13, [(2, .int (Int32.ofInt ((I 2117)))), (0, .ref 38), (1, .int (Int32.ofInt (b)))], [.ref 38], M2)) rfl ?_
    refine w_gf (v := .int (Int32.ofInt (zk5))) hR3a rfl rfl rfl rfl ?_
    obtain ⟨r20, r21⟩ : -2147483648 ≤ zk5 ∧ zk5 ≤ 2147483647 := hR3a.ri 2437
    refine w_adv (n := 1) (F' := (17, [(2, .int (Int32.ofInt ((I 2117)))), (0, .ref 38), (1, .int (Int32.ofInt (b)))], [.int (Int32.ofInt (2)), .int (Int32.ofInt (zk5))], M2)) rfl ?_
    refine w_br2 (a := zk5) (b := 2) rfl rfl ⟨by omega, by omega⟩ ⟨by omega, by omega⟩ (fun h22 => ?_) (fun h22 => ?_)
    · have h22 : zk5 = 2 := h22
      show w_W _ _ _ (26, [(2, .int (Int32.ofInt ((I 2117)))), (0, .ref 38), (1, .int (Int32.ofInt (b)))], [], M2) _
      refine w_adv (n := 1) (F' := (27, [(2, .int (Int32.ofInt ((I 2117)))), (0, .ref 38), (1, .int (Int32.ofInt (b)))], [.ref 38], M2)) rfl ?_
      refine w_call (cm := 119) (as := [(0, .ref 38)]) (rest := []) (o := some (4, 38)) rfl (w_fitR hR3a rfl) (c_variables hR3a (show 5 ≤ d by omega) (show l ≤ 100000 by first | assumption | omega) (show (0 ≤ (I 2436) + 1 ∧ (I 2436) + 1 ≤ (I 773) ∧ (I 773) ≤ 1501 ∧ (zk5 = 0 ∨ (I 2436) + 1 < (I 773))) ∧ (0 ≤ (I 2439) + 1 ∧ (I 2439) + 1 ≤ 24 ∧ 0 ≤ (I 2117)) ∧ 0 ≤ (I 1670) ∧ (I 1670) ≤ 2 * ((I 2436) + 1) + 1 by (repeat' apply And.intro) <;> first | assumption | omega)) (fun r23 M24 q25 => ?_)
      rcases q25 with ⟨v26, I25a, A25a, B25a, C25a, e27, ⟨r28, r29⟩, hR25a, f30, f31, f32, f33, f34⟩ | ⟨t35, I25b, A25b, B25b, C25b, e36, hR25b, f37, f38, f39⟩
      · rw [e27]
        replace hR25a : w_Rep w_TC fr X u l I25a A25a B25a C25a M24 := hR25a
        replace f30 : c_fi c_ps (w_up (w_up (w_up (w_up (w_up I 2436 ((I 2436) + 1)) 2441 (zt4)) 2437 (zk5)) 2438 (zv6)) 2439 ((I 2439) + 1)) I25a := f30
        replace f31 : c_fa c_pa A A25a := f31
        replace f32 : (0 ≤ (I25a 2436) ∧ (I25a 2436) ≤ (I25a 773) ∧ ((I25a 2437) = 0 ∨ (I25a 2436) < (I25a 773))) ∧ ((I25a 773) = (I 773) ∧ (I25a 2439) = (I 2439) + 1 ∧ 0 ≤ (I25a 2117)) ∧ ((I 2436) + 1) + 0 ≤ (I25a 2436) ∧ (I25a 1670) + 0 ≤ (I 1670) + 2 * ((I25a 2436) - ((I 2436) + 1)) ∧ (I 1670) ≤ (I25a 1670) := f32
        obtain ⟨⟨n40, n41, n42⟩, ⟨n43, n44, n45⟩, n46, n47, n48⟩ := id f32
        clear f32
        replace f33 : c_agl A A25a (I 1670) := f33
        replace f34 : 0 ≤ v26 := f34
        have g49 : c_agl A A25a (I 1670) := c_agl_trans c_agl_refl f33 (show (I 1670) ≤ (I 1670) by omega)
        show w_W _ _ _ (30, [(2, .int (Int32.ofInt ((I 2117)))), (0, .ref 38), (1, .int (Int32.ofInt (b)))], [.int (Int32.ofInt (v26))], M24) _
        refine w_adv (n := 3) (F' := (34, [(3, .int (Int32.ofInt (v26))), (2, .int (Int32.ofInt ((I 2117)))), (0, .ref 38), (1, .int (Int32.ofInt (b)))], [.int (Int32.ofInt (23)), .ref 38], M24)) rfl ?_
        refine w_call (cm := 105) (as := [(0, .ref 38), (1, .int (Int32.ofInt (23)))]) (rest := []) (o := some (4, 38)) rfl (w_fitR hR25a rfl) (c_need (23) hR25a (show 4 ≤ d by omega) ⟨by omega, by omega⟩ (show l ≤ 100000 by first | assumption | omega) (show -1 ≤ (I25a 2436) ∧ ((I25a 2437) = 0 ∨ (I25a 2436) < (I25a 773)) ∧ (I25a 773) ≤ 1501 ∧ 1 ≤ 23 by first | assumption | omega)) (fun r50 M51 q52 => ?_)
        rcases q52 with ⟨zt53, zk54, zv55, e56, hR52a, f57, f58⟩ | ⟨t59, I52b, A52b, B52b, C52b, e60, hR52b, f61, f62, f63⟩
        · rw [e56]
          replace hR52a : w_Rep w_TC fr X u l (w_up (w_up (w_up (w_up I25a 2436 ((I25a 2436) + 1)) 2441 (zt53)) 2437 (zk54)) 2438 (zv55)) A25a B25a C25a M51 := hR52a
          replace f57 : ((I25a 2436) + 1 < (I25a 773) ∨ zk54 = 0) := f57
          replace f58 : (I25a 2437) = 23 := f58
          show w_W _ _ _ (37, [(3, .int (Int32.ofInt (v26))), (2, .int (Int32.ofInt ((I 2117)))), (0, .ref 38), (1, .int (Int32.ofInt (b)))], [], M51) _
          refine w_adv (n := 2) (F' := (39, [(3, .int (Int32.ofInt (v26))), (2, .int (Int32.ofInt ((I 2117)))), (0, .ref 38), (1, .int (Int32.ofInt (b)))], [.int (Int32.ofInt (b)), .ref 38], M51)) rfl ?_
          refine w_call (cm := 88) (as := [(0, .ref 38), (1, .int (Int32.ofInt (b)))]) (rest := []) (o := some (4, 38)) rfl (w_fitR hR52a rfl) ((hA d (Nat.lt_succ_self d)).2 (b) hR52a (show 10 * (24 - (I25a 2439)) + 15 ≤ (d : Int) by omega) ⟨by omega, by omega⟩ (show l ≤ 100000 by first | assumption | omega) (show (0 ≤ (I25a 2436) + 1 ∧ (I25a 2436) + 1 ≤ (I25a 773) ∧ (I25a 773) ≤ 1501 ∧ (zk54 = 0 ∨ (I25a 2436) + 1 < (I25a 773))) ∧ (0 ≤ (I25a 2439) ∧ (I25a 2439) ≤ 24 ∧ 0 ≤ (I25a 2117)) ∧ 0 ≤ (I25a 1670) ∧ (I25a 1670) ≤ 2 * ((I25a 2436) + 1) + 1 by (repeat' apply And.intro) <;> first | assumption | omega)) (fun r64 M65 q66 => ?_)
          rcases q66 with ⟨v67, I66a, A66a, B66a, C66a, e68, ⟨r69, r70⟩, hR66a, f71, f72, f73, f74, f75⟩ | ⟨t76, I66b, A66b, B66b, C66b, e77, hR66b, f78, f79, f80⟩
          · rw [e68]
            replace hR66a : w_Rep w_TC fr X u l I66a A66a B66a C66a M65 := hR66a
            replace f71 : c_fi c_ps (w_up (w_up (w_up (w_up I25a 2436 ((I25a 2436) + 1)) 2441 (zt53)) 2437 (zk54)) 2438 (zv55)) I66a := f71
            replace f72 : c_fa c_pa A25a A66a := f72
            replace f73 : (0 ≤ (I66a 2436) ∧ (I66a 2436) ≤ (I66a 773) ∧ ((I66a 2437) = 0 ∨ (I66a 2436) < (I66a 773))) ∧ ((I66a 773) = (I25a 773) ∧ (I66a 2439) = (I25a 2439) ∧ 0 ≤ (I66a 2117)) ∧ ((I25a 2436) + 1) + 1 ≤ (I66a 2436) ∧ (I66a 1670) + 0 ≤ (I25a 1670) + 2 * ((I66a 2436) - ((I25a 2436) + 1)) ∧ (I25a 1670) ≤ (I66a 1670) := f73
            obtain ⟨⟨n81, n82, n83⟩, ⟨n84, n85, n86⟩, n87, n88, n89⟩ := id f73
            clear f73
            replace f74 : c_agl A25a A66a (I25a 1670) := f74
            replace f75 : c_Bd A66a (c_W A66a (c_r (I25a 2439) 4)) v67 (I25a 1670) (I66a 1670) := f75
            have g90 : c_agl A A66a (I 1670) := c_agl_trans g49 f74 (show (I 1670) ≤ (I25a 1670) by omega)
            have k91 : c_Bd A66a (c_W A66a (c_r (I 2439) 0)) v67 (I25a 1670) (I66a 1670) := c_Bd_up f75 (show c_r (I25a 2439) 4 ≤ c_r (I 2439) 0 by unfold c_r; omega)
            obtain ⟨b92, b93, -⟩ := id k91
            show w_W _ _ _ (42, [(3, .int (Int32.ofInt (v26))), (2, .int (Int32.ofInt ((I 2117)))), (0, .ref 38), (1, .int (Int32.ofInt (b)))], [.int (Int32.ofInt (v67))], M65) _
            refine w_adv (n := 2) (F' := (45, [(4, .int (Int32.ofInt (v67))), (3, .int (Int32.ofInt (v26))), (2, .int (Int32.ofInt ((I 2117)))), (0, .ref 38), (1, .int (Int32.ofInt (b)))], [.ref 38], M65)) rfl ?_
            refine w_gf (v := .ref 33) hR66a rfl rfl rfl rfl ?_
            refine w_adv (n := 2) (F' := (50, [(4, .int (Int32.ofInt (v67))), (3, .int (Int32.ofInt (v26))), (2, .int (Int32.ofInt ((I 2117)))), (0, .ref 38), (1, .int (Int32.ofInt (b)))], [.int (Int32.ofInt (v26)), .int (Int32.ofInt ((I 2117))), .ref 33], M65)) rfl ?_
            refine w_call (cm := 121) (as := [(0, .ref 33), (1, .int (Int32.ofInt ((I 2117)))), (2, .int (Int32.ofInt (v26)))]) (rest := []) (o := some (5, 33)) rfl (w_fitR hR66a rfl) (c_lv ((I 2117)) (v26) hR66a (show 1 ≤ d by omega) ⟨by omega, by omega⟩ ⟨by omega, by omega⟩ (show -5 ≤ (I 2117) ∧ -5 ≤ v26 by first | assumption | omega)) (fun r94 M95 q96 => ?_)
            rcases q96 with ⟨A97, e98, hR96a, f99, f100⟩
            rw [e98]
            replace hR96a : w_Rep w_TC fr X u l I66a A97 B66a C66a M95 := hR96a
            replace f99 : c_fa c_pa A66a A97 := f99
            replace f100 : c_ags A66a A97 := f100
            have k101 : c_Bd A97 (c_W A97 (c_r (I 2439) 0)) v67 (I25a 1670) (I66a 1670) := c_Bd_agl k91 (c_ags_l f100 (I66a 1670)) (show 0 ≤ (I25a 1670) by omega) (show (I66a 1670) ≤ (I66a 1670) by omega)
            clear k91
            have g102 : c_agl A A97 (I 1670) := c_agl_trans g90 (c_ags_l f100 (I66a 1670)) (show (I 1670) ≤ (I66a 1670) by omega)
            show w_W _ _ _ (53, [(4, .int (Int32.ofInt (v67))), (3, .int (Int32.ofInt (v26))), (2, .int (Int32.ofInt ((I 2117)))), (0, .ref 38), (1, .int (Int32.ofInt (b)))], [], M95) _
            refine w_adv (n := 2) (F' := (56, [(4, .int (Int32.ofInt (v67))), (3, .int (Int32.ofInt (v26))), (2, .int (Int32.ofInt ((I 2117)))), (0, .ref 38), (1, .int (Int32.ofInt (b)))], [.int (Int32.ofInt (24)), .ref 38], M95)) rfl ?_
            refine w_call (cm := 113) (as := [(0, .ref 38), (1, .int (Int32.ofInt (24)))]) (rest := []) (o := some (4, 38)) rfl (w_fitR hR96a rfl) (c_close (24) hR96a (show 4 ≤ d by omega) ⟨by omega, by omega⟩ (show l ≤ 100000 by first | assumption | omega) (show -1 ≤ (I66a 2436) ∧ ((I66a 2437) = 0 ∨ (I66a 2436) < (I66a 773)) ∧ (I66a 773) ≤ 1501 ∧ 1 ≤ 24 by first | assumption | omega) (show 0 ≤ (I66a 2439) ∧ (I66a 2439) ≤ 24 by first | assumption | omega)) (fun r103 M104 q105 => ?_)
            rcases q105 with ⟨zt106, zk107, zv108, e109, hR105a, f110, f111⟩ | ⟨t112, I105b, A105b, B105b, C105b, e113, hR105b, f114, f115, f116⟩
            · rw [e109]
              replace hR105a : w_Rep w_TC fr X u l (w_up (w_up (w_up (w_up (w_up I66a 2436 ((I66a 2436) + 1)) 2441 (zt106)) 2437 (zk107)) 2438 (zv108)) 2439 ((I66a 2439) - 1)) A97 B66a C66a M104 := hR105a
              replace f110 : ((I66a 2436) + 1 < (I66a 773) ∨ zk107 = 0) := f110
              replace f111 : (I66a 2437) = 24 := f111
              show w_W _ _ _ (59, [(4, .int (Int32.ofInt (v67))), (3, .int (Int32.ofInt (v26))), (2, .int (Int32.ofInt ((I 2117)))), (0, .ref 38), (1, .int (Int32.ofInt (b)))], [], M104) _
              refine w_adv (n := 1) (F' := (60, [(4, .int (Int32.ofInt (v67))), (3, .int (Int32.ofInt (v26))), (2, .int (Int32.ofInt ((I 2117)))), (0, .ref 38), (1, .int (Int32.ofInt (b)))], [.ref 38], M104)) rfl ?_
              refine w_gf (v := .ref 26) hR105a rfl rfl rfl rfl ?_
              refine w_adv (n := 5) (F' := (70, [(4, .int (Int32.ofInt (v67))), (3, .int (Int32.ofInt (v26))), (2, .int (Int32.ofInt ((I 2117)))), (0, .ref 38), (1, .int (Int32.ofInt (b)))], [.int (Int32.ofInt ((I 2117))), .int (Int32.ofInt (v26)), .int (Int32.ofInt (v67)), .int (Int32.ofInt ((I 2117))), .int (Int32.ofInt (13)), .ref 26], M104)) rfl ?_
              refine w_sub rfl ?_
              refine w_int (fun x117 r118 e119 => ?_)
              obtain ⟨r118a, r118b⟩ := r118
              clear e119
              refine w_call (cm := 94) (as := [(0, .ref 26), (1, .int (Int32.ofInt (13))), (2, .int (Int32.ofInt ((I 2117)))), (3, .int (Int32.ofInt (v67))), (4, .int (Int32.ofInt (x117)))]) (rest := []) (o := some (8, 26)) rfl (w_fitR hR105a rfl) (c_mkn (13) ((I 2117)) (v67) (x117) hR105a (show 2 ≤ d by omega) ⟨by omega, by omega⟩ ⟨by omega, by omega⟩ ⟨by omega, by omega⟩ ⟨by omega, by omega⟩ (show 0 ≤ (I66a 1670) ∧ (I66a 1670) < 3016 by first | assumption | omega)) (fun r120 M121 q122 => ?_)
              rcases q122 with ⟨A123, e124, hR122a, f125, f126⟩
              rw [e124]
              replace hR122a : w_Rep w_TC fr X u l (w_up (w_up (w_up (w_up (w_up (w_up I66a 2436 ((I66a 2436) + 1)) 2441 (zt106)) 2437 (zk107)) 2438 (zv108)) 2439 ((I66a 2439) - 1)) 1670 ((I66a 1670) + 1)) A123 B66a C66a M121 := hR122a
              replace f125 : c_fa c_pa A97 A123 := f125
              replace f126 : c_mk A97 A123 (I66a 1670) 13 (I 2117) v67 x117 := f126
              have k127 : c_Wn A123 (c_r (I 2439) 1) (I66a 1670) (I25a 1670) ((I66a 1670) + 1) := c_Wn_up ⟨c_W_11 f126 (by omega) (show 0 ≤ (I25a 1670) by omega) (c_BdW_win k101 (show (I25a 1670) ≤ (I25a 1670) by omega) (show (I66a 1670) ≤ (I66a 1670) by omega)), f126.2.2.2.2.2⟩ (show (c_r (I 2439) 0) + 1 ≤ (c_r (I 2439) 1) by unfold c_r; omega)
              have k128 : c_Bd A123 (c_W A123 (c_r (I 2439) 0)) v67 (I25a 1670) (I66a 1670) := c_Bd_agl k101 f126.1 (show 0 ≤ (I25a 1670) by omega) (show (I66a 1670) ≤ (I66a 1670) by omega)
              clear k101
              have g129 : c_agl A A123 (I 1670) := c_agl_trans g102 f126.1 (show (I 1670) ≤ (I66a 1670) by omega)
              show w_W _ _ _ (74, [(4, .int (Int32.ofInt (v67))), (3, .int (Int32.ofInt (v26))), (2, .int (Int32.ofInt ((I 2117)))), (0, .ref 38), (1, .int (Int32.ofInt (b)))], [.int (Int32.ofInt ((I66a 1670)))], M121) _
              refine w_fin (r := .inl (some ((I66a 1670)))) (M' := M121) rfl ?_
              exact Or.inl ⟨(I66a 1670), (w_up (w_up (w_up (w_up (w_up (w_up I66a 2436 ((I66a 2436) + 1)) 2441 (zt106)) 2437 (zk107)) 2438 (zv108)) 2439 ((I66a 2439) - 1)) 1670 ((I66a 1670) + 1)), A123, B66a, C66a, rfl, ⟨by omega, by omega⟩, hR122a, (show c_fi c_ps I (w_up (w_up (w_up (w_up (w_up (w_up I66a 2436 ((I66a 2436) + 1)) 2441 (zt106)) 2437 (zk107)) 2438 (zv108)) 2439 ((I66a 2439) - 1)) 1670 ((I66a 1670) + 1)) by exact (c_fi_up (c_fi_up (c_fi_up (c_fi_up (c_fi_up (c_fi_up (c_fi_trans (c_fi_up (c_fi_up (c_fi_up (c_fi_up (c_fi_trans (c_fi_up (c_fi_up (c_fi_up (c_fi_up (c_fi_up c_fi_refl rfl) rfl) rfl) rfl) rfl) f30) rfl) rfl) rfl) rfl) f71) rfl) rfl) rfl) rfl) rfl) rfl)), (show c_fa c_pa A A123 by exact (c_fa_trans (c_fa_trans (c_fa_trans f31 f72) f99) f125)), (show (0 ≤ (I66a 2436) + 1 ∧ (I66a 2436) + 1 ≤ (I66a 773) ∧ (zk107 = 0 ∨ (I66a 2436) + 1 < (I66a 773))) ∧ ((I66a 773) = (I 773) ∧ (I66a 2439) - 1 = (I 2439) ∧ 0 ≤ (I66a 2117)) ∧ (I 2436) + 1 ≤ (I66a 2436) + 1 ∧ ((I66a 1670) + 1) + 1 ≤ (I 1670) + 2 * (((I66a 2436) + 1) - (I 2436)) ∧ (I 1670) ≤ (I66a 1670) + 1 by (repeat' apply And.intro) <;> first | assumption | omega), (show c_agl A A123 (I 1670) by exact g129), (show c_Wn A123 (c_r (I 2439) 1) (I66a 1670) (I 1670) ((I66a 1670) + 1) by exact c_Wn_win (c_Wn_up k127 (show c_r (I 2439) 1 ≤ c_r (I 2439) 1 by unfold c_r; omega)) (show (I 1670) ≤ (I25a 1670) by omega) (show ((I66a 1670) + 1) ≤ ((I66a 1670) + 1) by omega))⟩
            · rw [e113]
              replace hR105b : w_Rep w_TC fr X (u + 6) (l + 64) I105b A105b B105b C105b M104 := hR105b
              replace f114 : c_fi c_ps I66a I105b := f114
              replace f115 : c_fa c_pa A97 A105b := f115
              replace f116 : M104.1[t112]? = some (.inr (11, [])) := f116
              exact Or.inr (⟨t112, I105b, A105b, B105b, C105b, rfl, hR105b, (show c_fi c_ps I I105b by exact (c_fi_trans (c_fi_trans (c_fi_up (c_fi_up (c_fi_up (c_fi_up (c_fi_trans (c_fi_up (c_fi_up (c_fi_up (c_fi_up (c_fi_up c_fi_refl rfl) rfl) rfl) rfl) rfl) f30) rfl) rfl) rfl) rfl) f71) f114)), (show c_fa c_pa A A105b by exact (c_fa_trans (c_fa_trans (c_fa_trans f31 f72) f99) f115)), (show M104.1[t112]? = some (.inr (11, [])) by exact f116)⟩)
          · rw [e77]
            replace hR66b : w_Rep w_TC fr X (u + 6) (l + 64) I66b A66b B66b C66b M65 := hR66b
            replace f78 : c_fi c_ps (w_up (w_up (w_up (w_up I25a 2436 ((I25a 2436) + 1)) 2441 (zt53)) 2437 (zk54)) 2438 (zv55)) I66b := f78
            replace f79 : c_fa c_pa A25a A66b := f79
            replace f80 : M65.1[t76]? = some (.inr (11, [])) := f80
            exact Or.inr (⟨t76, I66b, A66b, B66b, C66b, rfl, hR66b, (show c_fi c_ps I I66b by exact (c_fi_trans (c_fi_up (c_fi_up (c_fi_up (c_fi_up (c_fi_trans (c_fi_up (c_fi_up (c_fi_up (c_fi_up (c_fi_up c_fi_refl rfl) rfl) rfl) rfl) rfl) f30) rfl) rfl) rfl) rfl) f78)), (show c_fa c_pa A A66b by exact (c_fa_trans f31 f79)), (show M65.1[t76]? = some (.inr (11, [])) by exact f80)⟩)
        · rw [e60]
          replace hR52b : w_Rep w_TC fr X (u + 6) (l + 64) I52b A52b B52b C52b M51 := hR52b
          replace f61 : c_fi c_ps I25a I52b := f61
          replace f62 : c_fa c_pa A25a A52b := f62
          replace f63 : M51.1[t59]? = some (.inr (11, [])) := f63
          exact Or.inr (⟨t59, I52b, A52b, B52b, C52b, rfl, hR52b, (show c_fi c_ps I I52b by exact (c_fi_trans (c_fi_trans (c_fi_up (c_fi_up (c_fi_up (c_fi_up (c_fi_up c_fi_refl rfl) rfl) rfl) rfl) rfl) f30) f61)), (show c_fa c_pa A A52b by exact (c_fa_trans f31 f62)), (show M51.1[t59]? = some (.inr (11, [])) by exact f63)⟩)
      · rw [e36]
        replace hR25b : w_Rep w_TC fr X (u + 6) (l + 64) I25b A25b B25b C25b M24 := hR25b
        replace f37 : c_fi c_ps (w_up (w_up (w_up (w_up (w_up I 2436 ((I 2436) + 1)) 2441 (zt4)) 2437 (zk5)) 2438 (zv6)) 2439 ((I 2439) + 1)) I25b := f37
        replace f38 : c_fa c_pa A A25b := f38
        replace f39 : M24.1[t35]? = some (.inr (11, [])) := f39
        exact Or.inr (⟨t35, I25b, A25b, B25b, C25b, rfl, hR25b, (show c_fi c_ps I I25b by exact (c_fi_trans (c_fi_up (c_fi_up (c_fi_up (c_fi_up (c_fi_up c_fi_refl rfl) rfl) rfl) rfl) rfl) f37)), (show c_fa c_pa A A25b by exact f38), (show M24.1[t35]? = some (.inr (11, [])) by exact f39)⟩)
    · have h22 : ¬ (zk5 = 2) := h22
      show w_W _ _ _ (20, [(2, .int (Int32.ofInt ((I 2117)))), (0, .ref 38), (1, .int (Int32.ofInt (b)))], [], M2) _
      refine w_adv (n := 2) (F' := (22, [(2, .int (Int32.ofInt ((I 2117)))), (0, .ref 38), (1, .int (Int32.ofInt (b)))], [.int (Int32.ofInt (1)), .ref 38], M2)) rfl ?_
      refine w_call (cm := 100) (as := [(0, .ref 38), (1, .int (Int32.ofInt (1)))]) (rest := []) (o := some (4, 38)) rfl (w_fitR hR3a rfl) (c_fail (1) hR3a ⟨by omega, by omega⟩ (show l ≤ 100000 by first | assumption | omega) (show 1 ≤ 1 ∧ 1 ≤ 7 by first | assumption | omega)) (fun r130 M131 q132 => ?_)
      rcases q132 with ⟨t133, I132a, A132a, B132a, C132a, e134, hR132a, f135, f136, f137⟩
      rw [e134]
      replace hR132a : w_Rep w_TC fr X (u + 6) (l + 64) I132a A132a B132a C132a M131 := hR132a
      replace f135 : c_fi c_ps (w_up (w_up (w_up (w_up (w_up I 2436 ((I 2436) + 1)) 2441 (zt4)) 2437 (zk5)) 2438 (zv6)) 2439 ((I 2439) + 1)) I132a := f135
      replace f136 : c_fa c_pa A A132a := f136
      replace f137 : M131.1[t133]? = some (.inr (11, [])) := f137
      exact Or.inr (⟨t133, I132a, A132a, B132a, C132a, rfl, hR132a, (show c_fi c_ps I I132a by exact (c_fi_trans (c_fi_up (c_fi_up (c_fi_up (c_fi_up (c_fi_up c_fi_refl rfl) rfl) rfl) rfl) rfl) f135)), (show c_fa c_pa A A132a by exact f136), (show M131.1[t133]? = some (.inr (11, [])) by exact f137)⟩)
  · rw [e11]
    replace hR3b : w_Rep w_TC fr X (u + 6) (l + 64) I3b A3b B3b C3b M2 := hR3b
    replace f12 : c_fi c_ps I I3b := f12
    replace f13 : c_fa c_pa A A3b := f13
    replace f14 : M2.1[t10]? = some (.inr (11, [])) := f14
    exact Or.inr (⟨t10, I3b, A3b, B3b, C3b, rfl, hR3b, (show c_fi c_ps I I3b by exact f12), (show c_fa c_pa A A3b by exact f13), (show M2.1[t10]? = some (.inr (11, [])) by exact f14)⟩)
def c_attempt_Q (fr : Nat → Bool) (X : Nat → Option (q_C (Nat → Int32))) (u l : Nat) (I : Nat → Int) (A : Nat → Int → Int) (B C : Nat → Nat) (M : w_M) : w_X → w_M → Prop := fun r M' => (∃ v : Int, ∃ (I' : Nat → Int) (A' : Nat → Int → Int) (B' C' : Nat → Nat), (r = .inl (some v)) ∧ (w_in v) ∧ (w_Rep w_TC fr X u l I' A' B' C' M') ∧ (c_fi c_ps I I') ∧ (c_fa c_pa A A') ∧ ((0 ≤ (I' 2436) ∧ (I' 2436) ≤ (I' 773) ∧ ((I' 2437) = 0 ∨ (I' 2436) < (I' 773))) ∧ ((I' 773) = (I 773) ∧ (I' 2439) = (I 2439) ∧ 0 ≤ (I' 2117)) ∧ (I 2436) + 1 ≤ (I' 2436) ∧ (I' 1670) + 1 ≤ (I 1670) + 2 * ((I' 2436) - (I 2436)) ∧ (I 1670) ≤ (I' 1670)) ∧ (c_agl A A' (I 1670)) ∧ (c_Wn A' (c_r (I 2439) 1) v (I 1670) (I' 1670))) ∨ (∃ t : Nat, ∃ (I' : Nat → Int) (A' : Nat → Int → Int) (B' C' : Nat → Nat), (r = .inr t) ∧ (w_Rep w_TC fr X (u + 6) (l + 64) I' A' B' C' M') ∧ (c_fi c_ps I I') ∧ (c_fa c_pa A A') ∧ (M'.1[None]? = some (.inr (11, []))))
set_option maxHeartbeats 100000000 in
set_option maxRecDepth 100000 in
theorem c_attempt {L : Nat} {xs : Nat → Int32} {d : Nat} {fr : Nat → Bool} {X : Nat → Option (q_C (Nat → Int32))} {u l : Nat} {I : Nat → Int} {A : Nat → Int → Int} {B C : Nat → Nat} {M : w_M} (hA : c_ALL L xs d) (hR : w_Rep w_TC fr X u l I A B C M) (hd : 10 * (24 - (I 2439)) + 9 ≤ (d : Int)) (hl : l ≤ 100000) (hNU : (0 ≤ (I 2436) ∧ (I 2436) ≤ (I 773) ∧ (I 773) ≤ 1501 ∧ ((I 2437) = 0 ∨ (I 2436) < (I 773))) ∧ (0 ≤ (I 2439) ∧ (I 2439) ≤ 24 ∧ 0 ≤ (I 2117)) ∧ 0 ≤ (I 1670) ∧ (I 1670) ≤ 2 * (I 2436) + 1) (hk0 : ¬ (I 2437) = 0) : w_W (z_P L xs) d 134 (0, [(0, .ref 38)], [], M) (c_attempt_Q fr X u l I A B C M) := by
  obtain ⟨d, rfl⟩ : ∃ d0, d = d0 + 1 := ⟨d - 1, by omega⟩
  refine w_adv (n := 2) (F' := (2, [(0, .ref 38)], [.ref 38, .ref 38], M)) rfl ?_
  refine w_gf (v := .int (Int32.ofInt ((I 2440)))) hR rfl rfl rfl rfl ?_
  obtain ⟨r1, r2⟩ : -2147483648 ≤ (I 2440) ∧ (I 2440) ≤ 2147483647 := hR.ri 2440
  refine w_adv (n := 2) (F' := (7, [(0, .ref 38)], [.int ((Int32.ofInt ((I 2440))) ||| (Int32.ofInt (2))), .ref 38], M)) rfl ?_
  refine w_int (fun x3 r4 e5 => ?_)
  obtain ⟨r4a, r4b⟩ := r4
  refine w_pf hR rfl rfl rfl rfl (show w_in (x3) from ⟨by omega, by omega⟩) (fun h => absurd h (by decide)) (fun M6 hR7 => ?_)
  replace hR7 : w_Rep w_TC fr X u l (w_up I 2440 (x3)) A B C M6 := hR7
  refine w_adv (n := 1) (F' := (11, [(0, .ref 38)], [.ref 38], M6)) rfl ?_
  refine w_call (cm := 99) (as := [(0, .ref 38)]) (rest := []) (o := some (4, 38)) rfl (w_fitR hR7 rfl) (c_open hR7 (show 4 ≤ d by omega) (show l ≤ 100000 by first | assumption | omega) (show -1 ≤ (I 2436) ∧ (I 2436) < (I 773) ∧ (I 773) ≤ 1501 by first | assumption | omega) (show 0 ≤ (I 2439) ∧ (I 2439) ≤ 24 by first | assumption | omega)) (fun r8 M9 q10 => ?_)
  rcases q10 with ⟨zt11, zk12, zv13, e14, hR10a, f15, f16⟩ | ⟨t17, I10b, A10b, B10b, C10b, e18, hR10b, f19, f20, f21⟩
  · rw [e14]
    replace hR10a : w_Rep w_TC fr X u l (w_up (w_up (w_up (w_up (w_up (w_up I 2440 (x3)) 2436 ((I 2436) + 1)) 2441 (zt11)) 2437 (zk12)) 2438 (zv13)) 2439 ((I 2439) + 1)) A B C M9 := hR10a
    replace f15 : ((I 2436) + 1 < (I 773) ∨ zk12 = 0) := f15
    replace f16 : (I 2439) < 24 := f16
    show w_W _ _ _ (14, [(0, .ref 38)], [], M9) _
    refine w_adv (n := 2) (F' := (16, [(0, .ref 38)], [.int (Int32.ofInt (0)), .ref 38], M9)) rfl ?_
    refine w_call (cm := 88) (as := [(0, .ref 38), (1, .int (Int32.ofInt (0)))]) (rest := []) (o := some (4, 38)) rfl (w_fitR hR10a rfl) ((hA d (Nat.lt_succ_self d)).2 (0) hR10a (show 10 * (24 - ((I 2439) + 1)) + 15 ≤ (d : Int) by omega) ⟨by omega, by omega⟩ (show l ≤ 100000 by first | assumption | omega) (show (0 ≤ (I 2436) + 1 ∧ (I 2436) + 1 ≤ (I 773) ∧ (I 773) ≤ 1501 ∧ (zk12 = 0 ∨ (I 2436) + 1 < (I 773))) ∧ (0 ≤ (I 2439) + 1 ∧ (I 2439) + 1 ≤ 24 ∧ 0 ≤ (I 2117)) ∧ 0 ≤ (I 1670) ∧ (I 1670) ≤ 2 * ((I 2436) + 1) + 1 by (repeat' apply And.intro) <;> first | assumption | omega)) (fun r22 M23 q24 => ?_)
    rcases q24 with ⟨v25, I24a, A24a, B24a, C24a, e26, ⟨r27, r28⟩, hR24a, f29, f30, f31, f32, f33⟩ | ⟨t34, I24b, A24b, B24b, C24b, e35, hR24b, f36, f37, f38⟩
    · rw [e26]
      replace hR24a : w_Rep w_TC fr X u l I24a A24a B24a C24a M23 := hR24a
      replace f29 : c_fi c_ps (w_up (w_up (w_up (w_up (w_up (w_up I 2440 (x3)) 2436 ((I 2436) + 1)) 2441 (zt11)) 2437 (zk12)) 2438 (zv13)) 2439 ((I 2439) + 1)) I24a := f29
      replace f30 : c_fa c_pa A A24a := f30
      replace f31 : (0 ≤ (I24a 2436) ∧ (I24a 2436) ≤ (I24a 773) ∧ ((I24a 2437) = 0 ∨ (I24a 2436) < (I24a 773))) ∧ ((I24a 773) = (I 773) ∧ (I24a 2439) = (I 2439) + 1 ∧ 0 ≤ (I24a 2117)) ∧ ((I 2436) + 1) + 1 ≤ (I24a 2436) ∧ (I24a 1670) + 0 ≤ (I 1670) + 2 * ((I24a 2436) - ((I 2436) + 1)) ∧ (I 1670) ≤ (I24a 1670) := f31
      obtain ⟨⟨n39, n40, n41⟩, ⟨n42, n43, n44⟩, n45, n46, n47⟩ := id f31
      clear f31
      replace f32 : c_agl A A24a (I 1670) := f32
      replace f33 : c_Bd A24a (c_W A24a (c_r ((I 2439) + 1) 4)) v25 (I 1670) (I24a 1670) := f33
      have g48 : c_agl A A24a (I 1670) := c_agl_trans c_agl_refl f32 (show (I 1670) ≤ (I 1670) by omega)
      have k49 : c_Bd A24a (c_W A24a (c_r (I 2439) 0)) v25 (I 1670) (I24a 1670) := c_Bd_up f33 (show c_r ((I 2439) + 1) 4 ≤ c_r (I 2439) 0 by unfold c_r; omega)
      obtain ⟨b50, b51, -⟩ := id k49
      show w_W _ _ _ (19, [(0, .ref 38)], [.int (Int32.ofInt (v25))], M23) _
      refine w_adv (n := 3) (F' := (23, [(1, .int (Int32.ofInt (v25))), (0, .ref 38)], [.int (Int32.ofInt (35)), .ref 38], M23)) rfl ?_
      refine w_call (cm := 105) (as := [(0, .ref 38), (1, .int (Int32.ofInt (35)))]) (rest := []) (o := some (4, 38)) rfl (w_fitR hR24a rfl) (c_need (35) hR24a (show 4 ≤ d by omega) ⟨by omega, by omega⟩ (show l ≤ 100000 by first | assumption | omega) (show -1 ≤ (I24a 2436) ∧ ((I24a 2437) = 0 ∨ (I24a 2436) < (I24a 773)) ∧ (I24a 773) ≤ 1501 ∧ 1 ≤ 35 by first | assumption | omega)) (fun r52 M53 q54 => ?_)
      rcases q54 with ⟨zt55, zk56, zv57, e58, hR54a, f59, f60⟩ | ⟨t61, I54b, A54b, B54b, C54b, e62, hR54b, f63, f64, f65⟩
      · rw [e58]
        replace hR54a : w_Rep w_TC fr X u l (w_up (w_up (w_up (w_up I24a 2436 ((I24a 2436) + 1)) 2441 (zt55)) 2437 (zk56)) 2438 (zv57)) A24a B24a C24a M53 := hR54a
        replace f59 : ((I24a 2436) + 1 < (I24a 773) ∨ zk56 = 0) := f59
        replace f60 : (I24a 2437) = 35 := f60
        show w_W _ _ _ (26, [(1, .int (Int32.ofInt (v25))), (0, .ref 38)], [], M53) _
        refine w_adv (n := 1) (F' := (27, [(1, .int (Int32.ofInt (v25))), (0, .ref 38)], [.ref 38], M53)) rfl ?_
        refine w_gf (v := .int (Int32.ofInt (zk56))) hR54a rfl rfl rfl rfl ?_
        obtain ⟨r66, r67⟩ : -2147483648 ≤ zk56 ∧ zk56 ≤ 2147483647 := hR54a.ri 2437
        refine w_adv (n := 1) (F' := (31, [(1, .int (Int32.ofInt (v25))), (0, .ref 38)], [.int (Int32.ofInt (2)), .int (Int32.ofInt (zk56))], M53)) rfl ?_
        refine w_br2 (a := zk56) (b := 2) rfl rfl ⟨by omega, by omega⟩ ⟨by omega, by omega⟩ (fun h68 => ?_) (fun h68 => ?_)
        · have h68 : zk56 = 2 := h68
          show w_W _ _ _ (40, [(1, .int (Int32.ofInt (v25))), (0, .ref 38)], [], M53) _
          refine w_adv (n := 2) (F' := (42, [(1, .int (Int32.ofInt (v25))), (0, .ref 38)], [.ref 38, .ref 38], M53)) rfl ?_
          refine w_gf (v := .ref 33) hR54a rfl rfl rfl rfl ?_
          refine w_call (cm := 118) (as := [(0, .ref 33)]) (rest := [.ref 38]) (o := some (5, 33)) rfl (w_fitR hR54a rfl) (c_snext hR54a) (fun r69 M70 q71 => ?_)
          rcases q71 with ⟨e72, e73⟩
          rw [e72, e73]
          show w_W _ _ _ (48, [(1, .int (Int32.ofInt (v25))), (0, .ref 38)], [.int (Int32.ofInt ((I24a 2117))), .ref 38], M53) _
          refine w_adv (n := 1) (F' := (49, [(1, .int (Int32.ofInt (v25))), (0, .ref 38)], [.int (Int32.ofInt (1)), .int (Int32.ofInt ((I24a 2117))), .ref 38], M53)) rfl ?_
          refine w_call (cm := 120) (as := [(0, .ref 38), (1, .int (Int32.ofInt ((I24a 2117)))), (2, .int (Int32.ofInt (1)))]) (rest := []) (o := some (4, 38)) rfl (w_fitR hR54a rfl) (c_bind ((I24a 2117)) (1) hR54a (show 3 ≤ d by omega) ⟨by omega, by omega⟩ ⟨by omega, by omega⟩ (show l ≤ 100000 by first | assumption | omega) (show 0 ≤ (I24a 2117) by first | assumption | omega)) (fun r74 M75 q76 => ?_)
          rcases q76 with ⟨v77, A78, zs79, e80, ⟨r81, r82⟩, hR76a, f83, f84, f85⟩ | ⟨t86, I76b, A76b, B76b, C76b, e87, hR76b, f88, f89, f90⟩
          · rw [e80]
            replace hR76a : w_Rep w_TC fr X u l (w_up (w_up (w_up (w_up (w_up I24a 2436 ((I24a 2436) + 1)) 2441 (zt55)) 2437 (zk56)) 2438 (zv57)) 2117 (zs79)) A78 B24a C24a M75 := hR76a
            replace f83 : c_fa c_pa A24a A78 := f83
            replace f84 : c_ags A24a A78 := f84
            replace f85 : 0 ≤ zs79 ∧ -1 ≤ v77 ∧ v77 ≤ 1508 := f85
            obtain ⟨n91, n92, n93⟩ := id f85
            clear f85
            have k94 : c_Bd A78 (c_W A78 (c_r (I 2439) 0)) v25 (I 1670) (I24a 1670) := c_Bd_agl k49 (c_ags_l f84 (I24a 1670)) (show 0 ≤ (I 1670) by omega) (show (I24a 1670) ≤ (I24a 1670) by omega)
            clear k49
            have g95 : c_agl A A78 (I 1670) := c_agl_trans g48 (c_ags_l f84 (I24a 1670)) (show (I 1670) ≤ (I24a 1670) by omega)
            show w_W _ _ _ (52, [(1, .int (Int32.ofInt (v25))), (0, .ref 38)], [.int (Int32.ofInt (v77))], M75) _
            refine w_adv (n := 2) (F' := (54, [(2, .int (Int32.ofInt (v77))), (1, .int (Int32.ofInt (v25))), (0, .ref 38)], [.ref 38], M75)) rfl ?_
            refine w_call (cm := 80) (as := [(0, .ref 38)]) (rest := []) (o := some (4, 38)) rfl (w_fitR hR76a rfl) (c_advance hR76a (show 3 ≤ d by omega) (show l ≤ 100000 by first | assumption | omega) (show -1 ≤ (I24a 2436) + 1 ∧ (I24a 2436) + 1 < (I24a 773) ∧ (I24a 773) ≤ 1501 by first | assumption | omega)) (fun r96 M97 q98 => ?_)
            rcases q98 with ⟨zt99, zk100, zv101, e102, hR98a, f103⟩ | ⟨t104, I98b, A98b, B98b, C98b, e105, hR98b, f106, f107, f108⟩
            · rw [e102]
              replace hR98a : w_Rep w_TC fr X u l (w_up (w_up (w_up (w_up (w_up I24a 2117 (zs79)) 2436 ((I24a 2436) + 1 + 1)) 2441 (zt99)) 2437 (zk100)) 2438 (zv101)) A78 B24a C24a M97 := w_Rep.up hR98a (show (w_up (w_up (w_up (w_up (w_up I24a 2117 (zs79)) 2436 ((I24a 2436) + 1 + 1)) 2441 (zt99)) 2437 (zk100)) 2438 (zv101)) = _ from (funext fun s => if e0 : s = 2117 then (by subst e0; rfl) else if e1 : s = 2436 then (by subst e1; rfl) else if e2 : s = 2437 then (by subst e2; rfl) else if e3 : s = 2438 then (by subst e3; rfl) else if e4 : s = 2441 then (by subst e4; rfl) else (by simp only [w_up_ne e0, w_up_ne e1, w_up_ne e2, w_up_ne e3, w_up_ne e4]))) rfl
              replace f103 : ((I24a 2436) + 1 + 1 < (I24a 773) ∨ zk100 = 0) := f103
              show w_W _ _ _ (57, [(2, .int (Int32.ofInt (v77))), (1, .int (Int32.ofInt (v25))), (0, .ref 38)], [], M97) _
              refine w_adv (n := 2) (F' := (60, [(2, .int (Int32.ofInt (v77))), (1, .int (Int32.ofInt (v25))), (0, .ref 38)], [.int (Int32.ofInt (26)), .ref 38], M97)) rfl ?_
              refine w_call (cm := 105) (as := [(0, .ref 38), (1, .int (Int32.ofInt (26)))]) (rest := []) (o := some (4, 38)) rfl (w_fitR hR98a rfl) (c_need (26) hR98a (show 4 ≤ d by omega) ⟨by omega, by omega⟩ (show l ≤ 100000 by first | assumption | omega) (show -1 ≤ (I24a 2436) + 1 + 1 ∧ (zk100 = 0 ∨ (I24a 2436) + 1 + 1 < (I24a 773)) ∧ (I24a 773) ≤ 1501 ∧ 1 ≤ 26 by first | assumption | omega)) (fun r109 M110 q111 => ?_)
              rcases q111 with ⟨zt112, zk113, zv114, e115, hR111a, f116, f117⟩ | ⟨t118, I111b, A111b, B111b, C111b, e119, hR111b, f120, f121, f122⟩
              · rw [e115]
                replace hR111a : w_Rep w_TC fr X u l (w_up (w_up (w_up (w_up (w_up I24a 2117 (zs79)) 2436 ((I24a 2436) + 1 + 1 + 1)) 2441 (zt112)) 2437 (zk113)) 2438 (zv114)) A78 B24a C24a M110 := w_Rep.up hR111a (show (w_up (w_up (w_up (w_up (w_up I24a 2117 (zs79)) 2436 ((I24a 2436) + 1 + 1 + 1)) 2441 (zt112)) 2437 (zk113)) 2438 (zv114)) = _ from (funext fun s => if e0 : s = 2117 then (by subst e0; rfl) else if e1 : s = 2436 then (by subst e1; rfl) else if e2 : s = 2437 then (by subst e2; rfl) else if e3 : s = 2438 then (by subst e3; rfl) else if e4 : s = 2441 then (by subst e4; rfl) else (by simp only [w_up_ne e0, w_up_ne e1, w_up_ne e2, w_up_ne e3, w_up_ne e4]))) rfl
                replace f116 : ((I24a 2436) + 1 + 1 + 1 < (I24a 773) ∨ zk113 = 0) := f116
                replace f117 : zk100 = 26 := f117
                show w_W _ _ _ (63, [(2, .int (Int32.ofInt (v77))), (1, .int (Int32.ofInt (v25))), (0, .ref 38)], [], M110) _
                refine w_adv (n := 2) (F' := (65, [(2, .int (Int32.ofInt (v77))), (1, .int (Int32.ofInt (v25))), (0, .ref 38)], [.int (Int32.ofInt (0)), .ref 38], M110)) rfl ?_
                refine w_call (cm := 88) (as := [(0, .ref 38), (1, .int (Int32.ofInt (0)))]) (rest := []) (o := some (4, 38)) rfl (w_fitR hR111a rfl) ((hA d (Nat.lt_succ_self d)).2 (0) hR111a (show 10 * (24 - (I24a 2439)) + 15 ≤ (d : Int) by omega) ⟨by omega, by omega⟩ (show l ≤ 100000 by first | assumption | omega) (show (0 ≤ (I24a 2436) + 1 + 1 + 1 ∧ (I24a 2436) + 1 + 1 + 1 ≤ (I24a 773) ∧ (I24a 773) ≤ 1501 ∧ (zk113 = 0 ∨ (I24a 2436) + 1 + 1 + 1 < (I24a 773))) ∧ (0 ≤ (I24a 2439) ∧ (I24a 2439) ≤ 24 ∧ 0 ≤ zs79) ∧ 0 ≤ (I24a 1670) ∧ (I24a 1670) ≤ 2 * ((I24a 2436) + 1 + 1 + 1) + 1 by (repeat' apply And.intro) <;> first | assumption | omega)) (fun r123 M124 q125 => ?_)
                rcases q125 with ⟨v126, I125a, A125a, B125a, C125a, e127, ⟨r128, r129⟩, hR125a, f130, f131, f132, f133, f134⟩ | ⟨t135, I125b, A125b, B125b, C125b, e136, hR125b, f137, f138, f139⟩
                · rw [e127]
                  replace hR125a : w_Rep w_TC fr X u l I125a A125a B125a C125a M124 := hR125a
                  replace f130 : c_fi c_ps (w_up (w_up (w_up (w_up (w_up I24a 2117 (zs79)) 2436 ((I24a 2436) + 1 + 1 + 1)) 2441 (zt112)) 2437 (zk113)) 2438 (zv114)) I125a := f130
                  replace f131 : c_fa c_pa A78 A125a := f131
                  replace f132 : (0 ≤ (I125a 2436) ∧ (I125a 2436) ≤ (I125a 773) ∧ ((I125a 2437) = 0 ∨ (I125a 2436) < (I125a 773))) ∧ ((I125a 773) = (I24a 773) ∧ (I125a 2439) = (I24a 2439) ∧ 0 ≤ (I125a 2117)) ∧ ((I24a 2436) + 1 + 1 + 1) + 1 ≤ (I125a 2436) ∧ (I125a 1670) + 0 ≤ (I24a 1670) + 2 * ((I125a 2436) - ((I24a 2436) + 1 + 1 + 1)) ∧ (I24a 1670) ≤ (I125a 1670) := f132
                  obtain ⟨⟨n140, n141, n142⟩, ⟨n143, n144, n145⟩, n146, n147, n148⟩ := id f132
                  clear f132
                  replace f133 : c_agl A78 A125a (I24a 1670) := f133
                  replace f134 : c_Bd A125a (c_W A125a (c_r (I24a 2439) 4)) v126 (I24a 1670) (I125a 1670) := f134
                  have k149 : c_Bd A125a (c_W A125a (c_r (I 2439) 0)) v25 (I 1670) (I24a 1670) := c_Bd_agl k94 f133 (show 0 ≤ (I 1670) by omega) (show (I24a 1670) ≤ (I24a 1670) by omega)
                  clear k94
                  have g150 : c_agl A A125a (I 1670) := c_agl_trans g95 f133 (show (I 1670) ≤ (I24a 1670) by omega)
                  have k151 : c_Bd A125a (c_W A125a (c_r (I 2439) 0)) v126 (I24a 1670) (I125a 1670) := c_Bd_up f134 (show c_r (I24a 2439) 4 ≤ c_r (I 2439) 0 by unfold c_r; omega)
                  obtain ⟨b152, b153, -⟩ := id k151
                  show w_W _ _ _ (68, [(2, .int (Int32.ofInt (v77))), (1, .int (Int32.ofInt (v25))), (0, .ref 38)], [.int (Int32.ofInt (v126))], M124) _
                  refine w_adv (n := 2) (F' := (70, [(3, .int (Int32.ofInt (v126))), (2, .int (Int32.ofInt (v77))), (1, .int (Int32.ofInt (v25))), (0, .ref 38)], [.ref 38], M124)) rfl ?_
                  refine w_gf (v := .ref 33) hR125a rfl rfl rfl rfl ?_
                  refine w_adv (n := 3) (F' := (76, [(3, .int (Int32.ofInt (v126))), (2, .int (Int32.ofInt (v77))), (1, .int (Int32.ofInt (v25))), (0, .ref 38)], [.int (Int32.ofInt (1)), .int (Int32.ofInt (v77)), .int (Int32.ofInt (v77)), .ref 33], M124)) rfl ?_
                  refine w_add rfl ?_
                  refine w_call (cm := 121) (as := [(0, .ref 33), (1, .int (Int32.ofInt (v77))), (2, .int (Int32.ofInt (v77 + 1)))]) (rest := []) (o := some (5, 33)) rfl (w_fitR hR125a rfl) (c_lv (v77) (v77 + 1) hR125a (show 1 ≤ d by omega) ⟨by omega, by omega⟩ ⟨by omega, by omega⟩ (show -5 ≤ v77 ∧ -5 ≤ v77 + 1 by first | assumption | omega)) (fun r154 M155 q156 => ?_)
                  rcases q156 with ⟨A157, e158, hR156a, f159, f160⟩
                  rw [e158]
                  replace hR156a : w_Rep w_TC fr X u l I125a A157 B125a C125a M155 := hR156a
                  replace f159 : c_fa c_pa A125a A157 := f159
                  replace f160 : c_ags A125a A157 := f160
                  have k161 : c_Bd A157 (c_W A157 (c_r (I 2439) 0)) v25 (I 1670) (I24a 1670) := c_Bd_agl k149 (c_ags_l f160 (I125a 1670)) (show 0 ≤ (I 1670) by omega) (show (I24a 1670) ≤ (I125a 1670) by omega)
                  clear k149
                  have k162 : c_Bd A157 (c_W A157 (c_r (I 2439) 0)) v126 (I24a 1670) (I125a 1670) := c_Bd_agl k151 (c_ags_l f160 (I125a 1670)) (show 0 ≤ (I24a 1670) by omega) (show (I125a 1670) ≤ (I125a 1670) by omega)
                  clear k151
                  have g163 : c_agl A A157 (I 1670) := c_agl_trans g150 (c_ags_l f160 (I125a 1670)) (show (I 1670) ≤ (I125a 1670) by omega)
                  show w_W _ _ _ (80, [(3, .int (Int32.ofInt (v126))), (2, .int (Int32.ofInt (v77))), (1, .int (Int32.ofInt (v25))), (0, .ref 38)], [], M155) _
                  refine w_adv (n := 2) (F' := (83, [(3, .int (Int32.ofInt (v126))), (2, .int (Int32.ofInt (v77))), (1, .int (Int32.ofInt (v25))), (0, .ref 38)], [.int (Int32.ofInt (24)), .ref 38], M155)) rfl ?_
                  refine w_call (cm := 113) (as := [(0, .ref 38), (1, .int (Int32.ofInt (24)))]) (rest := []) (o := some (4, 38)) rfl (w_fitR hR156a rfl) (c_close (24) hR156a (show 4 ≤ d by omega) ⟨by omega, by omega⟩ (show l ≤ 100000 by first | assumption | omega) (show -1 ≤ (I125a 2436) ∧ ((I125a 2437) = 0 ∨ (I125a 2436) < (I125a 773)) ∧ (I125a 773) ≤ 1501 ∧ 1 ≤ 24 by first | assumption | omega) (show 0 ≤ (I125a 2439) ∧ (I125a 2439) ≤ 24 by first | assumption | omega)) (fun r164 M165 q166 => ?_)
                  rcases q166 with ⟨zt167, zk168, zv169, e170, hR166a, f171, f172⟩ | ⟨t173, I166b, A166b, B166b, C166b, e174, hR166b, f175, f176, f177⟩
                  · rw [e170]
                    replace hR166a : w_Rep w_TC fr X u l (w_up (w_up (w_up (w_up (w_up I125a 2436 ((I125a 2436) + 1)) 2441 (zt167)) 2437 (zk168)) 2438 (zv169)) 2439 ((I125a 2439) - 1)) A157 B125a C125a M165 := hR166a
                    replace f171 : ((I125a 2436) + 1 < (I125a 773) ∨ zk168 = 0) := f171
                    replace f172 : (I125a 2437) = 24 := f172
                    show w_W _ _ _ (86, [(3, .int (Int32.ofInt (v126))), (2, .int (Int32.ofInt (v77))), (1, .int (Int32.ofInt (v25))), (0, .ref 38)], [], M165) _
                    refine w_adv (n := 1) (F' := (87, [(3, .int (Int32.ofInt (v126))), (2, .int (Int32.ofInt (v77))), (1, .int (Int32.ofInt (v25))), (0, .ref 38)], [.ref 38], M165)) rfl ?_
                    refine w_gf (v := .ref 26) hR166a rfl rfl rfl rfl ?_
                    refine w_adv (n := 4) (F' := (95, [(3, .int (Int32.ofInt (v126))), (2, .int (Int32.ofInt (v77))), (1, .int (Int32.ofInt (v25))), (0, .ref 38)], [.int (Int32.ofInt (v77)), .int (Int32.ofInt (v126)), .int (Int32.ofInt (v25)), .int (Int32.ofInt (20)), .ref 26], M165)) rfl ?_
                    refine w_call (cm := 94) (as := [(0, .ref 26), (1, .int (Int32.ofInt (20))), (2, .int (Int32.ofInt (v25))), (3, .int (Int32.ofInt (v126))), (4, .int (Int32.ofInt (v77)))]) (rest := []) (o := some (8, 26)) rfl (w_fitR hR166a rfl) (c_mkn (20) (v25) (v126) (v77) hR166a (show 2 ≤ d by omega) ⟨by omega, by omega⟩ ⟨by omega, by omega⟩ ⟨by omega, by omega⟩ ⟨by omega, by omega⟩ (show 0 ≤ (I125a 1670) ∧ (I125a 1670) < 3016 by first | assumption | omega)) (fun r178 M179 q180 => ?_)
                    rcases q180 with ⟨A181, e182, hR180a, f183, f184⟩
                    rw [e182]
                    replace hR180a : w_Rep w_TC fr X u l (w_up (w_up (w_up (w_up (w_up (w_up I125a 2436 ((I125a 2436) + 1)) 2441 (zt167)) 2437 (zk168)) 2438 (zv169)) 2439 ((I125a 2439) - 1)) 1670 ((I125a 1670) + 1)) A181 B125a C125a M179 := hR180a
                    replace f183 : c_fa c_pa A157 A181 := f183
                    replace f184 : c_mk A157 A181 (I125a 1670) 20 v25 v126 v77 := f184
                    have k185 : c_Wn A181 (c_r (I 2439) 1) (I125a 1670) (I 1670) ((I125a 1670) + 1) := c_Wn_up ⟨c_W_20 f184 (show 0 ≤ (I 1670) by omega) k161 (c_BdW_win k162 (show (I24a 1670) ≤ (I24a 1670) by omega) (show (I125a 1670) ≤ (I125a 1670) by omega)), f184.2.2.2.2.2⟩ (show (c_r (I 2439) 0) + 1 ≤ (c_r (I 2439) 1) by unfold c_r; omega)
                    have k186 : c_Bd A181 (c_W A181 (c_r (I 2439) 0)) v25 (I 1670) (I24a 1670) := c_Bd_agl k161 f184.1 (show 0 ≤ (I 1670) by omega) (show (I24a 1670) ≤ (I125a 1670) by omega)
                    clear k161
                    have k187 : c_Bd A181 (c_W A181 (c_r (I 2439) 0)) v126 (I24a 1670) (I125a 1670) := c_Bd_agl k162 f184.1 (show 0 ≤ (I24a 1670) by omega) (show (I125a 1670) ≤ (I125a 1670) by omega)
                    clear k162
                    have g188 : c_agl A A181 (I 1670) := c_agl_trans g163 f184.1 (show (I 1670) ≤ (I125a 1670) by omega)
                    show w_W _ _ _ (98, [(3, .int (Int32.ofInt (v126))), (2, .int (Int32.ofInt (v77))), (1, .int (Int32.ofInt (v25))), (0, .ref 38)], [.int (Int32.ofInt ((I125a 1670)))], M179) _
                    refine w_fin (r := .inl (some ((I125a 1670)))) (M' := M179) rfl ?_
                    exact Or.inl ⟨(I125a 1670), (w_up (w_up (w_up (w_up (w_up (w_up I125a 2436 ((I125a 2436) + 1)) 2441 (zt167)) 2437 (zk168)) 2438 (zv169)) 2439 ((I125a 2439) - 1)) 1670 ((I125a 1670) + 1)), A181, B125a, C125a, rfl, ⟨by omega, by omega⟩, hR180a, (show c_fi c_ps I (w_up (w_up (w_up (w_up (w_up (w_up I125a 2436 ((I125a 2436) + 1)) 2441 (zt167)) 2437 (zk168)) 2438 (zv169)) 2439 ((I125a 2439) - 1)) 1670 ((I125a 1670) + 1)) by exact (c_fi_up (c_fi_up (c_fi_up (c_fi_up (c_fi_up (c_fi_up (c_fi_trans (c_fi_up (c_fi_up (c_fi_up (c_fi_up (c_fi_up (c_fi_trans (c_fi_up (c_fi_up (c_fi_up (c_fi_up (c_fi_up (c_fi_up c_fi_refl rfl) rfl) rfl) rfl) rfl) rfl) f29) rfl) rfl) rfl) rfl) rfl) f130) rfl) rfl) rfl) rfl) rfl) rfl)), (show c_fa c_pa A A181 by exact (c_fa_trans (c_fa_trans (c_fa_trans (c_fa_trans f30 f83) f131) f159) f183)), (show (0 ≤ (I125a 2436) + 1 ∧ (I125a 2436) + 1 ≤ (I125a 773) ∧ (zk168 = 0 ∨ (I125a 2436) + 1 < (I125a 773))) ∧ ((I125a 773) = (I 773) ∧ (I125a 2439) - 1 = (I 2439) ∧ 0 ≤ (I125a 2117)) ∧ (I 2436) + 1 ≤ (I125a 2436) + 1 ∧ ((I125a 1670) + 1) + 1 ≤ (I 1670) + 2 * (((I125a 2436) + 1) - (I 2436)) ∧ (I 1670) ≤ (I125a 1670) + 1 by (repeat' apply And.intro) <;> first | assumption | omega), (show c_agl A A181 (I 1670) by exact g188), (show c_Wn A181 (c_r (I 2439) 1) (I125a 1670) (I 1670) ((I125a 1670) + 1) by exact c_Wn_win (c_Wn_up k185 (show c_r (I 2439) 1 ≤ c_r (I 2439) 1 by unfold c_r; omega)) (show (I 1670) ≤ (I 1670) by omega) (show ((I125a 1670) + 1) ≤ ((I125a 1670) + 1) by omega))⟩
                  · rw [e174]
                    replace hR166b : w_Rep w_TC fr X (u + 6) (l + 64) I166b A166b B166b C166b M165 := hR166b
                    replace f175 : c_fi c_ps I125a I166b := f175
                    replace f176 : c_fa c_pa A157 A166b := f176
                    replace f177 : M165.1[t173]? = some (.inr (11, [])) := f177
                    exact Or.inr (⟨t173, I166b, A166b, B166b, C166b, rfl, hR166b, (show c_fi c_ps I I166b by exact (c_fi_trans (c_fi_trans (c_fi_up (c_fi_up (c_fi_up (c_fi_up (c_fi_up (c_fi_trans (c_fi_up (c_fi_up (c_fi_up (c_fi_up (c_fi_up (c_fi_up c_fi_refl rfl) rfl) rfl) rfl) rfl) rfl) f29) rfl) rfl) rfl) rfl) rfl) f130) f175)), (show c_fa c_pa A A166b by exact (c_fa_trans (c_fa_trans (c_fa_trans (c_fa_trans f30 f83) f131) f159) f176)), (show M165.1[t173]? = some (.inr (11, [])) by exact f177)⟩)
                · rw [e136]
                  replace hR125b : w_Rep w_TC fr X (u + 6) (l + 64) I125b A125b B125b C125b M124 := hR125b
                  replace f137 : c_fi c_ps (w_up (w_up (w_up (w_up (w_up I24a 2117 (zs79)) 2436 ((I24a 2436) + 1 + 1 + 1)) 2441 (zt112)) 2437 (zk113)) 2438 (zv114)) I125b := f137
                  replace f138 : c_fa c_pa A78 A125b := f138
                  replace f139 : M124.1[t135]? = some (.inr (11, [])) := f139
                  exact Or.inr (⟨t135, I125b, A125b, B125b, C125b, rfl, hR125b, (show c_fi c_ps I I125b by exact (c_fi_trans (c_fi_up (c_fi_up (c_fi_up (c_fi_up (c_fi_up (c_fi_trans (c_fi_up (c_fi_up (c_fi_up (c_fi_up (c_fi_up (c_fi_up c_fi_refl rfl) rfl) rfl) rfl) rfl) rfl) f29) rfl) rfl) rfl) rfl) rfl) f137)), (show c_fa c_pa A A125b by exact (c_fa_trans (c_fa_trans f30 f83) f138)), (show M124.1[t135]? = some (.inr (11, [])) by exact f139)⟩)
              · rw [e119]
                replace hR111b : w_Rep w_TC fr X (u + 6) (l + 64) I111b A111b B111b C111b M110 := hR111b
                replace f120 : c_fi c_ps (w_up (w_up (w_up (w_up (w_up I24a 2117 (zs79)) 2436 ((I24a 2436) + 1 + 1)) 2441 (zt99)) 2437 (zk100)) 2438 (zv101)) I111b := f120
                replace f121 : c_fa c_pa A78 A111b := f121
                replace f122 : M110.1[t118]? = some (.inr (11, [])) := f122
                exact Or.inr (⟨t118, I111b, A111b, B111b, C111b, rfl, hR111b, (show c_fi c_ps I I111b by exact (c_fi_trans (c_fi_up (c_fi_up (c_fi_up (c_fi_up (c_fi_up (c_fi_trans (c_fi_up (c_fi_up (c_fi_up (c_fi_up (c_fi_up (c_fi_up c_fi_refl rfl) rfl) rfl) rfl) rfl) rfl) f29) rfl) rfl) rfl) rfl) rfl) f120)), (show c_fa c_pa A A111b by exact (c_fa_trans (c_fa_trans f30 f83) f121)), (show M110.1[t118]? = some (.inr (11, [])) by exact f122)⟩)
            · rw [e105]
              replace hR98b : w_Rep w_TC fr X (u + 6) (l + 64) I98b A98b B98b C98b M97 := hR98b
              replace f106 : c_fi c_ps (w_up (w_up (w_up (w_up (w_up I24a 2436 ((I24a 2436) + 1)) 2441 (zt55)) 2437 (zk56)) 2438 (zv57)) 2117 (zs79)) I98b := f106
              replace f107 : c_fa c_pa A78 A98b := f107
              replace f108 : M97.1[t104]? = some (.inr (11, [])) := f108
              exact Or.inr (⟨t104, I98b, A98b, B98b, C98b, rfl, hR98b, (show c_fi c_ps I I98b by exact (c_fi_trans (c_fi_up (c_fi_up (c_fi_up (c_fi_up (c_fi_up (c_fi_trans (c_fi_up (c_fi_up (c_fi_up (c_fi_up (c_fi_up (c_fi_up c_fi_refl rfl) rfl) rfl) rfl) rfl) rfl) f29) rfl) rfl) rfl) rfl) rfl) f106)), (show c_fa c_pa A A98b by exact (c_fa_trans (c_fa_trans f30 f83) f107)), (show M97.1[t104]? = some (.inr (11, [])) by exact f108)⟩)
          · rw [e87]
            replace hR76b : w_Rep w_TC fr X (u + 6) (l + 64) I76b A76b B76b C76b M75 := hR76b
            replace f88 : c_fi c_ps (w_up (w_up (w_up (w_up I24a 2436 ((I24a 2436) + 1)) 2441 (zt55)) 2437 (zk56)) 2438 (zv57)) I76b := f88
            replace f89 : c_fa c_pa A24a A76b := f89
            replace f90 : M75.1[t86]? = some (.inr (11, [])) := f90
            exact Or.inr (⟨t86, I76b, A76b, B76b, C76b, rfl, hR76b, (show c_fi c_ps I I76b by exact (c_fi_trans (c_fi_up (c_fi_up (c_fi_up (c_fi_up (c_fi_trans (c_fi_up (c_fi_up (c_fi_up (c_fi_up (c_fi_up (c_fi_up c_fi_refl rfl) rfl) rfl) rfl) rfl) rfl) f29) rfl) rfl) rfl) rfl) f88)), (show c_fa c_pa A A76b by exact (c_fa_trans f30 f89)), (show M75.1[t86]? = some (.inr (11, [])) by exact f90)⟩)
        · have h68 : ¬ (zk56 = 2) := h68
          show w_W _ _ _ (34, [(1, .int (Int32.ofInt (v25))), (0, .ref 38)], [], M53) _
          refine w_adv (n := 2) (F' := (36, [(1, .int (Int32.ofInt (v25))), (0, .ref 38)], [.int (Int32.ofInt (1)), .ref 38], M53)) rfl ?_
          refine w_call (cm := 100) (as := [(0, .ref 38), (1, .int (Int32.ofInt (1)))]) (rest := []) (o := some (4, 38)) rfl (w_fitR hR54a rfl) (c_fail (1) hR54a ⟨by omega, by omega⟩ (show l ≤ 100000 by first | assumption | omega) (show 1 ≤ 1 ∧ 1 ≤ 7 by first | assumption | omega)) (fun r189 M190 q191 => ?_)
          rcases q191 with ⟨t192, I191a, A191a, B191a, C191a, e193, hR191a, f194, f195, f196⟩
          rw [e193]
          replace hR191a : w_Rep w_TC fr X (u + 6) (l + 64) I191a A191a B191a C191a M190 := hR191a
          replace f194 : c_fi c_ps (w_up (w_up (w_up (w_up I24a 2436 ((I24a 2436) + 1)) 2441 (zt55)) 2437 (zk56)) 2438 (zv57)) I191a := f194
          replace f195 : c_fa c_pa A24a A191a := f195
          replace f196 : M190.1[t192]? = some (.inr (11, [])) := f196
          exact Or.inr (⟨t192, I191a, A191a, B191a, C191a, rfl, hR191a, (show c_fi c_ps I I191a by exact (c_fi_trans (c_fi_up (c_fi_up (c_fi_up (c_fi_up (c_fi_trans (c_fi_up (c_fi_up (c_fi_up (c_fi_up (c_fi_up (c_fi_up c_fi_refl rfl) rfl) rfl) rfl) rfl) rfl) f29) rfl) rfl) rfl) rfl) f194)), (show c_fa c_pa A A191a by exact (c_fa_trans f30 f195)), (show M190.1[t192]? = some (.inr (11, [])) by exact f196)⟩)
      · rw [e62]
        replace hR54b : w_Rep w_TC fr X (u + 6) (l + 64) I54b A54b B54b C54b M53 := hR54b
        replace f63 : c_fi c_ps I24a I54b := f63
        replace f64 : c_fa c_pa A24a A54b := f64
        replace f65 : M53.1[t61]? = some (.inr (11, [])) := f65
        exact Or.inr (⟨t61, I54b, A54b, B54b, C54b, rfl, hR54b, (show c_fi c_ps I I54b by exact (c_fi_trans (c_fi_trans (c_fi_up (c_fi_up (c_fi_up (c_fi_up (c_fi_up (c_fi_up c_fi_refl rfl) rfl) rfl) rfl) rfl) rfl) f29) f63)), (show c_fa c_pa A A54b by exact (c_fa_trans f30 f64)), (show M53.1[t61]? = some (.inr (11, [])) by exact f65)⟩)
    · rw [e35]
      replace hR24b : w_Rep w_TC fr X (u + 6) (l + 64) I24b A24b B24b C24b M23 := hR24b
      replace f36 : c_fi c_ps (w_up (w_up (w_up (w_up (w_up (w_up I 2440 (x3)) 2436 ((I 2436) + 1)) 2441 (zt11)) 2437 (zk12)) 2438 (zv13)) 2439 ((I 2439) + 1)) I24b := f36
      replace f37 : c_fa c_pa A A24b := f37
      replace f38 : M23.1[t34]? = some (.inr (11, [])) := f38
      exact Or.inr (⟨t34, I24b, A24b, B24b, C24b, rfl, hR24b, (show c_fi c_ps I I24b by exact (c_fi_trans (c_fi_up (c_fi_up (c_fi_up (c_fi_up (c_fi_up (c_fi_up c_fi_refl rfl) rfl) rfl) rfl) rfl) rfl) f36)), (show c_fa c_pa A A24b by exact f37), (show M23.1[t34]? = some (.inr (11, [])) by exact f38)⟩)
  · rw [e18]
    replace hR10b : w_Rep w_TC fr X (u + 6) (l + 64) I10b A10b B10b C10b M9 := hR10b
    replace f19 : c_fi c_ps (w_up I 2440 (x3)) I10b := f19
    replace f20 : c_fa c_pa A A10b := f20
    replace f21 : M9.1[t17]? = some (.inr (11, [])) := f21
    exact Or.inr (⟨t17, I10b, A10b, B10b, C10b, rfl, hR10b, (show c_fi c_ps I I10b by exact (c_fi_trans (c_fi_up c_fi_refl rfl) f19)), (show c_fa c_pa A A10b by exact f20), (show M9.1[t17]? = some (.inr (11, [])) by exact f21)⟩)
