/-! PARSER of the class: procedures. -/
def c_procedure_Q (fr : Nat → Bool) (X : Nat → Option (q_C (Nat → Int32))) (u l : Nat) (I : Nat → Int) (A : Nat → Int → Int) (B C : Nat → Nat) (M : w_M) (b : Int) : w_X → w_M → Prop := fun r M' => (∃ v : Int, ∃ (I' : Nat → Int) (A' : Nat → Int → Int) (B' C' : Nat → Nat), (r = .inl (some v)) ∧ (w_in v) ∧ (w_Rep w_TC fr X u l I' A' B' C' M') ∧ (c_fi c_ps I I') ∧ (c_fa c_pa A A') ∧ ((0 ≤ (I' 2436) ∧ (I' 2436) ≤ (I' 773) ∧ ((I' 2437) = 0 ∨ (I' 2436) < (I' 773))) ∧ ((I' 773) = (I 773) ∧ (I' 2439) = (I 2439) ∧ 0 ≤ (I' 2117)) ∧ (I 2436) + 1 ≤ (I' 2436) ∧ (I' 1670) + 1 ≤ (I 1670) + 2 * ((I' 2436) - (I 2436)) ∧ (I 1670) ≤ (I' 1670)) ∧ (c_agl A A' (I 1670)) ∧ (c_Wn A' (c_r (I 2439) 1) v (I 1670) (I' 1670))) ∨ (∃ t : Nat, ∃ (I' : Nat → Int) (A' : Nat → Int → Int) (B' C' : Nat → Nat), (r = .inr t) ∧ (w_Rep w_TC fr X (u + 6) (l + 64) I' A' B' C' M') ∧ (c_fi c_ps I I') ∧ (c_fa c_pa A A') ∧ (M'.1[t]? = some (.inr (11, []))))
set_option maxHeartbeats 100000000 in
set_option maxRecDepth 100000 in
theorem c_procedure {L : Nat} {xs : Nat → Int32} {d : Nat} {fr : Nat → Bool} {X : Nat → Option (q_C (Nat → Int32))} {u l : Nat} {I : Nat → Int} {A : Nat → Int → Int} {B C : Nat → Nat} {M : w_M} (hA : c_ALL L xs d) (b : Int) (hR : w_Rep w_TC fr X u l I A B C M) (hd : 10 * (24 - (I 2439)) + 9 ≤ (d : Int)) (r_b : w_in b) (hl : l ≤ 7000000) (hNU : (0 ≤ (I 2436) ∧ (I 2436) ≤ (I 773) ∧ (I 773) ≤ 1501 ∧ ((I 2437) = 0 ∨ (I 2436) < (I 773))) ∧ (0 ≤ (I 2439) ∧ (I 2439) ≤ 24 ∧ 0 ≤ (I 2117)) ∧ 0 ≤ (I 1670) ∧ (I 1670) ≤ 2 * (I 2436) + 1) (hk0 : ¬ (I 2437) = 0) : w_W (z_P L xs) d 117 (0, [(0, .ref 38), (1, .int (Int32.ofInt (b)))], [], M) (c_procedure_Q fr X u l I A B C M b) := by
  obtain ⟨ra_b, rb_b⟩ := r_b
  obtain ⟨d, rfl⟩ : ∃ d0, d = d0 + 1 := ⟨d - 1, by omega⟩
  refine w_adv (n := 1) (F' := (1, [(0, .ref 38), (1, .int (Int32.ofInt (b)))], [.ref 38], M)) rfl ?_
  refine w_call (cm := 99) (as := [(0, .ref 38)]) (rest := []) (o := some (4, 38)) rfl (w_fitR hR rfl) (c_open hR (show 4 ≤ d by omega) (show l ≤ 7000000 by first | assumption | omega) (show -1 ≤ (I 2436) ∧ (I 2436) < (I 773) ∧ (I 773) ≤ 1501 by first | assumption | omega) (show 0 ≤ (I 2439) ∧ (I 2439) ≤ 24 by first | assumption | omega)) (fun r1 M2 q3 => ?_)
  rcases q3 with ⟨zt4, zk5, zv6, e7, hR3a, f8, f9⟩ | ⟨t10, I3b, A3b, B3b, C3b, e11, hR3b, f12, f13, f14⟩
  · rw [e7]
    replace hR3a : w_Rep w_TC fr X u l (w_up (w_up (w_up (w_up (w_up I 2436 ((I 2436) + 1)) 2441 (zt4)) 2437 (zk5)) 2438 (zv6)) 2439 ((I 2439) + 1)) A B C M2 := hR3a
    replace f8 : ((I 2436) + 1 < (I 773) ∨ zk5 = 0) := f8
    replace f9 : (I 2439) < 24 := f9
    show w_W _ _ _ (4, [(0, .ref 38), (1, .int (Int32.ofInt (b)))], [], M2) _
    refine w_adv (n := 1) (F' := (5, [(0, .ref 38), (1, .int (Int32.ofInt (b)))], [.ref 38], M2)) rfl ?_
    refine w_gf (v := .int (Int32.ofInt (zk5))) hR3a rfl rfl rfl rfl ?_
    obtain ⟨r15, r16⟩ : -2147483648 ≤ zk5 ∧ zk5 ≤ 2147483647 := hR3a.ri 2437
    refine w_adv (n := 1) (F' := (10, [(0, .ref 38), (1, .int (Int32.ofInt (b)))], [.int (Int32.ofInt (7)), .int (Int32.ofInt (zk5))], M2)) rfl ?_
    refine w_br2 (a := zk5) (b := 7) rfl rfl ⟨by omega, by omega⟩ ⟨by omega, by omega⟩ (fun h17 => ?_) (fun h17 => ?_)
    · have h17 : zk5 = 7 := h17
      show w_W _ _ _ (19, [(0, .ref 38), (1, .int (Int32.ofInt (b)))], [], M2) _
      refine w_adv (n := 1) (F' := (20, [(0, .ref 38), (1, .int (Int32.ofInt (b)))], [.ref 38], M2)) rfl ?_
      refine w_call (cm := 99) (as := [(0, .ref 38)]) (rest := []) (o := some (4, 38)) rfl (w_fitR hR3a rfl) (c_open hR3a (show 4 ≤ d by omega) (show l ≤ 7000000 by first | assumption | omega) (show -1 ≤ (I 2436) + 1 ∧ (I 2436) + 1 < (I 773) ∧ (I 773) ≤ 1501 by first | assumption | omega) (show 0 ≤ (I 2439) + 1 ∧ (I 2439) + 1 ≤ 24 by first | assumption | omega)) (fun r18 M19 q20 => ?_)
      rcases q20 with ⟨zt21, zk22, zv23, e24, hR20a, f25, f26⟩ | ⟨t27, I20b, A20b, B20b, C20b, e28, hR20b, f29, f30, f31⟩
      · rw [e24]
        replace hR20a : w_Rep w_TC fr X u l (w_up (w_up (w_up (w_up (w_up I 2436 ((I 2436) + 1 + 1)) 2441 (zt21)) 2437 (zk22)) 2438 (zv23)) 2439 ((I 2439) + 1 + 1)) A B C M19 := w_Rep.up hR20a (show (w_up (w_up (w_up (w_up (w_up I 2436 ((I 2436) + 1 + 1)) 2441 (zt21)) 2437 (zk22)) 2438 (zv23)) 2439 ((I 2439) + 1 + 1)) = _ from (funext fun s => if e0 : s = 2436 then (by subst e0; rfl) else if e1 : s = 2437 then (by subst e1; rfl) else if e2 : s = 2438 then (by subst e2; rfl) else if e3 : s = 2439 then (by subst e3; rfl) else if e4 : s = 2441 then (by subst e4; rfl) else (by simp only [w_up_ne e0, w_up_ne e1, w_up_ne e2, w_up_ne e3, w_up_ne e4]))) rfl
        replace f25 : ((I 2436) + 1 + 1 < (I 773) ∨ zk22 = 0) := f25
        replace f26 : (I 2439) + 1 < 24 := f26
        show w_W _ _ _ (23, [(0, .ref 38), (1, .int (Int32.ofInt (b)))], [], M19) _
        refine w_adv (n := 1) (F' := (24, [(0, .ref 38), (1, .int (Int32.ofInt (b)))], [.ref 38], M19)) rfl ?_
        refine w_gf (v := .ref 33) hR20a rfl rfl rfl rfl ?_
        refine w_call (cm := 118) (as := [(0, .ref 33)]) (rest := []) (o := some (5, 33)) rfl (w_fitR hR20a rfl) (c_snext hR20a) (fun r32 M33 q34 => ?_)
        rcases q34 with ⟨e35, e36⟩
        rw [e35, e36]
        obtain ⟨r37, r38⟩ : -2147483648 ≤ (I 2117) ∧ (I 2117) ≤ 2147483647 := hR20a.ri 2117
        show w_W _ _ _ (30, [(0, .ref 38), (1, .int (Int32.ofInt (b)))], [.int (Int32.ofInt ((I 2117)))], M19) _
        refine w_adv (n := 2) (F' := (32, [(2, .int (Int32.ofInt ((I 2117)))), (0, .ref 38), (1, .int (Int32.ofInt (b)))], [.ref 38], M19)) rfl ?_
        refine w_call (cm := 119) (as := [(0, .ref 38)]) (rest := []) (o := some (4, 38)) rfl (w_fitR hR20a rfl) (c_variables hR20a (show 5 ≤ d by omega) (show l ≤ 7000000 by first | assumption | omega) (show (0 ≤ (I 2436) + 1 + 1 ∧ (I 2436) + 1 + 1 ≤ (I 773) ∧ (I 773) ≤ 1501 ∧ (zk22 = 0 ∨ (I 2436) + 1 + 1 < (I 773))) ∧ (0 ≤ (I 2439) + 1 + 1 ∧ (I 2439) + 1 + 1 ≤ 24 ∧ 0 ≤ (I 2117)) ∧ 0 ≤ (I 1670) ∧ (I 1670) ≤ 2 * ((I 2436) + 1 + 1) + 1 by (repeat' apply And.intro) <;> first | assumption | omega)) (fun r39 M40 q41 => ?_)
        rcases q41 with ⟨v42, I41a, A41a, B41a, C41a, e43, ⟨r44, r45⟩, hR41a, f46, f47, f48, f49, f50⟩ | ⟨t51, I41b, A41b, B41b, C41b, e52, hR41b, f53, f54, f55⟩
        · rw [e43]
          replace hR41a : w_Rep w_TC fr X u l I41a A41a B41a C41a M40 := hR41a
          replace f46 : c_fi c_ps (w_up (w_up (w_up (w_up (w_up I 2436 ((I 2436) + 1 + 1)) 2441 (zt21)) 2437 (zk22)) 2438 (zv23)) 2439 ((I 2439) + 1 + 1)) I41a := f46
          replace f47 : c_fa c_pa A A41a := f47
          replace f48 : (0 ≤ (I41a 2436) ∧ (I41a 2436) ≤ (I41a 773) ∧ ((I41a 2437) = 0 ∨ (I41a 2436) < (I41a 773))) ∧ ((I41a 773) = (I 773) ∧ (I41a 2439) = (I 2439) + 1 + 1 ∧ 0 ≤ (I41a 2117)) ∧ ((I 2436) + 1 + 1) + 0 ≤ (I41a 2436) ∧ (I41a 1670) + 0 ≤ (I 1670) + 2 * ((I41a 2436) - ((I 2436) + 1 + 1)) ∧ (I 1670) ≤ (I41a 1670) := f48
          obtain ⟨⟨n56, n57, n58⟩, ⟨n59, n60, n61⟩, n62, n63, n64⟩ := id f48
          clear f48
          replace f49 : c_agl A A41a (I 1670) := f49
          replace f50 : 0 ≤ v42 := f50
          have g65 : c_agl A A41a (I 1670) := c_agl_trans c_agl_refl f49 (show (I 1670) ≤ (I 1670) by omega)
          show w_W _ _ _ (35, [(2, .int (Int32.ofInt ((I 2117)))), (0, .ref 38), (1, .int (Int32.ofInt (b)))], [.int (Int32.ofInt (v42))], M40) _
          refine w_adv (n := 3) (F' := (39, [(3, .int (Int32.ofInt (v42))), (2, .int (Int32.ofInt ((I 2117)))), (0, .ref 38), (1, .int (Int32.ofInt (b)))], [.int (Int32.ofInt (8)), .ref 38], M40)) rfl ?_
          refine w_call (cm := 113) (as := [(0, .ref 38), (1, .int (Int32.ofInt (8)))]) (rest := []) (o := some (4, 38)) rfl (w_fitR hR41a rfl) (c_close (8) hR41a (show 4 ≤ d by omega) ⟨by omega, by omega⟩ (show l ≤ 7000000 by first | assumption | omega) (show -1 ≤ (I41a 2436) ∧ ((I41a 2437) = 0 ∨ (I41a 2436) < (I41a 773)) ∧ (I41a 773) ≤ 1501 ∧ 1 ≤ 8 by first | assumption | omega) (show 0 ≤ (I41a 2439) ∧ (I41a 2439) ≤ 24 by first | assumption | omega)) (fun r66 M67 q68 => ?_)
          rcases q68 with ⟨zt69, zk70, zv71, e72, hR68a, f73, f74⟩ | ⟨t75, I68b, A68b, B68b, C68b, e76, hR68b, f77, f78, f79⟩
          · rw [e72]
            replace hR68a : w_Rep w_TC fr X u l (w_up (w_up (w_up (w_up (w_up I41a 2436 ((I41a 2436) + 1)) 2441 (zt69)) 2437 (zk70)) 2438 (zv71)) 2439 ((I41a 2439) - 1)) A41a B41a C41a M67 := hR68a
            replace f73 : ((I41a 2436) + 1 < (I41a 773) ∨ zk70 = 0) := f73
            replace f74 : (I41a 2437) = 8 := f74
            show w_W _ _ _ (42, [(3, .int (Int32.ofInt (v42))), (2, .int (Int32.ofInt ((I 2117)))), (0, .ref 38), (1, .int (Int32.ofInt (b)))], [], M67) _
            refine w_adv (n := 2) (F' := (44, [(3, .int (Int32.ofInt (v42))), (2, .int (Int32.ofInt ((I 2117)))), (0, .ref 38), (1, .int (Int32.ofInt (b)))], [.int (Int32.ofInt (b)), .ref 38], M67)) rfl ?_
            refine w_call (cm := 88) (as := [(0, .ref 38), (1, .int (Int32.ofInt (b)))]) (rest := []) (o := some (4, 38)) rfl (w_fitR hR68a rfl) ((hA d (Nat.lt_succ_self d)).2 (b) hR68a (show 10 * (24 - ((I41a 2439) - 1)) + 15 ≤ (d : Int) by omega) ⟨by omega, by omega⟩ (show l ≤ 7000000 by first | assumption | omega) (show (0 ≤ (I41a 2436) + 1 ∧ (I41a 2436) + 1 ≤ (I41a 773) ∧ (I41a 773) ≤ 1501 ∧ (zk70 = 0 ∨ (I41a 2436) + 1 < (I41a 773))) ∧ (0 ≤ (I41a 2439) - 1 ∧ (I41a 2439) - 1 ≤ 24 ∧ 0 ≤ (I41a 2117)) ∧ 0 ≤ (I41a 1670) ∧ (I41a 1670) ≤ 2 * ((I41a 2436) + 1) + 1 by (repeat' apply And.intro) <;> first | assumption | omega)) (fun r80 M81 q82 => ?_)
            rcases q82 with ⟨v83, I82a, A82a, B82a, C82a, e84, ⟨r85, r86⟩, hR82a, f87, f88, f89, f90, f91⟩ | ⟨t92, I82b, A82b, B82b, C82b, e93, hR82b, f94, f95, f96⟩
            · rw [e84]
              replace hR82a : w_Rep w_TC fr X u l I82a A82a B82a C82a M81 := hR82a
              replace f87 : c_fi c_ps (w_up (w_up (w_up (w_up (w_up I41a 2436 ((I41a 2436) + 1)) 2441 (zt69)) 2437 (zk70)) 2438 (zv71)) 2439 ((I41a 2439) - 1)) I82a := f87
              replace f88 : c_fa c_pa A41a A82a := f88
              replace f89 : (0 ≤ (I82a 2436) ∧ (I82a 2436) ≤ (I82a 773) ∧ ((I82a 2437) = 0 ∨ (I82a 2436) < (I82a 773))) ∧ ((I82a 773) = (I41a 773) ∧ (I82a 2439) = (I41a 2439) - 1 ∧ 0 ≤ (I82a 2117)) ∧ ((I41a 2436) + 1) + 1 ≤ (I82a 2436) ∧ (I82a 1670) + 0 ≤ (I41a 1670) + 2 * ((I82a 2436) - ((I41a 2436) + 1)) ∧ (I41a 1670) ≤ (I82a 1670) := f89
              obtain ⟨⟨n97, n98, n99⟩, ⟨n100, n101, n102⟩, n103, n104, n105⟩ := id f89
              clear f89
              replace f90 : c_agl A41a A82a (I41a 1670) := f90
              replace f91 : c_Bd A82a (c_W A82a (c_r ((I41a 2439) - 1) 4)) v83 (I41a 1670) (I82a 1670) := f91
              have g106 : c_agl A A82a (I 1670) := c_agl_trans g65 f90 (show (I 1670) ≤ (I41a 1670) by omega)
              have k107 : c_Bd A82a (c_W A82a (c_r (I 2439) 0)) v83 (I41a 1670) (I82a 1670) := c_Bd_up f91 (show c_r ((I41a 2439) - 1) 4 ≤ c_r (I 2439) 0 by unfold c_r; omega)
              obtain ⟨b108, b109, -⟩ := id k107
              show w_W _ _ _ (47, [(3, .int (Int32.ofInt (v42))), (2, .int (Int32.ofInt ((I 2117)))), (0, .ref 38), (1, .int (Int32.ofInt (b)))], [.int (Int32.ofInt (v83))], M81) _
              refine w_adv (n := 2) (F' := (50, [(4, .int (Int32.ofInt (v83))), (3, .int (Int32.ofInt (v42))), (2, .int (Int32.ofInt ((I 2117)))), (0, .ref 38), (1, .int (Int32.ofInt (b)))], [.ref 38], M81)) rfl ?_
              refine w_gf (v := .ref 33) hR82a rfl rfl rfl rfl ?_
              refine w_adv (n := 2) (F' := (55, [(4, .int (Int32.ofInt (v83))), (3, .int (Int32.ofInt (v42))), (2, .int (Int32.ofInt ((I 2117)))), (0, .ref 38), (1, .int (Int32.ofInt (b)))], [.int (Int32.ofInt (v42)), .int (Int32.ofInt ((I 2117))), .ref 33], M81)) rfl ?_
              refine w_call (cm := 121) (as := [(0, .ref 33), (1, .int (Int32.ofInt ((I 2117)))), (2, .int (Int32.ofInt (v42)))]) (rest := []) (o := some (5, 33)) rfl (w_fitR hR82a rfl) (c_lv ((I 2117)) (v42) hR82a (show 1 ≤ d by omega) ⟨by omega, by omega⟩ ⟨by omega, by omega⟩ (show -5 ≤ (I 2117) ∧ -5 ≤ v42 by first | assumption | omega)) (fun r110 M111 q112 => ?_)
              rcases q112 with ⟨A113, e114, hR112a, f115, f116⟩
              rw [e114]
              replace hR112a : w_Rep w_TC fr X u l I82a A113 B82a C82a M111 := hR112a
              replace f115 : c_fa c_pa A82a A113 := f115
              replace f116 : c_ags A82a A113 := f116
              have k117 : c_Bd A113 (c_W A113 (c_r (I 2439) 0)) v83 (I41a 1670) (I82a 1670) := c_Bd_agl k107 (c_ags_l f116 (I82a 1670)) (show 0 ≤ (I41a 1670) by omega) (show (I82a 1670) ≤ (I82a 1670) by omega)
              clear k107
              have g118 : c_agl A A113 (I 1670) := c_agl_trans g106 (c_ags_l f116 (I82a 1670)) (show (I 1670) ≤ (I82a 1670) by omega)
              show w_W _ _ _ (58, [(4, .int (Int32.ofInt (v83))), (3, .int (Int32.ofInt (v42))), (2, .int (Int32.ofInt ((I 2117)))), (0, .ref 38), (1, .int (Int32.ofInt (b)))], [], M111) _
              refine w_adv (n := 2) (F' := (61, [(4, .int (Int32.ofInt (v83))), (3, .int (Int32.ofInt (v42))), (2, .int (Int32.ofInt ((I 2117)))), (0, .ref 38), (1, .int (Int32.ofInt (b)))], [.int (Int32.ofInt (24)), .ref 38], M111)) rfl ?_
              refine w_call (cm := 113) (as := [(0, .ref 38), (1, .int (Int32.ofInt (24)))]) (rest := []) (o := some (4, 38)) rfl (w_fitR hR112a rfl) (c_close (24) hR112a (show 4 ≤ d by omega) ⟨by omega, by omega⟩ (show l ≤ 7000000 by first | assumption | omega) (show -1 ≤ (I82a 2436) ∧ ((I82a 2437) = 0 ∨ (I82a 2436) < (I82a 773)) ∧ (I82a 773) ≤ 1501 ∧ 1 ≤ 24 by first | assumption | omega) (show 0 ≤ (I82a 2439) ∧ (I82a 2439) ≤ 24 by first | assumption | omega)) (fun r119 M120 q121 => ?_)
              rcases q121 with ⟨zt122, zk123, zv124, e125, hR121a, f126, f127⟩ | ⟨t128, I121b, A121b, B121b, C121b, e129, hR121b, f130, f131, f132⟩
              · rw [e125]
                replace hR121a : w_Rep w_TC fr X u l (w_up (w_up (w_up (w_up (w_up I82a 2436 ((I82a 2436) + 1)) 2441 (zt122)) 2437 (zk123)) 2438 (zv124)) 2439 ((I82a 2439) - 1)) A113 B82a C82a M120 := hR121a
                replace f126 : ((I82a 2436) + 1 < (I82a 773) ∨ zk123 = 0) := f126
                replace f127 : (I82a 2437) = 24 := f127
                show w_W _ _ _ (64, [(4, .int (Int32.ofInt (v83))), (3, .int (Int32.ofInt (v42))), (2, .int (Int32.ofInt ((I 2117)))), (0, .ref 38), (1, .int (Int32.ofInt (b)))], [], M120) _
                refine w_adv (n := 1) (F' := (65, [(4, .int (Int32.ofInt (v83))), (3, .int (Int32.ofInt (v42))), (2, .int (Int32.ofInt ((I 2117)))), (0, .ref 38), (1, .int (Int32.ofInt (b)))], [.ref 38], M120)) rfl ?_
                refine w_gf (v := .ref 26) hR121a rfl rfl rfl rfl ?_
                refine w_adv (n := 1) (F' := (69, [(4, .int (Int32.ofInt (v83))), (3, .int (Int32.ofInt (v42))), (2, .int (Int32.ofInt ((I 2117)))), (0, .ref 38), (1, .int (Int32.ofInt (b)))], [.int (Int32.ofInt (b)), .ref 26], M120)) rfl ?_
                refine w_br1 (a := b) rfl rfl ⟨by omega, by omega⟩ (fun h133 => ?_) (fun h133 => ?_)
                · have h133 : b = 0 := h133
                  show w_W _ _ _ (77, [(4, .int (Int32.ofInt (v83))), (3, .int (Int32.ofInt (v42))), (2, .int (Int32.ofInt ((I 2117)))), (0, .ref 38), (1, .int (Int32.ofInt (b)))], [.ref 26], M120) _
                  refine w_adv (n := 5) (F' := (84, [(4, .int (Int32.ofInt (v83))), (3, .int (Int32.ofInt (v42))), (2, .int (Int32.ofInt ((I 2117)))), (0, .ref 38), (1, .int (Int32.ofInt (b)))], [.int (Int32.ofInt ((I 2117))), .int (Int32.ofInt (v42)), .int (Int32.ofInt (v83)), .int (Int32.ofInt ((I 2117))), .int (Int32.ofInt (11)), .ref 26], M120)) rfl ?_
                  refine w_sub rfl ?_
                  refine w_int (fun x134 r135 e136 => ?_)
                  obtain ⟨r135a, r135b⟩ := r135
                  clear e136
                  refine w_call (cm := 94) (as := [(0, .ref 26), (1, .int (Int32.ofInt (11))), (2, .int (Int32.ofInt ((I 2117)))), (3, .int (Int32.ofInt (v83))), (4, .int (Int32.ofInt (x134)))]) (rest := []) (o := some (8, 26)) rfl (w_fitR hR121a rfl) (c_mkn (11) ((I 2117)) (v83) (x134) hR121a (show 2 ≤ d by omega) ⟨by omega, by omega⟩ ⟨by omega, by omega⟩ ⟨by omega, by omega⟩ ⟨by omega, by omega⟩ (show 0 ≤ (I82a 1670) ∧ (I82a 1670) < 3016 by first | assumption | omega)) (fun r137 M138 q139 => ?_)
                  rcases q139 with ⟨A140, e141, hR139a, f142, f143⟩
                  rw [e141]
                  replace hR139a : w_Rep w_TC fr X u l (w_up (w_up (w_up (w_up (w_up (w_up I82a 2436 ((I82a 2436) + 1)) 2441 (zt122)) 2437 (zk123)) 2438 (zv124)) 2439 ((I82a 2439) - 1)) 1670 ((I82a 1670) + 1)) A140 B82a C82a M138 := hR139a
                  replace f142 : c_fa c_pa A113 A140 := f142
                  replace f143 : c_mk A113 A140 (I82a 1670) 11 (I 2117) v83 x134 := f143
                  have k144 : c_Wn A140 (c_r (I 2439) 1) (I82a 1670) (I41a 1670) ((I82a 1670) + 1) := c_Wn_up ⟨c_W_11 f143 (by omega) (show 0 ≤ (I41a 1670) by omega) (c_BdW_win k117 (show (I41a 1670) ≤ (I41a 1670) by omega) (show (I82a 1670) ≤ (I82a 1670) by omega)), f143.2.2.2.2.2⟩ (show (c_r (I 2439) 0) + 1 ≤ (c_r (I 2439) 1) by unfold c_r; omega)
                  have g145 : c_agl A A140 (I 1670) := c_agl_trans g118 f143.1 (show (I 1670) ≤ (I82a 1670) by omega)
                  show w_W _ _ _ (88, [(4, .int (Int32.ofInt (v83))), (3, .int (Int32.ofInt (v42))), (2, .int (Int32.ofInt ((I 2117)))), (0, .ref 38), (1, .int (Int32.ofInt (b)))], [.int (Int32.ofInt ((I82a 1670)))], M138) _
                  refine w_fin (r := .inl (some ((I82a 1670)))) (M' := M138) rfl ?_
                  exact Or.inl ⟨(I82a 1670), (w_up (w_up (w_up (w_up (w_up (w_up I82a 2436 ((I82a 2436) + 1)) 2441 (zt122)) 2437 (zk123)) 2438 (zv124)) 2439 ((I82a 2439) - 1)) 1670 ((I82a 1670) + 1)), A140, B82a, C82a, rfl, ⟨by omega, by omega⟩, hR139a, (show c_fi c_ps I (w_up (w_up (w_up (w_up (w_up (w_up I82a 2436 ((I82a 2436) + 1)) 2441 (zt122)) 2437 (zk123)) 2438 (zv124)) 2439 ((I82a 2439) - 1)) 1670 ((I82a 1670) + 1)) by exact (c_fi_up (c_fi_up (c_fi_up (c_fi_up (c_fi_up (c_fi_up (c_fi_trans (c_fi_up (c_fi_up (c_fi_up (c_fi_up (c_fi_up (c_fi_trans (c_fi_up (c_fi_up (c_fi_up (c_fi_up (c_fi_up c_fi_refl rfl) rfl) rfl) rfl) rfl) f46) rfl) rfl) rfl) rfl) rfl) f87) rfl) rfl) rfl) rfl) rfl) rfl)), (show c_fa c_pa A A140 by exact (c_fa_trans (c_fa_trans (c_fa_trans f47 f88) f115) f142)), (show (0 ≤ (I82a 2436) + 1 ∧ (I82a 2436) + 1 ≤ (I82a 773) ∧ (zk123 = 0 ∨ (I82a 2436) + 1 < (I82a 773))) ∧ ((I82a 773) = (I 773) ∧ (I82a 2439) - 1 = (I 2439) ∧ 0 ≤ (I82a 2117)) ∧ (I 2436) + 1 ≤ (I82a 2436) + 1 ∧ ((I82a 1670) + 1) + 1 ≤ (I 1670) + 2 * (((I82a 2436) + 1) - (I 2436)) ∧ (I 1670) ≤ (I82a 1670) + 1 by (repeat' apply And.intro) <;> first | assumption | omega), (show c_agl A A140 (I 1670) by exact g145), (show c_Wn A140 (c_r (I 2439) 1) (I82a 1670) (I 1670) ((I82a 1670) + 1) by exact c_Wn_win (c_Wn_up k144 (show c_r (I 2439) 1 ≤ c_r (I 2439) 1 by unfold c_r; omega)) (show (I 1670) ≤ (I41a 1670) by omega) (show ((I82a 1670) + 1) ≤ ((I82a 1670) + 1) by omega))⟩
                · have h133 : ¬ (b = 0) := h133
                  show w_W _ _ _ (72, [(4, .int (Int32.ofInt (v83))), (3, .int (Int32.ofInt (v42))), (2, .int (Int32.ofInt ((I 2117)))), (0, .ref 38), (1, .int (Int32.ofInt (b)))], [.ref 26], M120) _
                  refine w_adv (n := 6) (F' := (84, [(4, .int (Int32.ofInt (v83))), (3, .int (Int32.ofInt (v42))), (2, .int (Int32.ofInt ((I 2117)))), (0, .ref 38), (1, .int (Int32.ofInt (b)))], [.int (Int32.ofInt ((I 2117))), .int (Int32.ofInt (v42)), .int (Int32.ofInt (v83)), .int (Int32.ofInt ((I 2117))), .int (Int32.ofInt (12)), .ref 26], M120)) rfl ?_
                  refine w_sub rfl ?_
                  refine w_int (fun x146 r147 e148 => ?_)
                  obtain ⟨r147a, r147b⟩ := r147
                  clear e148
                  refine w_call (cm := 94) (as := [(0, .ref 26), (1, .int (Int32.ofInt (12))), (2, .int (Int32.ofInt ((I 2117)))), (3, .int (Int32.ofInt (v83))), (4, .int (Int32.ofInt (x146)))]) (rest := []) (o := some (8, 26)) rfl (w_fitR hR121a rfl) (c_mkn (12) ((I 2117)) (v83) (x146) hR121a (show 2 ≤ d by omega) ⟨by omega, by omega⟩ ⟨by omega, by omega⟩ ⟨by omega, by omega⟩ ⟨by omega, by omega⟩ (show 0 ≤ (I82a 1670) ∧ (I82a 1670) < 3016 by first | assumption | omega)) (fun r149 M150 q151 => ?_)
                  rcases q151 with ⟨A152, e153, hR151a, f154, f155⟩
                  rw [e153]
                  replace hR151a : w_Rep w_TC fr X u l (w_up (w_up (w_up (w_up (w_up (w_up I82a 2436 ((I82a 2436) + 1)) 2441 (zt122)) 2437 (zk123)) 2438 (zv124)) 2439 ((I82a 2439) - 1)) 1670 ((I82a 1670) + 1)) A152 B82a C82a M150 := hR151a
                  replace f154 : c_fa c_pa A113 A152 := f154
                  replace f155 : c_mk A113 A152 (I82a 1670) 12 (I 2117) v83 x146 := f155
                  have k156 : c_Wn A152 (c_r (I 2439) 1) (I82a 1670) (I41a 1670) ((I82a 1670) + 1) := c_Wn_up ⟨c_W_11 f155 (by omega) (show 0 ≤ (I41a 1670) by omega) (c_BdW_win k117 (show (I41a 1670) ≤ (I41a 1670) by omega) (show (I82a 1670) ≤ (I82a 1670) by omega)), f155.2.2.2.2.2⟩ (show (c_r (I 2439) 0) + 1 ≤ (c_r (I 2439) 1) by unfold c_r; omega)
                  have g157 : c_agl A A152 (I 1670) := c_agl_trans g118 f155.1 (show (I 1670) ≤ (I82a 1670) by omega)
                  show w_W _ _ _ (88, [(4, .int (Int32.ofInt (v83))), (3, .int (Int32.ofInt (v42))), (2, .int (Int32.ofInt ((I 2117)))), (0, .ref 38), (1, .int (Int32.ofInt (b)))], [.int (Int32.ofInt ((I82a 1670)))], M150) _
                  refine w_fin (r := .inl (some ((I82a 1670)))) (M' := M150) rfl ?_
                  exact Or.inl ⟨(I82a 1670), (w_up (w_up (w_up (w_up (w_up (w_up I82a 2436 ((I82a 2436) + 1)) 2441 (zt122)) 2437 (zk123)) 2438 (zv124)) 2439 ((I82a 2439) - 1)) 1670 ((I82a 1670) + 1)), A152, B82a, C82a, rfl, ⟨by omega, by omega⟩, hR151a, (show c_fi c_ps I (w_up (w_up (w_up (w_up (w_up (w_up I82a 2436 ((I82a 2436) + 1)) 2441 (zt122)) 2437 (zk123)) 2438 (zv124)) 2439 ((I82a 2439) - 1)) 1670 ((I82a 1670) + 1)) by exact (c_fi_up (c_fi_up (c_fi_up (c_fi_up (c_fi_up (c_fi_up (c_fi_trans (c_fi_up (c_fi_up (c_fi_up (c_fi_up (c_fi_up (c_fi_trans (c_fi_up (c_fi_up (c_fi_up (c_fi_up (c_fi_up c_fi_refl rfl) rfl) rfl) rfl) rfl) f46) rfl) rfl) rfl) rfl) rfl) f87) rfl) rfl) rfl) rfl) rfl) rfl)), (show c_fa c_pa A A152 by exact (c_fa_trans (c_fa_trans (c_fa_trans f47 f88) f115) f154)), (show (0 ≤ (I82a 2436) + 1 ∧ (I82a 2436) + 1 ≤ (I82a 773) ∧ (zk123 = 0 ∨ (I82a 2436) + 1 < (I82a 773))) ∧ ((I82a 773) = (I 773) ∧ (I82a 2439) - 1 = (I 2439) ∧ 0 ≤ (I82a 2117)) ∧ (I 2436) + 1 ≤ (I82a 2436) + 1 ∧ ((I82a 1670) + 1) + 1 ≤ (I 1670) + 2 * (((I82a 2436) + 1) - (I 2436)) ∧ (I 1670) ≤ (I82a 1670) + 1 by (repeat' apply And.intro) <;> first | assumption | omega), (show c_agl A A152 (I 1670) by exact g157), (show c_Wn A152 (c_r (I 2439) 1) (I82a 1670) (I 1670) ((I82a 1670) + 1) by exact c_Wn_win (c_Wn_up k156 (show c_r (I 2439) 1 ≤ c_r (I 2439) 1 by unfold c_r; omega)) (show (I 1670) ≤ (I41a 1670) by omega) (show ((I82a 1670) + 1) ≤ ((I82a 1670) + 1) by omega))⟩
              · rw [e129]
                replace hR121b : w_Rep w_TC fr X (u + 6) (l + 64) I121b A121b B121b C121b M120 := hR121b
                replace f130 : c_fi c_ps I82a I121b := f130
                replace f131 : c_fa c_pa A113 A121b := f131
                replace f132 : M120.1[t128]? = some (.inr (11, [])) := f132
                exact Or.inr (⟨t128, I121b, A121b, B121b, C121b, rfl, hR121b, (show c_fi c_ps I I121b by exact (c_fi_trans (c_fi_trans (c_fi_up (c_fi_up (c_fi_up (c_fi_up (c_fi_up (c_fi_trans (c_fi_up (c_fi_up (c_fi_up (c_fi_up (c_fi_up c_fi_refl rfl) rfl) rfl) rfl) rfl) f46) rfl) rfl) rfl) rfl) rfl) f87) f130)), (show c_fa c_pa A A121b by exact (c_fa_trans (c_fa_trans (c_fa_trans f47 f88) f115) f131)), (show M120.1[t128]? = some (.inr (11, [])) by exact f132)⟩)
            · rw [e93]
              replace hR82b : w_Rep w_TC fr X (u + 6) (l + 64) I82b A82b B82b C82b M81 := hR82b
              replace f94 : c_fi c_ps (w_up (w_up (w_up (w_up (w_up I41a 2436 ((I41a 2436) + 1)) 2441 (zt69)) 2437 (zk70)) 2438 (zv71)) 2439 ((I41a 2439) - 1)) I82b := f94
              replace f95 : c_fa c_pa A41a A82b := f95
              replace f96 : M81.1[t92]? = some (.inr (11, [])) := f96
              exact Or.inr (⟨t92, I82b, A82b, B82b, C82b, rfl, hR82b, (show c_fi c_ps I I82b by exact (c_fi_trans (c_fi_up (c_fi_up (c_fi_up (c_fi_up (c_fi_up (c_fi_trans (c_fi_up (c_fi_up (c_fi_up (c_fi_up (c_fi_up c_fi_refl rfl) rfl) rfl) rfl) rfl) f46) rfl) rfl) rfl) rfl) rfl) f94)), (show c_fa c_pa A A82b by exact (c_fa_trans f47 f95)), (show M81.1[t92]? = some (.inr (11, [])) by exact f96)⟩)
          · rw [e76]
            replace hR68b : w_Rep w_TC fr X (u + 6) (l + 64) I68b A68b B68b C68b M67 := hR68b
            replace f77 : c_fi c_ps I41a I68b := f77
            replace f78 : c_fa c_pa A41a A68b := f78
            replace f79 : M67.1[t75]? = some (.inr (11, [])) := f79
            exact Or.inr (⟨t75, I68b, A68b, B68b, C68b, rfl, hR68b, (show c_fi c_ps I I68b by exact (c_fi_trans (c_fi_trans (c_fi_up (c_fi_up (c_fi_up (c_fi_up (c_fi_up c_fi_refl rfl) rfl) rfl) rfl) rfl) f46) f77)), (show c_fa c_pa A A68b by exact (c_fa_trans f47 f78)), (show M67.1[t75]? = some (.inr (11, [])) by exact f79)⟩)
        · rw [e52]
          replace hR41b : w_Rep w_TC fr X (u + 6) (l + 64) I41b A41b B41b C41b M40 := hR41b
          replace f53 : c_fi c_ps (w_up (w_up (w_up (w_up (w_up I 2436 ((I 2436) + 1 + 1)) 2441 (zt21)) 2437 (zk22)) 2438 (zv23)) 2439 ((I 2439) + 1 + 1)) I41b := f53
          replace f54 : c_fa c_pa A A41b := f54
          replace f55 : M40.1[t51]? = some (.inr (11, [])) := f55
          exact Or.inr (⟨t51, I41b, A41b, B41b, C41b, rfl, hR41b, (show c_fi c_ps I I41b by exact (c_fi_trans (c_fi_up (c_fi_up (c_fi_up (c_fi_up (c_fi_up c_fi_refl rfl) rfl) rfl) rfl) rfl) f53)), (show c_fa c_pa A A41b by exact f54), (show M40.1[t51]? = some (.inr (11, [])) by exact f55)⟩)
      · rw [e28]
        replace hR20b : w_Rep w_TC fr X (u + 6) (l + 64) I20b A20b B20b C20b M19 := hR20b
        replace f29 : c_fi c_ps (w_up (w_up (w_up (w_up (w_up I 2436 ((I 2436) + 1)) 2441 (zt4)) 2437 (zk5)) 2438 (zv6)) 2439 ((I 2439) + 1)) I20b := f29
        replace f30 : c_fa c_pa A A20b := f30
        replace f31 : M19.1[t27]? = some (.inr (11, [])) := f31
        exact Or.inr (⟨t27, I20b, A20b, B20b, C20b, rfl, hR20b, (show c_fi c_ps I I20b by exact (c_fi_trans (c_fi_up (c_fi_up (c_fi_up (c_fi_up (c_fi_up c_fi_refl rfl) rfl) rfl) rfl) rfl) f29)), (show c_fa c_pa A A20b by exact f30), (show M19.1[t27]? = some (.inr (11, [])) by exact f31)⟩)
    · have h17 : ¬ (zk5 = 7) := h17
      show w_W _ _ _ (13, [(0, .ref 38), (1, .int (Int32.ofInt (b)))], [], M2) _
      refine w_adv (n := 2) (F' := (15, [(0, .ref 38), (1, .int (Int32.ofInt (b)))], [.int (Int32.ofInt (1)), .ref 38], M2)) rfl ?_
      refine w_call (cm := 100) (as := [(0, .ref 38), (1, .int (Int32.ofInt (1)))]) (rest := []) (o := some (4, 38)) rfl (w_fitR hR3a rfl) (c_fail (1) hR3a ⟨by omega, by omega⟩ (show l ≤ 7000000 by first | assumption | omega) (show 1 ≤ 1 ∧ 1 ≤ 7 by first | assumption | omega)) (fun r158 M159 q160 => ?_)
      rcases q160 with ⟨t161, I160a, A160a, B160a, C160a, e162, hR160a, f163, f164, f165⟩
      rw [e162]
      replace hR160a : w_Rep w_TC fr X (u + 6) (l + 64) I160a A160a B160a C160a M159 := hR160a
      replace f163 : c_fi c_ps (w_up (w_up (w_up (w_up (w_up I 2436 ((I 2436) + 1)) 2441 (zt4)) 2437 (zk5)) 2438 (zv6)) 2439 ((I 2439) + 1)) I160a := f163
      replace f164 : c_fa c_pa A A160a := f164
      replace f165 : M159.1[t161]? = some (.inr (11, [])) := f165
      exact Or.inr (⟨t161, I160a, A160a, B160a, C160a, rfl, hR160a, (show c_fi c_ps I I160a by exact (c_fi_trans (c_fi_up (c_fi_up (c_fi_up (c_fi_up (c_fi_up c_fi_refl rfl) rfl) rfl) rfl) rfl) f163)), (show c_fa c_pa A A160a by exact f164), (show M159.1[t161]? = some (.inr (11, [])) by exact f165)⟩)
  · rw [e11]
    replace hR3b : w_Rep w_TC fr X (u + 6) (l + 64) I3b A3b B3b C3b M2 := hR3b
    replace f12 : c_fi c_ps I I3b := f12
    replace f13 : c_fa c_pa A A3b := f13
    replace f14 : M2.1[t10]? = some (.inr (11, [])) := f14
    exact Or.inr (⟨t10, I3b, A3b, B3b, C3b, rfl, hR3b, (show c_fi c_ps I I3b by exact f12), (show c_fa c_pa A A3b by exact f13), (show M2.1[t10]? = some (.inr (11, [])) by exact f14)⟩)
