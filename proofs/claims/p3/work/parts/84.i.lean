def c_record_Q (fr : Nat → Bool) (X : Nat → Option (q_C (Nat → Int32))) (u l : Nat) (I : Nat → Int) (A : Nat → Int → Int) (B C : Nat → Nat) (M : w_M) : w_X → w_M → Prop := fun r M' => (∃ v : Int, ∃ (I' : Nat → Int) (A' : Nat → Int → Int) (B' C' : Nat → Nat), (r = .inl (some v)) ∧ (w_in v) ∧ (w_Rep w_TC fr X u l I' A' B' C' M') ∧ (c_fi c_ps I I') ∧ (c_fa c_pa A A') ∧ ((0 ≤ (I' 2436) ∧ (I' 2436) ≤ (I' 773) ∧ ((I' 2437) = 0 ∨ (I' 2436) < (I' 773))) ∧ ((I' 773) = (I 773) ∧ (I' 2439) = (I 2439) ∧ 0 ≤ (I' 2117)) ∧ (I 2436) + 1 ≤ (I' 2436) ∧ (I' 1670) + 1 ≤ (I 1670) + 2 * ((I' 2436) - (I 2436)) ∧ (I 1670) ≤ (I' 1670)) ∧ (c_agl A A' (I 1670)) ∧ (c_Wn A' (c_r (I 2439) 1) v (I 1670) (I' 1670))) ∨ (∃ t : Nat, ∃ (I' : Nat → Int) (A' : Nat → Int → Int) (B' C' : Nat → Nat), (r = .inr t) ∧ (w_Rep w_TC fr X (u + 6) (l + 64) I' A' B' C' M') ∧ (c_fi c_ps I I') ∧ (c_fa c_pa A A') ∧ (M'.1[t]? = some (.inr (11, []))))
set_option maxHeartbeats 100000000 in
set_option maxRecDepth 100000 in
theorem c_record {L : Nat} {xs : Nat → Int32} {d : Nat} {fr : Nat → Bool} {X : Nat → Option (q_C (Nat → Int32))} {u l : Nat} {I : Nat → Int} {A : Nat → Int → Int} {B C : Nat → Nat} {M : w_M} (hA : c_ALL L xs d) (hR : w_Rep w_TC fr X u l I A B C M) (hd : 10 * (24 - (I 2439)) + 9 ≤ (d : Int)) (hl : l ≤ 7000000) (hNU : (0 ≤ (I 2436) ∧ (I 2436) ≤ (I 773) ∧ (I 773) ≤ 1501 ∧ ((I 2437) = 0 ∨ (I 2436) < (I 773))) ∧ (0 ≤ (I 2439) ∧ (I 2439) ≤ 24 ∧ 0 ≤ (I 2117)) ∧ 0 ≤ (I 1670) ∧ (I 1670) ≤ 2 * (I 2436) + 1) (hk0 : ¬ (I 2437) = 0) (hkn : (I 2436) + 1 < (I 773)) : w_W (z_P L xs) d 98 (0, [(0, .ref 38)], [], M) (c_record_Q fr X u l I A B C M) := by
  obtain ⟨d, rfl⟩ : ∃ d0, d = d0 + 1 := ⟨d - 1, by omega⟩
  refine w_adv (n := 1) (F' := (1, [(0, .ref 38)], [.ref 38], M)) rfl ?_
  refine w_gf (v := .int (Int32.ofInt ((I 2438)))) hR rfl rfl rfl rfl ?_
  obtain ⟨r1, r2⟩ : -2147483648 ≤ (I 2438) ∧ (I 2438) ≤ 2147483647 := hR.ri 2438
  refine w_adv (n := 2) (F' := (6, [(1, .int (Int32.ofInt ((I 2438)))), (0, .ref 38)], [.ref 38], M)) rfl ?_
  refine w_call (cm := 80) (as := [(0, .ref 38)]) (rest := []) (o := some (4, 38)) rfl (w_fitR hR rfl) (c_advance hR (show 3 ≤ d by omega) (show l ≤ 7000000 by first | assumption | omega) (show -1 ≤ (I 2436) ∧ (I 2436) < (I 773) ∧ (I 773) ≤ 1501 by first | assumption | omega)) (fun r3 M4 q5 => ?_)
  rcases q5 with ⟨zt6, zk7, zv8, e9, hR5a, f10⟩ | ⟨t11, I5b, A5b, B5b, C5b, e12, hR5b, f13, f14, f15⟩
  · rw [e9]
    replace hR5a : w_Rep w_TC fr X u l (w_up (w_up (w_up (w_up I 2436 ((I 2436) + 1)) 2441 (zt6)) 2437 (zk7)) 2438 (zv8)) A B C M4 := hR5a
    replace f10 : ((I 2436) + 1 < (I 773) ∨ zk7 = 0) := f10
    show w_W _ _ _ (9, [(1, .int (Int32.ofInt ((I 2438)))), (0, .ref 38)], [], M4) _
    refine w_adv (n := 1) (F' := (10, [(1, .int (Int32.ofInt ((I 2438)))), (0, .ref 38)], [.ref 38], M4)) rfl ?_
    refine w_call (cm := 99) (as := [(0, .ref 38)]) (rest := []) (o := some (4, 38)) rfl (w_fitR hR5a rfl) (c_open hR5a (show 4 ≤ d by omega) (show l ≤ 7000000 by first | assumption | omega) (show -1 ≤ (I 2436) + 1 ∧ (I 2436) + 1 < (I 773) ∧ (I 773) ≤ 1501 by first | assumption | omega) (show 0 ≤ (I 2439) ∧ (I 2439) ≤ 24 by first | assumption | omega)) (fun r16 M17 q18 => ?_)
    rcases q18 with ⟨zt19, zk20, zv21, e22, hR18a, f23, f24⟩ | ⟨t25, I18b, A18b, B18b, C18b, e26, hR18b, f27, f28, f29⟩
    · rw [e22]
      replace hR18a : w_Rep w_TC fr X u l (w_up (w_up (w_up (w_up (w_up I 2436 ((I 2436) + 1 + 1)) 2441 (zt19)) 2437 (zk20)) 2438 (zv21)) 2439 ((I 2439) + 1)) A B C M17 := w_Rep.up hR18a (show (w_up (w_up (w_up (w_up (w_up I 2436 ((I 2436) + 1 + 1)) 2441 (zt19)) 2437 (zk20)) 2438 (zv21)) 2439 ((I 2439) + 1)) = _ from (funext fun s => if e0 : s = 2436 then (by subst e0; rfl) else if e1 : s = 2437 then (by subst e1; rfl) else if e2 : s = 2438 then (by subst e2; rfl) else if e3 : s = 2439 then (by subst e3; rfl) else if e4 : s = 2441 then (by subst e4; rfl) else (by simp only [w_up_ne e0, w_up_ne e1, w_up_ne e2, w_up_ne e3, w_up_ne e4]))) rfl
      replace f23 : ((I 2436) + 1 + 1 < (I 773) ∨ zk20 = 0) := f23
      replace f24 : (I 2439) < 24 := f24
      show w_W _ _ _ (13, [(1, .int (Int32.ofInt ((I 2438)))), (0, .ref 38)], [], M17) _
      refine w_adv (n := 3) (F' := (16, [(2, .int (Int32.ofInt ((-1)))), (1, .int (Int32.ofInt ((I 2438)))), (0, .ref 38)], [.ref 38], M17)) rfl ?_
      refine w_gf (v := .int (Int32.ofInt (zk20))) hR18a rfl rfl rfl rfl ?_
      obtain ⟨r30, r31⟩ : -2147483648 ≤ zk20 ∧ zk20 ≤ 2147483647 := hR18a.ri 2437
      refine w_adv (n := 1) (F' := (21, [(2, .int (Int32.ofInt ((-1)))), (1, .int (Int32.ofInt ((I 2438)))), (0, .ref 38)], [.int (Int32.ofInt (6)), .int (Int32.ofInt (zk20))], M17)) rfl ?_
      refine w_br2 (a := zk20) (b := 6) rfl rfl ⟨by omega, by omega⟩ ⟨by omega, by omega⟩ (fun h32 => ?_) (fun h32 => ?_)
      · have h32 : zk20 = 6 := h32
        show w_W _ _ _ (64, [(2, .int (Int32.ofInt ((-1)))), (1, .int (Int32.ofInt ((I 2438)))), (0, .ref 38)], [], M17) _
        refine w_adv (n := 2) (F' := (67, [(2, .int (Int32.ofInt ((-1)))), (1, .int (Int32.ofInt ((I 2438)))), (0, .ref 38)], [.int (Int32.ofInt (6)), .ref 38], M17)) rfl ?_
        refine w_call (cm := 113) (as := [(0, .ref 38), (1, .int (Int32.ofInt (6)))]) (rest := []) (o := some (4, 38)) rfl (w_fitR hR18a rfl) (c_close (6) hR18a (show 4 ≤ d by omega) ⟨by omega, by omega⟩ (show l ≤ 7000000 by first | assumption | omega) (show -1 ≤ (I 2436) + 1 + 1 ∧ (zk20 = 0 ∨ (I 2436) + 1 + 1 < (I 773)) ∧ (I 773) ≤ 1501 ∧ 1 ≤ 6 by first | assumption | omega) (show 0 ≤ (I 2439) + 1 ∧ (I 2439) + 1 ≤ 24 by first | assumption | omega)) (fun r33 M34 q35 => ?_)
        rcases q35 with ⟨zt36, zk37, zv38, e39, hR35a, f40, f41⟩ | ⟨t42, I35b, A35b, B35b, C35b, e43, hR35b, f44, f45, f46⟩
        · rw [e39]
          replace hR35a : w_Rep w_TC fr X u l (w_up (w_up (w_up (w_up (w_up I 2436 ((I 2436) + 1 + 1 + 1)) 2441 (zt36)) 2437 (zk37)) 2438 (zv38)) 2439 ((I 2439) + 1 - 1)) A B C M34 := w_Rep.up hR35a (show (w_up (w_up (w_up (w_up (w_up I 2436 ((I 2436) + 1 + 1 + 1)) 2441 (zt36)) 2437 (zk37)) 2438 (zv38)) 2439 ((I 2439) + 1 - 1)) = _ from (funext fun s => if e0 : s = 2436 then (by subst e0; rfl) else if e1 : s = 2437 then (by subst e1; rfl) else if e2 : s = 2438 then (by subst e2; rfl) else if e3 : s = 2439 then (by subst e3; rfl) else if e4 : s = 2441 then (by subst e4; rfl) else (by simp only [w_up_ne e0, w_up_ne e1, w_up_ne e2, w_up_ne e3, w_up_ne e4]))) rfl
          replace f40 : ((I 2436) + 1 + 1 + 1 < (I 773) ∨ zk37 = 0) := f40
          replace f41 : zk20 = 6 := f41
          show w_W _ _ _ (70, [(2, .int (Int32.ofInt ((-1)))), (1, .int (Int32.ofInt ((I 2438)))), (0, .ref 38)], [], M34) _
          refine w_adv (n := 4) (F' := (76, [(2, .int (Int32.ofInt ((-1)))), (1, .int (Int32.ofInt ((I 2438)))), (0, .ref 38)], [.ref 38], M34)) rfl ?_
          refine w_gf (v := .ref 26) hR35a rfl rfl rfl rfl ?_
          refine w_adv (n := 4) (F' := (83, [(2, .int (Int32.ofInt ((-1)))), (1, .int (Int32.ofInt ((I 2438)))), (0, .ref 38)], [.int (Int32.ofInt ((-1))), .int (Int32.ofInt ((-1))), .int (Int32.ofInt ((I 2438))), .int (Int32.ofInt (4)), .ref 26], M34)) rfl ?_
          refine w_call (cm := 94) (as := [(0, .ref 26), (1, .int (Int32.ofInt (4))), (2, .int (Int32.ofInt ((I 2438)))), (3, .int (Int32.ofInt ((-1)))), (4, .int (Int32.ofInt ((-1))))]) (rest := []) (o := some (8, 26)) rfl (w_fitR hR35a rfl) (c_mkn (4) ((I 2438)) ((-1)) ((-1)) hR35a (show 2 ≤ d by omega) ⟨by omega, by omega⟩ ⟨by omega, by omega⟩ ⟨by omega, by omega⟩ ⟨by omega, by omega⟩ (show 0 ≤ (I 1670) ∧ (I 1670) < 3016 by first | assumption | omega)) (fun r47 M48 q49 => ?_)
          rcases q49 with ⟨A50, e51, hR49a, f52, f53⟩
          rw [e51]
          replace hR49a : w_Rep w_TC fr X u l (w_up (w_up (w_up (w_up (w_up (w_up I 2436 ((I 2436) + 1 + 1 + 1)) 2441 (zt36)) 2437 (zk37)) 2438 (zv38)) 2439 ((I 2439) + 1 - 1)) 1670 ((I 1670) + 1)) A50 B C M48 := hR49a
          replace f52 : c_fa c_pa A A50 := f52
          replace f53 : c_mk A A50 (I 1670) 4 (I 2438) (-1) (-1) := f53
          have k54 : c_Wn A50 (c_r (I 2439) 1) (I 1670) (I 1670) ((I 1670) + 1) := c_Wn_up ⟨c_W_leaf f53 (by omega) (show (I 1670) ≤ (I 1670) by omega), f53.2.2.2.2.2⟩ (show 1 ≤ (c_r (I 2439) 1) by unfold c_r; omega)
          have g55 : c_agl A A50 (I 1670) := c_agl_trans c_agl_refl f53.1 (show (I 1670) ≤ (I 1670) by omega)
          show w_W _ _ _ (86, [(2, .int (Int32.ofInt ((-1)))), (1, .int (Int32.ofInt ((I 2438)))), (0, .ref 38)], [.int (Int32.ofInt ((I 1670)))], M48) _
          refine w_adv (n := 1) (F' := (100, [(2, .int (Int32.ofInt ((-1)))), (1, .int (Int32.ofInt ((I 2438)))), (0, .ref 38)], [.int (Int32.ofInt ((I 1670)))], M48)) rfl ?_
          refine w_fin (r := .inl (some ((I 1670)))) (M' := M48) rfl ?_
          exact Or.inl ⟨(I 1670), (w_up (w_up (w_up (w_up (w_up (w_up I 2436 ((I 2436) + 1 + 1 + 1)) 2441 (zt36)) 2437 (zk37)) 2438 (zv38)) 2439 ((I 2439) + 1 - 1)) 1670 ((I 1670) + 1)), A50, B, C, rfl, ⟨by omega, by omega⟩, hR49a, (show c_fi c_ps I (w_up (w_up (w_up (w_up (w_up (w_up I 2436 ((I 2436) + 1 + 1 + 1)) 2441 (zt36)) 2437 (zk37)) 2438 (zv38)) 2439 ((I 2439) + 1 - 1)) 1670 ((I 1670) + 1)) by exact (c_fi_up (c_fi_up (c_fi_up (c_fi_up (c_fi_up (c_fi_up c_fi_refl rfl) rfl) rfl) rfl) rfl) rfl)), (show c_fa c_pa A A50 by exact f52), (show (0 ≤ (I 2436) + 1 + 1 + 1 ∧ (I 2436) + 1 + 1 + 1 ≤ (I 773) ∧ (zk37 = 0 ∨ (I 2436) + 1 + 1 + 1 < (I 773))) ∧ ((I 773) = (I 773) ∧ (I 2439) + 1 - 1 = (I 2439) ∧ 0 ≤ (I 2117)) ∧ (I 2436) + 1 ≤ (I 2436) + 1 + 1 + 1 ∧ ((I 1670) + 1) + 1 ≤ (I 1670) + 2 * (((I 2436) + 1 + 1 + 1) - (I 2436)) ∧ (I 1670) ≤ (I 1670) + 1 by (repeat' apply And.intro) <;> first | assumption | omega), (show c_agl A A50 (I 1670) by exact g55), (show c_Wn A50 (c_r (I 2439) 1) (I 1670) (I 1670) ((I 1670) + 1) by exact c_Wn_win (c_Wn_up k54 (show c_r (I 2439) 1 ≤ c_r (I 2439) 1 by unfold c_r; omega)) (show (I 1670) ≤ (I 1670) by omega) (show ((I 1670) + 1) ≤ ((I 1670) + 1) by omega))⟩
        · rw [e43]
          replace hR35b : w_Rep w_TC fr X (u + 6) (l + 64) I35b A35b B35b C35b M34 := hR35b
          replace f44 : c_fi c_ps (w_up (w_up (w_up (w_up (w_up I 2436 ((I 2436) + 1 + 1)) 2441 (zt19)) 2437 (zk20)) 2438 (zv21)) 2439 ((I 2439) + 1)) I35b := f44
          replace f45 : c_fa c_pa A A35b := f45
          replace f46 : M34.1[t42]? = some (.inr (11, [])) := f46
          exact Or.inr (⟨t42, I35b, A35b, B35b, C35b, rfl, hR35b, (show c_fi c_ps I I35b by exact (c_fi_trans (c_fi_up (c_fi_up (c_fi_up (c_fi_up (c_fi_up c_fi_refl rfl) rfl) rfl) rfl) rfl) f44)), (show c_fa c_pa A A35b by exact f45), (show M34.1[t42]? = some (.inr (11, [])) by exact f46)⟩)
      · have h32 : ¬ (zk20 = 6) := h32
        show w_W _ _ _ (24, [(2, .int (Int32.ofInt ((-1)))), (1, .int (Int32.ofInt ((I 2438)))), (0, .ref 38)], [], M17) _
        refine w_adv (n := 1) (F' := (25, [(2, .int (Int32.ofInt ((-1)))), (1, .int (Int32.ofInt ((I 2438)))), (0, .ref 38)], [.ref 38], M17)) rfl ?_
        refine w_gf (v := .int (Int32.ofInt (zk20))) hR18a rfl rfl rfl rfl ?_
        refine w_call (cm := 101) (as := [(0, .int (Int32.ofInt (zk20)))]) (rest := []) (o := none) rfl (trivial) (c_isFeature (zk20) hR18a ⟨by omega, by omega⟩) (fun r56 M57 q58 => ?_)
        rcases q58 with ⟨e59, e60, f61⟩ | ⟨e62, e63⟩
        · rw [e59, e60]
          replace f61 : ¬ zk20 = 0 := f61
          show w_W _ _ _ (31, [(2, .int (Int32.ofInt ((-1)))), (1, .int (Int32.ofInt ((I 2438)))), (0, .ref 38)], [.int (Int32.ofInt (1))], M17) _
          refine w_adv (n := 2) (F' := (35, [(2, .int (Int32.ofInt ((-1)))), (1, .int (Int32.ofInt ((I 2438)))), (0, .ref 38)], [.ref 38], M17)) rfl ?_
          refine w_gf (v := .ref 12) hR18a rfl rfl rfl rfl ?_
          refine w_adv (n := 1) (F' := (39, [(2, .int (Int32.ofInt ((-1)))), (1, .int (Int32.ofInt ((I 2438)))), (0, .ref 38)], [.ref 38, .ref 12], M17)) rfl ?_
          refine w_gf (v := .int (Int32.ofInt ((I 2436) + 1 + 1))) hR18a rfl rfl rfl rfl ?_
          obtain ⟨r64, r65⟩ : -2147483648 ≤ (I 2436) + 1 + 1 ∧ (I 2436) + 1 + 1 ≤ 2147483647 := hR18a.ri 2436
          refine w_adv (n := 1) (F' := (43, [(2, .int (Int32.ofInt ((-1)))), (1, .int (Int32.ofInt ((I 2438)))), (0, .ref 38)], [.int (Int32.ofInt (1)), .int (Int32.ofInt ((I 2436) + 1 + 1)), .ref 12], M17)) rfl ?_
          refine w_add rfl ?_
          refine w_call (cm := 86) (as := [(0, .ref 12), (1, .int (Int32.ofInt (((I 2436) + 1 + 1) + 1)))]) (rest := []) (o := some (7, 12)) rfl (w_fitR hR18a rfl) (c_Tokens_kind2 (((I 2436) + 1 + 1) + 1) hR18a ⟨by omega, by omega⟩) (fun r66 M67 q68 => ?_)
          rcases q68 with ⟨v69, e70, ⟨r71, r72⟩, e73, f74⟩
          rw [e70, e73]
          replace f74 : ((I 2436) + 1 + 1) + 1 < (I 773) ∨ v69 = 0 := f74
          show w_W _ _ _ (47, [(2, .int (Int32.ofInt ((-1)))), (1, .int (Int32.ofInt ((I 2438)))), (0, .ref 38)], [.int (Int32.ofInt (v69))], M17) _
          refine w_adv (n := 1) (F' := (49, [(2, .int (Int32.ofInt ((-1)))), (1, .int (Int32.ofInt ((I 2438)))), (0, .ref 38)], [.int (Int32.ofInt (11)), .int (Int32.ofInt (v69))], M17)) rfl ?_
          refine w_br2 (a := v69) (b := 11) rfl rfl ⟨by omega, by omega⟩ ⟨by omega, by omega⟩ (fun h75 => ?_) (fun h75 => ?_)
          · have h75 : ¬ v69 = 11 := h75
            show w_W _ _ _ (59, [(2, .int (Int32.ofInt ((-1)))), (1, .int (Int32.ofInt ((I 2438)))), (0, .ref 38)], [], M17) _
            refine w_adv (n := 1) (F' := (60, [(2, .int (Int32.ofInt ((-1)))), (1, .int (Int32.ofInt ((I 2438)))), (0, .ref 38)], [.ref 38], M17)) rfl ?_
            refine w_call (cm := 107) (as := [(0, .ref 38)]) (rest := []) (o := some (4, 38)) rfl (w_fitR hR18a rfl) (c_fields (c_ALL_dn hA) hR18a (show 10 * (24 - ((I 2439) + 1)) + 14 ≤ (d : Int) by omega) (show l ≤ 7000000 by first | assumption | omega) (show (0 ≤ (I 2436) + 1 + 1 ∧ (I 2436) + 1 + 1 ≤ (I 773) ∧ (I 773) ≤ 1501 ∧ (zk20 = 0 ∨ (I 2436) + 1 + 1 < (I 773))) ∧ (0 ≤ (I 2439) + 1 ∧ (I 2439) + 1 ≤ 24 ∧ 0 ≤ (I 2117)) ∧ 0 ≤ (I 1670) ∧ (I 1670) ≤ 2 * ((I 2436) + 1 + 1) + 1 by (repeat' apply And.intro) <;> first | assumption | omega)) (fun r76 M77 q78 => ?_)
            rcases q78 with ⟨v79, I78a, A78a, B78a, C78a, e80, ⟨r81, r82⟩, hR78a, f83, f84, f85, f86, f87⟩ | ⟨t88, I78b, A78b, B78b, C78b, e89, hR78b, f90, f91, f92⟩
            · rw [e80]
              replace hR78a : w_Rep w_TC fr X u l I78a A78a B78a C78a M77 := hR78a
              replace f83 : c_fi c_ps (w_up (w_up (w_up (w_up (w_up I 2436 ((I 2436) + 1 + 1)) 2441 (zt19)) 2437 (zk20)) 2438 (zv21)) 2439 ((I 2439) + 1)) I78a := f83
              replace f84 : c_fa c_pa A A78a := f84
              replace f85 : (0 ≤ (I78a 2436) ∧ (I78a 2436) ≤ (I78a 773) ∧ ((I78a 2437) = 0 ∨ (I78a 2436) < (I78a 773))) ∧ ((I78a 773) = (I 773) ∧ (I78a 2439) = (I 2439) + 1 ∧ 0 ≤ (I78a 2117)) ∧ ((I 2436) + 1 + 1) + 0 ≤ (I78a 2436) ∧ (I78a 1670) + 0 ≤ (I 1670) + 2 * ((I78a 2436) - ((I 2436) + 1 + 1)) ∧ (I 1670) ≤ (I78a 1670) := f85
              obtain ⟨⟨n93, n94, n95⟩, ⟨n96, n97, n98⟩, n99, n100, n101⟩ := id f85
              clear f85
              replace f86 : c_agl A A78a (I 1670) := f86
              replace f87 : c_Ch (A78a 31) (c_P1 A78a (c_r ((I 2439) + 1) 4)) v79 (I 1670) (I78a 1670) := f87
              have g102 : c_agl A A78a (I 1670) := c_agl_trans c_agl_refl f86 (show (I 1670) ≤ (I 1670) by omega)
              have k103 : c_Ch (A78a 31) (c_P1 A78a (c_r (I 2439) 0)) v79 (I 1670) (I78a 1670) := by rw [show (c_r (I 2439) 0) = (c_r ((I 2439) + 1) 4) from by unfold c_r; omega]; exact f87
              show w_W _ _ _ (63, [(2, .int (Int32.ofInt ((-1)))), (1, .int (Int32.ofInt ((I 2438)))), (0, .ref 38)], [.int (Int32.ofInt (v79))], M77) _
              refine w_adv (n := 3) (F' := (67, [(2, .int (Int32.ofInt (v79))), (1, .int (Int32.ofInt ((I 2438)))), (0, .ref 38)], [.int (Int32.ofInt (6)), .ref 38], M77)) rfl ?_
              refine w_call (cm := 113) (as := [(0, .ref 38), (1, .int (Int32.ofInt (6)))]) (rest := []) (o := some (4, 38)) rfl (w_fitR hR78a rfl) (c_close (6) hR78a (show 4 ≤ d by omega) ⟨by omega, by omega⟩ (show l ≤ 7000000 by first | assumption | omega) (show -1 ≤ (I78a 2436) ∧ ((I78a 2437) = 0 ∨ (I78a 2436) < (I78a 773)) ∧ (I78a 773) ≤ 1501 ∧ 1 ≤ 6 by first | assumption | omega) (show 0 ≤ (I78a 2439) ∧ (I78a 2439) ≤ 24 by first | assumption | omega)) (fun r104 M105 q106 => ?_)
              rcases q106 with ⟨zt107, zk108, zv109, e110, hR106a, f111, f112⟩ | ⟨t113, I106b, A106b, B106b, C106b, e114, hR106b, f115, f116, f117⟩
              · rw [e110]
                replace hR106a : w_Rep w_TC fr X u l (w_up (w_up (w_up (w_up (w_up I78a 2436 ((I78a 2436) + 1)) 2441 (zt107)) 2437 (zk108)) 2438 (zv109)) 2439 ((I78a 2439) - 1)) A78a B78a C78a M105 := hR106a
                replace f111 : ((I78a 2436) + 1 < (I78a 773) ∨ zk108 = 0) := f111
                replace f112 : (I78a 2437) = 6 := f112
                show w_W _ _ _ (70, [(2, .int (Int32.ofInt (v79))), (1, .int (Int32.ofInt ((I 2438)))), (0, .ref 38)], [], M105) _
                refine w_adv (n := 2) (F' := (72, [(2, .int (Int32.ofInt (v79))), (1, .int (Int32.ofInt ((I 2438)))), (0, .ref 38)], [.int (Int32.ofInt ((-1))), .int (Int32.ofInt (v79))], M105)) rfl ?_
                refine w_br2 (a := v79) (b := (-1)) rfl rfl ⟨by omega, by omega⟩ ⟨by omega, by omega⟩ (fun h118 => ?_) (fun h118 => ?_)
                · have h118 : ¬ v79 = (-1) := h118
                  show w_W _ _ _ (89, [(2, .int (Int32.ofInt (v79))), (1, .int (Int32.ofInt ((I 2438)))), (0, .ref 38)], [], M105) _
                  refine w_adv (n := 1) (F' := (90, [(2, .int (Int32.ofInt (v79))), (1, .int (Int32.ofInt ((I 2438)))), (0, .ref 38)], [.ref 38], M105)) rfl ?_
                  refine w_gf (v := .ref 26) hR106a rfl rfl rfl rfl ?_
                  refine w_adv (n := 4) (F' := (97, [(2, .int (Int32.ofInt (v79))), (1, .int (Int32.ofInt ((I 2438)))), (0, .ref 38)], [.int (Int32.ofInt ((-1))), .int (Int32.ofInt (v79)), .int (Int32.ofInt ((I 2438))), .int (Int32.ofInt (5)), .ref 26], M105)) rfl ?_
                  refine w_call (cm := 94) (as := [(0, .ref 26), (1, .int (Int32.ofInt (5))), (2, .int (Int32.ofInt ((I 2438)))), (3, .int (Int32.ofInt (v79))), (4, .int (Int32.ofInt ((-1))))]) (rest := []) (o := some (8, 26)) rfl (w_fitR hR106a rfl) (c_mkn (5) ((I 2438)) (v79) ((-1)) hR106a (show 2 ≤ d by omega) ⟨by omega, by omega⟩ ⟨by omega, by omega⟩ ⟨by omega, by omega⟩ ⟨by omega, by omega⟩ (show 0 ≤ (I78a 1670) ∧ (I78a 1670) < 3016 by first | assumption | omega)) (fun r119 M120 q121 => ?_)
                  rcases q121 with ⟨A122, e123, hR121a, f124, f125⟩
                  rw [e123]
                  replace hR121a : w_Rep w_TC fr X u l (w_up (w_up (w_up (w_up (w_up (w_up I78a 2436 ((I78a 2436) + 1)) 2441 (zt107)) 2437 (zk108)) 2438 (zv109)) 2439 ((I78a 2439) - 1)) 1670 ((I78a 1670) + 1)) A122 B78a C78a M120 := hR121a
                  replace f124 : c_fa c_pa A78a A122 := f124
                  replace f125 : c_mk A78a A122 (I78a 1670) 5 (I 2438) v79 (-1) := f125
                  have k126 : c_Wn A122 (c_r (I 2439) 1) (I78a 1670) (I 1670) ((I78a 1670) + 1) := c_Wn_up ⟨c_W_5 f125 (show 0 ≤ (I 1670) by omega) (c_Ch_wide (fun _ _ => c_P1_win) k103 (show (I 1670) ≤ (I 1670) by omega) (show (I78a 1670) ≤ (I78a 1670) by omega)), f125.2.2.2.2.2⟩ (show (c_r (I 2439) 0) + 1 ≤ (c_r (I 2439) 1) by unfold c_r; omega)
                  have g127 : c_agl A A122 (I 1670) := c_agl_trans g102 f125.1 (show (I 1670) ≤ (I78a 1670) by omega)
                  show w_W _ _ _ (100, [(2, .int (Int32.ofInt (v79))), (1, .int (Int32.ofInt ((I 2438)))), (0, .ref 38)], [.int (Int32.ofInt ((I78a 1670)))], M120) _
                  refine w_fin (r := .inl (some ((I78a 1670)))) (M' := M120) rfl ?_
                  exact Or.inl ⟨(I78a 1670), (w_up (w_up (w_up (w_up (w_up (w_up I78a 2436 ((I78a 2436) + 1)) 2441 (zt107)) 2437 (zk108)) 2438 (zv109)) 2439 ((I78a 2439) - 1)) 1670 ((I78a 1670) + 1)), A122, B78a, C78a, rfl, ⟨by omega, by omega⟩, hR121a, (show c_fi c_ps I (w_up (w_up (w_up (w_up (w_up (w_up I78a 2436 ((I78a 2436) + 1)) 2441 (zt107)) 2437 (zk108)) 2438 (zv109)) 2439 ((I78a 2439) - 1)) 1670 ((I78a 1670) + 1)) by exact (c_fi_up (c_fi_up (c_fi_up (c_fi_up (c_fi_up (c_fi_up (c_fi_trans (c_fi_up (c_fi_up (c_fi_up (c_fi_up (c_fi_up c_fi_refl rfl) rfl) rfl) rfl) rfl) f83) rfl) rfl) rfl) rfl) rfl) rfl)), (show c_fa c_pa A A122 by exact (c_fa_trans f84 f124)), (show (0 ≤ (I78a 2436) + 1 ∧ (I78a 2436) + 1 ≤ (I78a 773) ∧ (zk108 = 0 ∨ (I78a 2436) + 1 < (I78a 773))) ∧ ((I78a 773) = (I 773) ∧ (I78a 2439) - 1 = (I 2439) ∧ 0 ≤ (I78a 2117)) ∧ (I 2436) + 1 ≤ (I78a 2436) + 1 ∧ ((I78a 1670) + 1) + 1 ≤ (I 1670) + 2 * (((I78a 2436) + 1) - (I 2436)) ∧ (I 1670) ≤ (I78a 1670) + 1 by (repeat' apply And.intro) <;> first | assumption | omega), (show c_agl A A122 (I 1670) by exact g127), (show c_Wn A122 (c_r (I 2439) 1) (I78a 1670) (I 1670) ((I78a 1670) + 1) by exact c_Wn_win (c_Wn_up k126 (show c_r (I 2439) 1 ≤ c_r (I 2439) 1 by unfold c_r; omega)) (show (I 1670) ≤ (I 1670) by omega) (show ((I78a 1670) + 1) ≤ ((I78a 1670) + 1) by omega))⟩
                · have h118 : ¬ (¬ v79 = (-1)) := h118
                  show w_W _ _ _ (75, [(2, .int (Int32.ofInt (v79))), (1, .int (Int32.ofInt ((I 2438)))), (0, .ref 38)], [], M105) _
                  refine w_adv (n := 1) (F' := (76, [(2, .int (Int32.ofInt (v79))), (1, .int (Int32.ofInt ((I 2438)))), (0, .ref 38)], [.ref 38], M105)) rfl ?_
                  refine w_gf (v := .ref 26) hR106a rfl rfl rfl rfl ?_
                  refine w_adv (n := 4) (F' := (83, [(2, .int (Int32.ofInt (v79))), (1, .int (Int32.ofInt ((I 2438)))), (0, .ref 38)], [.int (Int32.ofInt ((-1))), .int (Int32.ofInt ((-1))), .int (Int32.ofInt ((I 2438))), .int (Int32.ofInt (4)), .ref 26], M105)) rfl ?_
                  refine w_call (cm := 94) (as := [(0, .ref 26), (1, .int (Int32.ofInt (4))), (2, .int (Int32.ofInt ((I 2438)))), (3, .int (Int32.ofInt ((-1)))), (4, .int (Int32.ofInt ((-1))))]) (rest := []) (o := some (8, 26)) rfl (w_fitR hR106a rfl) (c_mkn (4) ((I 2438)) ((-1)) ((-1)) hR106a (show 2 ≤ d by omega) ⟨by omega, by omega⟩ ⟨by omega, by omega⟩ ⟨by omega, by omega⟩ ⟨by omega, by omega⟩ (show 0 ≤ (I78a 1670) ∧ (I78a 1670) < 3016 by first | assumption | omega)) (fun r128 M129 q130 => ?_)
                  rcases q130 with ⟨A131, e132, hR130a, f133, f134⟩
                  rw [e132]
                  replace hR130a : w_Rep w_TC fr X u l (w_up (w_up (w_up (w_up (w_up (w_up I78a 2436 ((I78a 2436) + 1)) 2441 (zt107)) 2437 (zk108)) 2438 (zv109)) 2439 ((I78a 2439) - 1)) 1670 ((I78a 1670) + 1)) A131 B78a C78a M129 := hR130a
                  replace f133 : c_fa c_pa A78a A131 := f133
                  replace f134 : c_mk A78a A131 (I78a 1670) 4 (I 2438) (-1) (-1) := f134
                  have k135 : c_Wn A131 (c_r (I 2439) 1) (I78a 1670) (I 1670) ((I78a 1670) + 1) := c_Wn_up ⟨c_W_leaf f134 (by omega) (show (I 1670) ≤ (I78a 1670) by omega), f134.2.2.2.2.2⟩ (show 1 ≤ (c_r (I 2439) 1) by unfold c_r; omega)
                  have k136 : c_Ch (A131 31) (c_P1 A131 (c_r (I 2439) 0)) v79 (I 1670) (I78a 1670) := c_Ch_agl c_P1_fam k103 f134.1 (show 0 ≤ (I 1670) by omega) (show (I78a 1670) ≤ (I78a 1670) by omega)
                  clear k103
                  have g137 : c_agl A A131 (I 1670) := c_agl_trans g102 f134.1 (show (I 1670) ≤ (I78a 1670) by omega)
                  show w_W _ _ _ (86, [(2, .int (Int32.ofInt (v79))), (1, .int (Int32.ofInt ((I 2438)))), (0, .ref 38)], [.int (Int32.ofInt ((I78a 1670)))], M129) _
                  refine w_adv (n := 1) (F' := (100, [(2, .int (Int32.ofInt (v79))), (1, .int (Int32.ofInt ((I 2438)))), (0, .ref 38)], [.int (Int32.ofInt ((I78a 1670)))], M129)) rfl ?_
                  refine w_fin (r := .inl (some ((I78a 1670)))) (M' := M129) rfl ?_
                  exact Or.inl ⟨(I78a 1670), (w_up (w_up (w_up (w_up (w_up (w_up I78a 2436 ((I78a 2436) + 1)) 2441 (zt107)) 2437 (zk108)) 2438 (zv109)) 2439 ((I78a 2439) - 1)) 1670 ((I78a 1670) + 1)), A131, B78a, C78a, rfl, ⟨by omega, by omega⟩, hR130a, (show c_fi c_ps I (w_up (w_up (w_up (w_up (w_up (w_up I78a 2436 ((I78a 2436) + 1)) 2441 (zt107)) 2437 (zk108)) 2438 (zv109)) 2439 ((I78a 2439) - 1)) 1670 ((I78a 1670) + 1)) by exact (c_fi_up (c_fi_up (c_fi_up (c_fi_up (c_fi_up (c_fi_up (c_fi_trans (c_fi_up (c_fi_up (c_fi_up (c_fi_up (c_fi_up c_fi_refl rfl) rfl) rfl) rfl) rfl) f83) rfl) rfl) rfl) rfl) rfl) rfl)), (show c_fa c_pa A A131 by exact (c_fa_trans f84 f133)), (show (0 ≤ (I78a 2436) + 1 ∧ (I78a 2436) + 1 ≤ (I78a 773) ∧ (zk108 = 0 ∨ (I78a 2436) + 1 < (I78a 773))) ∧ ((I78a 773) = (I 773) ∧ (I78a 2439) - 1 = (I 2439) ∧ 0 ≤ (I78a 2117)) ∧ (I 2436) + 1 ≤ (I78a 2436) + 1 ∧ ((I78a 1670) + 1) + 1 ≤ (I 1670) + 2 * (((I78a 2436) + 1) - (I 2436)) ∧ (I 1670) ≤ (I78a 1670) + 1 by (repeat' apply And.intro) <;> first | assumption | omega), (show c_agl A A131 (I 1670) by exact g137), (show c_Wn A131 (c_r (I 2439) 1) (I78a 1670) (I 1670) ((I78a 1670) + 1) by exact c_Wn_win (c_Wn_up k135 (show c_r (I 2439) 1 ≤ c_r (I 2439) 1 by unfold c_r; omega)) (show (I 1670) ≤ (I 1670) by omega) (show ((I78a 1670) + 1) ≤ ((I78a 1670) + 1) by omega))⟩
              · rw [e114]
                replace hR106b : w_Rep w_TC fr X (u + 6) (l + 64) I106b A106b B106b C106b M105 := hR106b
                replace f115 : c_fi c_ps I78a I106b := f115
                replace f116 : c_fa c_pa A78a A106b := f116
                replace f117 : M105.1[t113]? = some (.inr (11, [])) := f117
                exact Or.inr (⟨t113, I106b, A106b, B106b, C106b, rfl, hR106b, (show c_fi c_ps I I106b by exact (c_fi_trans (c_fi_trans (c_fi_up (c_fi_up (c_fi_up (c_fi_up (c_fi_up c_fi_refl rfl) rfl) rfl) rfl) rfl) f83) f115)), (show c_fa c_pa A A106b by exact (c_fa_trans f84 f116)), (show M105.1[t113]? = some (.inr (11, [])) by exact f117)⟩)
            · rw [e89]
              replace hR78b : w_Rep w_TC fr X (u + 6) (l + 64) I78b A78b B78b C78b M77 := hR78b
              replace f90 : c_fi c_ps (w_up (w_up (w_up (w_up (w_up I 2436 ((I 2436) + 1 + 1)) 2441 (zt19)) 2437 (zk20)) 2438 (zv21)) 2439 ((I 2439) + 1)) I78b := f90
              replace f91 : c_fa c_pa A A78b := f91
              replace f92 : M77.1[t88]? = some (.inr (11, [])) := f92
              exact Or.inr (⟨t88, I78b, A78b, B78b, C78b, rfl, hR78b, (show c_fi c_ps I I78b by exact (c_fi_trans (c_fi_up (c_fi_up (c_fi_up (c_fi_up (c_fi_up c_fi_refl rfl) rfl) rfl) rfl) rfl) f90)), (show c_fa c_pa A A78b by exact f91), (show M77.1[t88]? = some (.inr (11, [])) by exact f92)⟩)
          · have h75 : ¬ (¬ v69 = 11) := h75
            show w_W _ _ _ (52, [(2, .int (Int32.ofInt ((-1)))), (1, .int (Int32.ofInt ((I 2438)))), (0, .ref 38)], [], M17) _
            refine w_adv (n := 1) (F' := (53, [(2, .int (Int32.ofInt ((-1)))), (1, .int (Int32.ofInt ((I 2438)))), (0, .ref 38)], [.ref 38], M17)) rfl ?_
            refine w_call (cm := 102) (as := [(0, .ref 38)]) (rest := []) (o := some (4, 38)) rfl (w_fitR hR18a rfl) (c_featuredFields (c_ALL_dn hA) hR18a (show 10 * (24 - ((I 2439) + 1)) + 14 ≤ (d : Int) by omega) (show l ≤ 7000000 by first | assumption | omega) (show (0 ≤ (I 2436) + 1 + 1 ∧ (I 2436) + 1 + 1 ≤ (I 773) ∧ (I 773) ≤ 1501 ∧ (zk20 = 0 ∨ (I 2436) + 1 + 1 < (I 773))) ∧ (0 ≤ (I 2439) + 1 ∧ (I 2439) + 1 ≤ 24 ∧ 0 ≤ (I 2117)) ∧ 0 ≤ (I 1670) ∧ (I 1670) ≤ 2 * ((I 2436) + 1 + 1) + 1 by (repeat' apply And.intro) <;> first | assumption | omega)) (fun r138 M139 q140 => ?_)
            rcases q140 with ⟨v141, I140a, A140a, B140a, C140a, e142, ⟨r143, r144⟩, hR140a, f145, f146, f147, f148, f149⟩ | ⟨t150, I140b, A140b, B140b, C140b, e151, hR140b, f152, f153, f154⟩
            · rw [e142]
              replace hR140a : w_Rep w_TC fr X u l I140a A140a B140a C140a M139 := hR140a
              replace f145 : c_fi c_ps (w_up (w_up (w_up (w_up (w_up I 2436 ((I 2436) + 1 + 1)) 2441 (zt19)) 2437 (zk20)) 2438 (zv21)) 2439 ((I 2439) + 1)) I140a := f145
              replace f146 : c_fa c_pa A A140a := f146
              replace f147 : (0 ≤ (I140a 2436) ∧ (I140a 2436) ≤ (I140a 773) ∧ ((I140a 2437) = 0 ∨ (I140a 2436) < (I140a 773))) ∧ ((I140a 773) = (I 773) ∧ (I140a 2439) = (I 2439) + 1 ∧ 0 ≤ (I140a 2117)) ∧ ((I 2436) + 1 + 1) + 0 ≤ (I140a 2436) ∧ (I140a 1670) + 0 ≤ (I 1670) + 2 * ((I140a 2436) - ((I 2436) + 1 + 1)) ∧ (I 1670) ≤ (I140a 1670) := f147
              obtain ⟨⟨n155, n156, n157⟩, ⟨n158, n159, n160⟩, n161, n162, n163⟩ := id f147
              clear f147
              replace f148 : c_agl A A140a (I 1670) := f148
              replace f149 : c_Ch (A140a 31) (c_P1 A140a (c_r ((I 2439) + 1) 4)) v141 (I 1670) (I140a 1670) := f149
              have g164 : c_agl A A140a (I 1670) := c_agl_trans c_agl_refl f148 (show (I 1670) ≤ (I 1670) by omega)
              have k165 : c_Ch (A140a 31) (c_P1 A140a (c_r (I 2439) 0)) v141 (I 1670) (I140a 1670) := by rw [show (c_r (I 2439) 0) = (c_r ((I 2439) + 1) 4) from by unfold c_r; omega]; exact f149
              show w_W _ _ _ (56, [(2, .int (Int32.ofInt ((-1)))), (1, .int (Int32.ofInt ((I 2438)))), (0, .ref 38)], [.int (Int32.ofInt (v141))], M139) _
              refine w_adv (n := 4) (F' := (67, [(2, .int (Int32.ofInt (v141))), (1, .int (Int32.ofInt ((I 2438)))), (0, .ref 38)], [.int (Int32.ofInt (6)), .ref 38], M139)) rfl ?_
              refine w_call (cm := 113) (as := [(0, .ref 38), (1, .int (Int32.ofInt (6)))]) (rest := []) (o := some (4, 38)) rfl (w_fitR hR140a rfl) (c_close (6) hR140a (show 4 ≤ d by omega) ⟨by omega, by omega⟩ (show l ≤ 7000000 by first | assumption | omega) (show -1 ≤ (I140a 2436) ∧ ((I140a 2437) = 0 ∨ (I140a 2436) < (I140a 773)) ∧ (I140a 773) ≤ 1501 ∧ 1 ≤ 6 by first | assumption | omega) (show 0 ≤ (I140a 2439) ∧ (I140a 2439) ≤ 24 by first | assumption | omega)) (fun r166 M167 q168 => ?_)
              rcases q168 with ⟨zt169, zk170, zv171, e172, hR168a, f173, f174⟩ | ⟨t175, I168b, A168b, B168b, C168b, e176, hR168b, f177, f178, f179⟩
              · rw [e172]
                replace hR168a : w_Rep w_TC fr X u l (w_up (w_up (w_up (w_up (w_up I140a 2436 ((I140a 2436) + 1)) 2441 (zt169)) 2437 (zk170)) 2438 (zv171)) 2439 ((I140a 2439) - 1)) A140a B140a C140a M167 := hR168a
                replace f173 : ((I140a 2436) + 1 < (I140a 773) ∨ zk170 = 0) := f173
                replace f174 : (I140a 2437) = 6 := f174
                show w_W _ _ _ (70, [(2, .int (Int32.ofInt (v141))), (1, .int (Int32.ofInt ((I 2438)))), (0, .ref 38)], [], M167) _
                refine w_adv (n := 2) (F' := (72, [(2, .int (Int32.ofInt (v141))), (1, .int (Int32.ofInt ((I 2438)))), (0, .ref 38)], [.int (Int32.ofInt ((-1))), .int (Int32.ofInt (v141))], M167)) rfl ?_
                refine w_br2 (a := v141) (b := (-1)) rfl rfl ⟨by omega, by omega⟩ ⟨by omega, by omega⟩ (fun h180 => ?_) (fun h180 => ?_)
                · have h180 : ¬ v141 = (-1) := h180
                  show w_W _ _ _ (89, [(2, .int (Int32.ofInt (v141))), (1, .int (Int32.ofInt ((I 2438)))), (0, .ref 38)], [], M167) _
                  refine w_adv (n := 1) (F' := (90, [(2, .int (Int32.ofInt (v141))), (1, .int (Int32.ofInt ((I 2438)))), (0, .ref 38)], [.ref 38], M167)) rfl ?_
                  refine w_gf (v := .ref 26) hR168a rfl rfl rfl rfl ?_
                  refine w_adv (n := 4) (F' := (97, [(2, .int (Int32.ofInt (v141))), (1, .int (Int32.ofInt ((I 2438)))), (0, .ref 38)], [.int (Int32.ofInt ((-1))), .int (Int32.ofInt (v141)), .int (Int32.ofInt ((I 2438))), .int (Int32.ofInt (5)), .ref 26], M167)) rfl ?_
                  refine w_call (cm := 94) (as := [(0, .ref 26), (1, .int (Int32.ofInt (5))), (2, .int (Int32.ofInt ((I 2438)))), (3, .int (Int32.ofInt (v141))), (4, .int (Int32.ofInt ((-1))))]) (rest := []) (o := some (8, 26)) rfl (w_fitR hR168a rfl) (c_mkn (5) ((I 2438)) (v141) ((-1)) hR168a (show 2 ≤ d by omega) ⟨by omega, by omega⟩ ⟨by omega, by omega⟩ ⟨by omega, by omega⟩ ⟨by omega, by omega⟩ (show 0 ≤ (I140a 1670) ∧ (I140a 1670) < 3016 by first | assumption | omega)) (fun r181 M182 q183 => ?_)
                  rcases q183 with ⟨A184, e185, hR183a, f186, f187⟩
                  rw [e185]
                  replace hR183a : w_Rep w_TC fr X u l (w_up (w_up (w_up (w_up (w_up (w_up I140a 2436 ((I140a 2436) + 1)) 2441 (zt169)) 2437 (zk170)) 2438 (zv171)) 2439 ((I140a 2439) - 1)) 1670 ((I140a 1670) + 1)) A184 B140a C140a M182 := hR183a
                  replace f186 : c_fa c_pa A140a A184 := f186
                  replace f187 : c_mk A140a A184 (I140a 1670) 5 (I 2438) v141 (-1) := f187
                  have k188 : c_Wn A184 (c_r (I 2439) 1) (I140a 1670) (I 1670) ((I140a 1670) + 1) := c_Wn_up ⟨c_W_5 f187 (show 0 ≤ (I 1670) by omega) (c_Ch_wide (fun _ _ => c_P1_win) k165 (show (I 1670) ≤ (I 1670) by omega) (show (I140a 1670) ≤ (I140a 1670) by omega)), f187.2.2.2.2.2⟩ (show (c_r (I 2439) 0) + 1 ≤ (c_r (I 2439) 1) by unfold c_r; omega)
                  have g189 : c_agl A A184 (I 1670) := c_agl_trans g164 f187.1 (show (I 1670) ≤ (I140a 1670) by omega)
                  show w_W _ _ _ (100, [(2, .int (Int32.ofInt (v141))), (1, .int (Int32.ofInt ((I 2438)))), (0, .ref 38)], [.int (Int32.ofInt ((I140a 1670)))], M182) _
                  refine w_fin (r := .inl (some ((I140a 1670)))) (M' := M182) rfl ?_
                  exact Or.inl ⟨(I140a 1670), (w_up (w_up (w_up (w_up (w_up (w_up I140a 2436 ((I140a 2436) + 1)) 2441 (zt169)) 2437 (zk170)) 2438 (zv171)) 2439 ((I140a 2439) - 1)) 1670 ((I140a 1670) + 1)), A184, B140a, C140a, rfl, ⟨by omega, by omega⟩, hR183a, (show c_fi c_ps I (w_up (w_up (w_up (w_up (w_up (w_up I140a 2436 ((I140a 2436) + 1)) 2441 (zt169)) 2437 (zk170)) 2438 (zv171)) 2439 ((I140a 2439) - 1)) 1670 ((I140a 1670) + 1)) by exact (c_fi_up (c_fi_up (c_fi_up (c_fi_up (c_fi_up (c_fi_up (c_fi_trans (c_fi_up (c_fi_up (c_fi_up (c_fi_up (c_fi_up c_fi_refl rfl) rfl) rfl) rfl) rfl) f145) rfl) rfl) rfl) rfl) rfl) rfl)), (show c_fa c_pa A A184 by exact (c_fa_trans f146 f186)), (show (0 ≤ (I140a 2436) + 1 ∧ (I140a 2436) + 1 ≤ (I140a 773) ∧ (zk170 = 0 ∨ (I140a 2436) + 1 < (I140a 773))) ∧ ((I140a 773) = (I 773) ∧ (I140a 2439) - 1 = (I 2439) ∧ 0 ≤ (I140a 2117)) ∧ (I 2436) + 1 ≤ (I140a 2436) + 1 ∧ ((I140a 1670) + 1) + 1 ≤ (I 1670) + 2 * (((I140a 2436) + 1) - (I 2436)) ∧ (I 1670) ≤ (I140a 1670) + 1 by (repeat' apply And.intro) <;> first | assumption | omega), (show c_agl A A184 (I 1670) by exact g189), (show c_Wn A184 (c_r (I 2439) 1) (I140a 1670) (I 1670) ((I140a 1670) + 1) by exact c_Wn_win (c_Wn_up k188 (show c_r (I 2439) 1 ≤ c_r (I 2439) 1 by unfold c_r; omega)) (show (I 1670) ≤ (I 1670) by omega) (show ((I140a 1670) + 1) ≤ ((I140a 1670) + 1) by omega))⟩
                · have h180 : ¬ (¬ v141 = (-1)) := h180
                  show w_W _ _ _ (75, [(2, .int (Int32.ofInt (v141))), (1, .int (Int32.ofInt ((I 2438)))), (0, .ref 38)], [], M167) _
                  refine w_adv (n := 1) (F' := (76, [(2, .int (Int32.ofInt (v141))), (1, .int (Int32.ofInt ((I 2438)))), (0, .ref 38)], [.ref 38], M167)) rfl ?_
                  refine w_gf (v := .ref 26) hR168a rfl rfl rfl rfl ?_
                  refine w_adv (n := 4) (F' := (83, [(2, .int (Int32.ofInt (v141))), (1, .int (Int32.ofInt ((I 2438)))), (0, .ref 38)], [.int (Int32.ofInt ((-1))), .int (Int32.ofInt ((-1))), .int (Int32.ofInt ((I 2438))), .int (Int32.ofInt (4)), .ref 26], M167)) rfl ?_
                  refine w_call (cm := 94) (as := [(0, .ref 26), (1, .int (Int32.ofInt (4))), (2, .int (Int32.ofInt ((I 2438)))), (3, .int (Int32.ofInt ((-1)))), (4, .int (Int32.ofInt ((-1))))]) (rest := []) (o := some (8, 26)) rfl (w_fitR hR168a rfl) (c_mkn (4) ((I 2438)) ((-1)) ((-1)) hR168a (show 2 ≤ d by omega) ⟨by omega, by omega⟩ ⟨by omega, by omega⟩ ⟨by omega, by omega⟩ ⟨by omega, by omega⟩ (show 0 ≤ (I140a 1670) ∧ (I140a 1670) < 3016 by first | assumption | omega)) (fun r190 M191 q192 => ?_)
                  rcases q192 with ⟨A193, e194, hR192a, f195, f196⟩
                  rw [e194]
                  replace hR192a : w_Rep w_TC fr X u l (w_up (w_up (w_up (w_up (w_up (w_up I140a 2436 ((I140a 2436) + 1)) 2441 (zt169)) 2437 (zk170)) 2438 (zv171)) 2439 ((I140a 2439) - 1)) 1670 ((I140a 1670) + 1)) A193 B140a C140a M191 := hR192a
                  replace f195 : c_fa c_pa A140a A193 := f195
                  replace f196 : c_mk A140a A193 (I140a 1670) 4 (I 2438) (-1) (-1) := f196
                  have k197 : c_Wn A193 (c_r (I 2439) 1) (I140a 1670) (I 1670) ((I140a 1670) + 1) := c_Wn_up ⟨c_W_leaf f196 (by omega) (show (I 1670) ≤ (I140a 1670) by omega), f196.2.2.2.2.2⟩ (show 1 ≤ (c_r (I 2439) 1) by unfold c_r; omega)
                  have k198 : c_Ch (A193 31) (c_P1 A193 (c_r (I 2439) 0)) v141 (I 1670) (I140a 1670) := c_Ch_agl c_P1_fam k165 f196.1 (show 0 ≤ (I 1670) by omega) (show (I140a 1670) ≤ (I140a 1670) by omega)
                  clear k165
                  have g199 : c_agl A A193 (I 1670) := c_agl_trans g164 f196.1 (show (I 1670) ≤ (I140a 1670) by omega)
                  show w_W _ _ _ (86, [(2, .int (Int32.ofInt (v141))), (1, .int (Int32.ofInt ((I 2438)))), (0, .ref 38)], [.int (Int32.ofInt ((I140a 1670)))], M191) _
                  refine w_adv (n := 1) (F' := (100, [(2, .int (Int32.ofInt (v141))), (1, .int (Int32.ofInt ((I 2438)))), (0, .ref 38)], [.int (Int32.ofInt ((I140a 1670)))], M191)) rfl ?_
                  refine w_fin (r := .inl (some ((I140a 1670)))) (M' := M191) rfl ?_
                  exact Or.inl ⟨(I140a 1670), (w_up (w_up (w_up (w_up (w_up (w_up I140a 2436 ((I140a 2436) + 1)) 2441 (zt169)) 2437 (zk170)) 2438 (zv171)) 2439 ((I140a 2439) - 1)) 1670 ((I140a 1670) + 1)), A193, B140a, C140a, rfl, ⟨by omega, by omega⟩, hR192a, (show c_fi c_ps I (w_up (w_up (w_up (w_up (w_up (w_up I140a 2436 ((I140a 2436) + 1)) 2441 (zt169)) 2437 (zk170)) 2438 (zv171)) 2439 ((I140a 2439) - 1)) 1670 ((I140a 1670) + 1)) by exact (c_fi_up (c_fi_up (c_fi_up (c_fi_up (c_fi_up (c_fi_up (c_fi_trans (c_fi_up (c_fi_up (c_fi_up (c_fi_up (c_fi_up c_fi_refl rfl) rfl) rfl) rfl) rfl) f145) rfl) rfl) rfl) rfl) rfl) rfl)), (show c_fa c_pa A A193 by exact (c_fa_trans f146 f195)), (show (0 ≤ (I140a 2436) + 1 ∧ (I140a 2436) + 1 ≤ (I140a 773) ∧ (zk170 = 0 ∨ (I140a 2436) + 1 < (I140a 773))) ∧ ((I140a 773) = (I 773) ∧ (I140a 2439) - 1 = (I 2439) ∧ 0 ≤ (I140a 2117)) ∧ (I 2436) + 1 ≤ (I140a 2436) + 1 ∧ ((I140a 1670) + 1) + 1 ≤ (I 1670) + 2 * (((I140a 2436) + 1) - (I 2436)) ∧ (I 1670) ≤ (I140a 1670) + 1 by (repeat' apply And.intro) <;> first | assumption | omega), (show c_agl A A193 (I 1670) by exact g199), (show c_Wn A193 (c_r (I 2439) 1) (I140a 1670) (I 1670) ((I140a 1670) + 1) by exact c_Wn_win (c_Wn_up k197 (show c_r (I 2439) 1 ≤ c_r (I 2439) 1 by unfold c_r; omega)) (show (I 1670) ≤ (I 1670) by omega) (show ((I140a 1670) + 1) ≤ ((I140a 1670) + 1) by omega))⟩
              · rw [e176]
                replace hR168b : w_Rep w_TC fr X (u + 6) (l + 64) I168b A168b B168b C168b M167 := hR168b
                replace f177 : c_fi c_ps I140a I168b := f177
                replace f178 : c_fa c_pa A140a A168b := f178
                replace f179 : M167.1[t175]? = some (.inr (11, [])) := f179
                exact Or.inr (⟨t175, I168b, A168b, B168b, C168b, rfl, hR168b, (show c_fi c_ps I I168b by exact (c_fi_trans (c_fi_trans (c_fi_up (c_fi_up (c_fi_up (c_fi_up (c_fi_up c_fi_refl rfl) rfl) rfl) rfl) rfl) f145) f177)), (show c_fa c_pa A A168b by exact (c_fa_trans f146 f178)), (show M167.1[t175]? = some (.inr (11, [])) by exact f179)⟩)
            · rw [e151]
              replace hR140b : w_Rep w_TC fr X (u + 6) (l + 64) I140b A140b B140b C140b M139 := hR140b
              replace f152 : c_fi c_ps (w_up (w_up (w_up (w_up (w_up I 2436 ((I 2436) + 1 + 1)) 2441 (zt19)) 2437 (zk20)) 2438 (zv21)) 2439 ((I 2439) + 1)) I140b := f152
              replace f153 : c_fa c_pa A A140b := f153
              replace f154 : M139.1[t150]? = some (.inr (11, [])) := f154
              exact Or.inr (⟨t150, I140b, A140b, B140b, C140b, rfl, hR140b, (show c_fi c_ps I I140b by exact (c_fi_trans (c_fi_up (c_fi_up (c_fi_up (c_fi_up (c_fi_up c_fi_refl rfl) rfl) rfl) rfl) rfl) f152)), (show c_fa c_pa A A140b by exact f153), (show M139.1[t150]? = some (.inr (11, [])) by exact f154)⟩)
        · rw [e62, e63]
          show w_W _ _ _ (31, [(2, .int (Int32.ofInt ((-1)))), (1, .int (Int32.ofInt ((I 2438)))), (0, .ref 38)], [.int (Int32.ofInt (0))], M17) _
          refine w_adv (n := 2) (F' := (60, [(2, .int (Int32.ofInt ((-1)))), (1, .int (Int32.ofInt ((I 2438)))), (0, .ref 38)], [.ref 38], M17)) rfl ?_
          refine w_call (cm := 107) (as := [(0, .ref 38)]) (rest := []) (o := some (4, 38)) rfl (w_fitR hR18a rfl) (c_fields (c_ALL_dn hA) hR18a (show 10 * (24 - ((I 2439) + 1)) + 14 ≤ (d : Int) by omega) (show l ≤ 7000000 by first | assumption | omega) (show (0 ≤ (I 2436) + 1 + 1 ∧ (I 2436) + 1 + 1 ≤ (I 773) ∧ (I 773) ≤ 1501 ∧ (zk20 = 0 ∨ (I 2436) + 1 + 1 < (I 773))) ∧ (0 ≤ (I 2439) + 1 ∧ (I 2439) + 1 ≤ 24 ∧ 0 ≤ (I 2117)) ∧ 0 ≤ (I 1670) ∧ (I 1670) ≤ 2 * ((I 2436) + 1 + 1) + 1 by (repeat' apply And.intro) <;> first | assumption | omega)) (fun r200 M201 q202 => ?_)
          rcases q202 with ⟨v203, I202a, A202a, B202a, C202a, e204, ⟨r205, r206⟩, hR202a, f207, f208, f209, f210, f211⟩ | ⟨t212, I202b, A202b, B202b, C202b, e213, hR202b, f214, f215, f216⟩
          · rw [e204]
            replace hR202a : w_Rep w_TC fr X u l I202a A202a B202a C202a M201 := hR202a
            replace f207 : c_fi c_ps (w_up (w_up (w_up (w_up (w_up I 2436 ((I 2436) + 1 + 1)) 2441 (zt19)) 2437 (zk20)) 2438 (zv21)) 2439 ((I 2439) + 1)) I202a := f207
            replace f208 : c_fa c_pa A A202a := f208
            replace f209 : (0 ≤ (I202a 2436) ∧ (I202a 2436) ≤ (I202a 773) ∧ ((I202a 2437) = 0 ∨ (I202a 2436) < (I202a 773))) ∧ ((I202a 773) = (I 773) ∧ (I202a 2439) = (I 2439) + 1 ∧ 0 ≤ (I202a 2117)) ∧ ((I 2436) + 1 + 1) + 0 ≤ (I202a 2436) ∧ (I202a 1670) + 0 ≤ (I 1670) + 2 * ((I202a 2436) - ((I 2436) + 1 + 1)) ∧ (I 1670) ≤ (I202a 1670) := f209
            obtain ⟨⟨n217, n218, n219⟩, ⟨n220, n221, n222⟩, n223, n224, n225⟩ := id f209
            clear f209
            replace f210 : c_agl A A202a (I 1670) := f210
            replace f211 : c_Ch (A202a 31) (c_P1 A202a (c_r ((I 2439) + 1) 4)) v203 (I 1670) (I202a 1670) := f211
            have g226 : c_agl A A202a (I 1670) := c_agl_trans c_agl_refl f210 (show (I 1670) ≤ (I 1670) by omega)
            have k227 : c_Ch (A202a 31) (c_P1 A202a (c_r (I 2439) 0)) v203 (I 1670) (I202a 1670) := by rw [show (c_r (I 2439) 0) = (c_r ((I 2439) + 1) 4) from by unfold c_r; omega]; exact f211
            show w_W _ _ _ (63, [(2, .int (Int32.ofInt ((-1)))), (1, .int (Int32.ofInt ((I 2438)))), (0, .ref 38)], [.int (Int32.ofInt (v203))], M201) _
            refine w_adv (n := 3) (F' := (67, [(2, .int (Int32.ofInt (v203))), (1, .int (Int32.ofInt ((I 2438)))), (0, .ref 38)], [.int (Int32.ofInt (6)), .ref 38], M201)) rfl ?_
            refine w_call (cm := 113) (as := [(0, .ref 38), (1, .int (Int32.ofInt (6)))]) (rest := []) (o := some (4, 38)) rfl (w_fitR hR202a rfl) (c_close (6) hR202a (show 4 ≤ d by omega) ⟨by omega, by omega⟩ (show l ≤ 7000000 by first | assumption | omega) (show -1 ≤ (I202a 2436) ∧ ((I202a 2437) = 0 ∨ (I202a 2436) < (I202a 773)) ∧ (I202a 773) ≤ 1501 ∧ 1 ≤ 6 by first | assumption | omega) (show 0 ≤ (I202a 2439) ∧ (I202a 2439) ≤ 24 by first | assumption | omega)) (fun r228 M229 q230 => ?_)
            rcases q230 with ⟨zt231, zk232, zv233, e234, hR230a, f235, f236⟩ | ⟨t237, I230b, A230b, B230b, C230b, e238, hR230b, f239, f240, f241⟩
            · rw [e234]
              replace hR230a : w_Rep w_TC fr X u l (w_up (w_up (w_up (w_up (w_up I202a 2436 ((I202a 2436) + 1)) 2441 (zt231)) 2437 (zk232)) 2438 (zv233)) 2439 ((I202a 2439) - 1)) A202a B202a C202a M229 := hR230a
              replace f235 : ((I202a 2436) + 1 < (I202a 773) ∨ zk232 = 0) := f235
              replace f236 : (I202a 2437) = 6 := f236
              show w_W _ _ _ (70, [(2, .int (Int32.ofInt (v203))), (1, .int (Int32.ofInt ((I 2438)))), (0, .ref 38)], [], M229) _
              refine w_adv (n := 2) (F' := (72, [(2, .int (Int32.ofInt (v203))), (1, .int (Int32.ofInt ((I 2438)))), (0, .ref 38)], [.int (Int32.ofInt ((-1))), .int (Int32.ofInt (v203))], M229)) rfl ?_
              refine w_br2 (a := v203) (b := (-1)) rfl rfl ⟨by omega, by omega⟩ ⟨by omega, by omega⟩ (fun h242 => ?_) (fun h242 => ?_)
              · have h242 : ¬ v203 = (-1) := h242
                show w_W _ _ _ (89, [(2, .int (Int32.ofInt (v203))), (1, .int (Int32.ofInt ((I 2438)))), (0, .ref 38)], [], M229) _
                refine w_adv (n := 1) (F' := (90, [(2, .int (Int32.ofInt (v203))), (1, .int (Int32.ofInt ((I 2438)))), (0, .ref 38)], [.ref 38], M229)) rfl ?_
                refine w_gf (v := .ref 26) hR230a rfl rfl rfl rfl ?_
                refine w_adv (n := 4) (F' := (97, [(2, .int (Int32.ofInt (v203))), (1, .int (Int32.ofInt ((I 2438)))), (0, .ref 38)], [.int (Int32.ofInt ((-1))), .int (Int32.ofInt (v203)), .int (Int32.ofInt ((I 2438))), .int (Int32.ofInt (5)), .ref 26], M229)) rfl ?_
                refine w_call (cm := 94) (as := [(0, .ref 26), (1, .int (Int32.ofInt (5))), (2, .int (Int32.ofInt ((I 2438)))), (3, .int (Int32.ofInt (v203))), (4, .int (Int32.ofInt ((-1))))]) (rest := []) (o := some (8, 26)) rfl (w_fitR hR230a rfl) (c_mkn (5) ((I 2438)) (v203) ((-1)) hR230a (show 2 ≤ d by omega) ⟨by omega, by omega⟩ ⟨by omega, by omega⟩ ⟨by omega, by omega⟩ ⟨by omega, by omega⟩ (show 0 ≤ (I202a 1670) ∧ (I202a 1670) < 3016 by first | assumption | omega)) (fun r243 M244 q245 => ?_)
                rcases q245 with ⟨A246, e247, hR245a, f248, f249⟩
                rw [e247]
                replace hR245a : w_Rep w_TC fr X u l (w_up (w_up (w_up (w_up (w_up (w_up I202a 2436 ((I202a 2436) + 1)) 2441 (zt231)) 2437 (zk232)) 2438 (zv233)) 2439 ((I202a 2439) - 1)) 1670 ((I202a 1670) + 1)) A246 B202a C202a M244 := hR245a
                replace f248 : c_fa c_pa A202a A246 := f248
                replace f249 : c_mk A202a A246 (I202a 1670) 5 (I 2438) v203 (-1) := f249
                have k250 : c_Wn A246 (c_r (I 2439) 1) (I202a 1670) (I 1670) ((I202a 1670) + 1) := c_Wn_up ⟨c_W_5 f249 (show 0 ≤ (I 1670) by omega) (c_Ch_wide (fun _ _ => c_P1_win) k227 (show (I 1670) ≤ (I 1670) by omega) (show (I202a 1670) ≤ (I202a 1670) by omega)), f249.2.2.2.2.2⟩ (show (c_r (I 2439) 0) + 1 ≤ (c_r (I 2439) 1) by unfold c_r; omega)
                have g251 : c_agl A A246 (I 1670) := c_agl_trans g226 f249.1 (show (I 1670) ≤ (I202a 1670) by omega)
                show w_W _ _ _ (100, [(2, .int (Int32.ofInt (v203))), (1, .int (Int32.ofInt ((I 2438)))), (0, .ref 38)], [.int (Int32.ofInt ((I202a 1670)))], M244) _
                refine w_fin (r := .inl (some ((I202a 1670)))) (M' := M244) rfl ?_
                exact Or.inl ⟨(I202a 1670), (w_up (w_up (w_up (w_up (w_up (w_up I202a 2436 ((I202a 2436) + 1)) 2441 (zt231)) 2437 (zk232)) 2438 (zv233)) 2439 ((I202a 2439) - 1)) 1670 ((I202a 1670) + 1)), A246, B202a, C202a, rfl, ⟨by omega, by omega⟩, hR245a, (show c_fi c_ps I (w_up (w_up (w_up (w_up (w_up (w_up I202a 2436 ((I202a 2436) + 1)) 2441 (zt231)) 2437 (zk232)) 2438 (zv233)) 2439 ((I202a 2439) - 1)) 1670 ((I202a 1670) + 1)) by exact (c_fi_up (c_fi_up (c_fi_up (c_fi_up (c_fi_up (c_fi_up (c_fi_trans (c_fi_up (c_fi_up (c_fi_up (c_fi_up (c_fi_up c_fi_refl rfl) rfl) rfl) rfl) rfl) f207) rfl) rfl) rfl) rfl) rfl) rfl)), (show c_fa c_pa A A246 by exact (c_fa_trans f208 f248)), (show (0 ≤ (I202a 2436) + 1 ∧ (I202a 2436) + 1 ≤ (I202a 773) ∧ (zk232 = 0 ∨ (I202a 2436) + 1 < (I202a 773))) ∧ ((I202a 773) = (I 773) ∧ (I202a 2439) - 1 = (I 2439) ∧ 0 ≤ (I202a 2117)) ∧ (I 2436) + 1 ≤ (I202a 2436) + 1 ∧ ((I202a 1670) + 1) + 1 ≤ (I 1670) + 2 * (((I202a 2436) + 1) - (I 2436)) ∧ (I 1670) ≤ (I202a 1670) + 1 by (repeat' apply And.intro) <;> first | assumption | omega), (show c_agl A A246 (I 1670) by exact g251), (show c_Wn A246 (c_r (I 2439) 1) (I202a 1670) (I 1670) ((I202a 1670) + 1) by exact c_Wn_win (c_Wn_up k250 (show c_r (I 2439) 1 ≤ c_r (I 2439) 1 by unfold c_r; omega)) (show (I 1670) ≤ (I 1670) by omega) (show ((I202a 1670) + 1) ≤ ((I202a 1670) + 1) by omega))⟩
              · have h242 : ¬ (¬ v203 = (-1)) := h242
                show w_W _ _ _ (75, [(2, .int (Int32.ofInt (v203))), (1, .int (Int32.ofInt ((I 2438)))), (0, .ref 38)], [], M229) _
                refine w_adv (n := 1) (F' := (76, [(2, .int (Int32.ofInt (v203))), (1, .int (Int32.ofInt ((I 2438)))), (0, .ref 38)], [.ref 38], M229)) rfl ?_
                refine w_gf (v := .ref 26) hR230a rfl rfl rfl rfl ?_
                refine w_adv (n := 4) (F' := (83, [(2, .int (Int32.ofInt (v203))), (1, .int (Int32.ofInt ((I 2438)))), (0, .ref 38)], [.int (Int32.ofInt ((-1))), .int (Int32.ofInt ((-1))), .int (Int32.ofInt ((I 2438))), .int (Int32.ofInt (4)), .ref 26], M229)) rfl ?_
                refine w_call (cm := 94) (as := [(0, .ref 26), (1, .int (Int32.ofInt (4))), (2, .int (Int32.ofInt ((I 2438)))), (3, .int (Int32.ofInt ((-1)))), (4, .int (Int32.ofInt ((-1))))]) (rest := []) (o := some (8, 26)) rfl (w_fitR hR230a rfl) (c_mkn (4) ((I 2438)) ((-1)) ((-1)) hR230a (show 2 ≤ d by omega) ⟨by omega, by omega⟩ ⟨by omega, by omega⟩ ⟨by omega, by omega⟩ ⟨by omega, by omega⟩ (show 0 ≤ (I202a 1670) ∧ (I202a 1670) < 3016 by first | assumption | omega)) (fun r252 M253 q254 => ?_)
                rcases q254 with ⟨A255, e256, hR254a, f257, f258⟩
                rw [e256]
                replace hR254a : w_Rep w_TC fr X u l (w_up (w_up (w_up (w_up (w_up (w_up I202a 2436 ((I202a 2436) + 1)) 2441 (zt231)) 2437 (zk232)) 2438 (zv233)) 2439 ((I202a 2439) - 1)) 1670 ((I202a 1670) + 1)) A255 B202a C202a M253 := hR254a
                replace f257 : c_fa c_pa A202a A255 := f257
                replace f258 : c_mk A202a A255 (I202a 1670) 4 (I 2438) (-1) (-1) := f258
                have k259 : c_Wn A255 (c_r (I 2439) 1) (I202a 1670) (I 1670) ((I202a 1670) + 1) := c_Wn_up ⟨c_W_leaf f258 (by omega) (show (I 1670) ≤ (I202a 1670) by omega), f258.2.2.2.2.2⟩ (show 1 ≤ (c_r (I 2439) 1) by unfold c_r; omega)
                have k260 : c_Ch (A255 31) (c_P1 A255 (c_r (I 2439) 0)) v203 (I 1670) (I202a 1670) := c_Ch_agl c_P1_fam k227 f258.1 (show 0 ≤ (I 1670) by omega) (show (I202a 1670) ≤ (I202a 1670) by omega)
                clear k227
                have g261 : c_agl A A255 (I 1670) := c_agl_trans g226 f258.1 (show (I 1670) ≤ (I202a 1670) by omega)
                show w_W _ _ _ (86, [(2, .int (Int32.ofInt (v203))), (1, .int (Int32.ofInt ((I 2438)))), (0, .ref 38)], [.int (Int32.ofInt ((I202a 1670)))], M253) _
                refine w_adv (n := 1) (F' := (100, [(2, .int (Int32.ofInt (v203))), (1, .int (Int32.ofInt ((I 2438)))), (0, .ref 38)], [.int (Int32.ofInt ((I202a 1670)))], M253)) rfl ?_
                refine w_fin (r := .inl (some ((I202a 1670)))) (M' := M253) rfl ?_
                exact Or.inl ⟨(I202a 1670), (w_up (w_up (w_up (w_up (w_up (w_up I202a 2436 ((I202a 2436) + 1)) 2441 (zt231)) 2437 (zk232)) 2438 (zv233)) 2439 ((I202a 2439) - 1)) 1670 ((I202a 1670) + 1)), A255, B202a, C202a, rfl, ⟨by omega, by omega⟩, hR254a, (show c_fi c_ps I (w_up (w_up (w_up (w_up (w_up (w_up I202a 2436 ((I202a 2436) + 1)) 2441 (zt231)) 2437 (zk232)) 2438 (zv233)) 2439 ((I202a 2439) - 1)) 1670 ((I202a 1670) + 1)) by exact (c_fi_up (c_fi_up (c_fi_up (c_fi_up (c_fi_up (c_fi_up (c_fi_trans (c_fi_up (c_fi_up (c_fi_up (c_fi_up (c_fi_up c_fi_refl rfl) rfl) rfl) rfl) rfl) f207) rfl) rfl) rfl) rfl) rfl) rfl)), (show c_fa c_pa A A255 by exact (c_fa_trans f208 f257)), (show (0 ≤ (I202a 2436) + 1 ∧ (I202a 2436) + 1 ≤ (I202a 773) ∧ (zk232 = 0 ∨ (I202a 2436) + 1 < (I202a 773))) ∧ ((I202a 773) = (I 773) ∧ (I202a 2439) - 1 = (I 2439) ∧ 0 ≤ (I202a 2117)) ∧ (I 2436) + 1 ≤ (I202a 2436) + 1 ∧ ((I202a 1670) + 1) + 1 ≤ (I 1670) + 2 * (((I202a 2436) + 1) - (I 2436)) ∧ (I 1670) ≤ (I202a 1670) + 1 by (repeat' apply And.intro) <;> first | assumption | omega), (show c_agl A A255 (I 1670) by exact g261), (show c_Wn A255 (c_r (I 2439) 1) (I202a 1670) (I 1670) ((I202a 1670) + 1) by exact c_Wn_win (c_Wn_up k259 (show c_r (I 2439) 1 ≤ c_r (I 2439) 1 by unfold c_r; omega)) (show (I 1670) ≤ (I 1670) by omega) (show ((I202a 1670) + 1) ≤ ((I202a 1670) + 1) by omega))⟩
            · rw [e238]
              replace hR230b : w_Rep w_TC fr X (u + 6) (l + 64) I230b A230b B230b C230b M229 := hR230b
              replace f239 : c_fi c_ps I202a I230b := f239
              replace f240 : c_fa c_pa A202a A230b := f240
              replace f241 : M229.1[t237]? = some (.inr (11, [])) := f241
              exact Or.inr (⟨t237, I230b, A230b, B230b, C230b, rfl, hR230b, (show c_fi c_ps I I230b by exact (c_fi_trans (c_fi_trans (c_fi_up (c_fi_up (c_fi_up (c_fi_up (c_fi_up c_fi_refl rfl) rfl) rfl) rfl) rfl) f207) f239)), (show c_fa c_pa A A230b by exact (c_fa_trans f208 f240)), (show M229.1[t237]? = some (.inr (11, [])) by exact f241)⟩)
          · rw [e213]
            replace hR202b : w_Rep w_TC fr X (u + 6) (l + 64) I202b A202b B202b C202b M201 := hR202b
            replace f214 : c_fi c_ps (w_up (w_up (w_up (w_up (w_up I 2436 ((I 2436) + 1 + 1)) 2441 (zt19)) 2437 (zk20)) 2438 (zv21)) 2439 ((I 2439) + 1)) I202b := f214
            replace f215 : c_fa c_pa A A202b := f215
            replace f216 : M201.1[t212]? = some (.inr (11, [])) := f216
            exact Or.inr (⟨t212, I202b, A202b, B202b, C202b, rfl, hR202b, (show c_fi c_ps I I202b by exact (c_fi_trans (c_fi_up (c_fi_up (c_fi_up (c_fi_up (c_fi_up c_fi_refl rfl) rfl) rfl) rfl) rfl) f214)), (show c_fa c_pa A A202b by exact f215), (show M201.1[t212]? = some (.inr (11, [])) by exact f216)⟩)
    · rw [e26]
      replace hR18b : w_Rep w_TC fr X (u + 6) (l + 64) I18b A18b B18b C18b M17 := hR18b
      replace f27 : c_fi c_ps (w_up (w_up (w_up (w_up I 2436 ((I 2436) + 1)) 2441 (zt6)) 2437 (zk7)) 2438 (zv8)) I18b := f27
      replace f28 : c_fa c_pa A A18b := f28
      replace f29 : M17.1[t25]? = some (.inr (11, [])) := f29
      exact Or.inr (⟨t25, I18b, A18b, B18b, C18b, rfl, hR18b, (show c_fi c_ps I I18b by exact (c_fi_trans (c_fi_up (c_fi_up (c_fi_up (c_fi_up c_fi_refl rfl) rfl) rfl) rfl) f27)), (show c_fa c_pa A A18b by exact f28), (show M17.1[t25]? = some (.inr (11, [])) by exact f29)⟩)
  · rw [e12]
    replace hR5b : w_Rep w_TC fr X (u + 6) (l + 64) I5b A5b B5b C5b M4 := hR5b
    replace f13 : c_fi c_ps I I5b := f13
    replace f14 : c_fa c_pa A A5b := f14
    replace f15 : M4.1[t11]? = some (.inr (11, [])) := f15
    exact Or.inr (⟨t11, I5b, A5b, B5b, C5b, rfl, hR5b, (show c_fi c_ps I I5b by exact f13), (show c_fa c_pa A A5b by exact f14), (show M4.1[t11]? = some (.inr (11, [])) by exact f15)⟩)
