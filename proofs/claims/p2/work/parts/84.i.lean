def c_record_Q (fr : Nat → Bool) (X : Nat → Option (q_C (Nat → Int32))) (u l : Nat) (I : Nat → Int) (A : Nat → Int → Int) (B C : Nat → Nat) (M : w_M) : w_X → w_M → Prop := fun r M' => (∃ v : Int, ∃ (I' : Nat → Int) (A' : Nat → Int → Int) (B' C' : Nat → Nat), (r = .inl (some v)) ∧ (w_in v) ∧ (w_Rep w_TC fr X u l I' A' B' C' M') ∧ (c_fi c_ps I I') ∧ (c_fa c_pa A A') ∧ ((0 ≤ (I' 2436) ∧ (I' 2436) ≤ (I' 773) ∧ ((I' 2437) = 0 ∨ (I' 2436) < (I' 773))) ∧ ((I' 773) = (I 773) ∧ (I' 2439) = (I 2439) ∧ 0 ≤ (I' 2117)) ∧ (I 2436) + 1 ≤ (I' 2436) ∧ (I' 1670) + 1 ≤ (I 1670) + 2 * ((I' 2436) - (I 2436)) ∧ (I 1670) ≤ (I' 1670)) ∧ (c_agl A A' (I 1670)) ∧ (c_Wn A' (c_r (I 2439) 1) v (I 1670) (I' 1670))) ∨ (∃ t : Nat, ∃ (I' : Nat → Int) (A' : Nat → Int → Int) (B' C' : Nat → Nat), (r = .inr t) ∧ (w_Rep w_TC fr X (u + 6) (l + 64) I' A' B' C' M') ∧ (c_fi c_ps I I') ∧ (c_fa c_pa A A') ∧ (M'.1[None]? = some (.inr (11, []))))
set_option maxHeartbeats 100000000 in
set_option maxRecDepth 100000 in
theorem c_record {L : Nat} {xs : Nat → Int32} {d : Nat} {fr : Nat → Bool} {X : Nat → Option (q_C (Nat → Int32))} {u l : Nat} {I : Nat → Int} {A : Nat → Int → Int} {B C : Nat → Nat} {M : w_M} (hA : c_ALL L xs d) (hR : w_Rep w_TC fr X u l I A B C M) (hd : 10 * (24 - (I 2439)) + 9 ≤ (d : Int)) (hl : l ≤ 100000) (hNU : (0 ≤ (I 2436) ∧ (I 2436) ≤ (I 773) ∧ (I 773) ≤ 1501 ∧ ((I 2437) = 0 ∨ (I 2436) < (I 773))) ∧ (0 ≤ (I 2439) ∧ (I 2439) ≤ 24 ∧ 0 ≤ (I 2117)) ∧ 0 ≤ (I 1670) ∧ (I 1670) ≤ 2 * (I 2436) + 1) (hk0 : ¬ (I 2437) = 0) (hkn : (I 2436) + 1 < (I 773)) : w_W (z_P L xs) d 98 (0, [(0, .ref 38)], [], M) (c_record_Q fr X u l I A B C M) := by
  obtain ⟨d, rfl⟩ : ∃ d0, d = d0 + 1 := ⟨d - 1, by omega⟩
  refine w_adv (n := 1) (F' := (1, [(0, .ref 38)], [.ref 38], M)) rfl ?_
  refine w_gf (v := .int (Int32.ofInt ((I 2438)))) hR rfl rfl rfl rfl ?_
  obtain ⟨r1, r2⟩ : -2147483648 ≤ (I 2438) ∧ (I 2438) ≤ 2147483647 := hR.ri 2438
  refine w_adv (n := 2) (F' := (6, [(1, .int (Int32.ofInt ((I 2438)))), (0, .ref 38)], [.ref 38], M)) rfl ?_
  refine w_call (cm := 80) (as := [(0, .ref 38)]) (rest := []) (o := some (4, 38)) rfl (w_fitR hR rfl) (c_advance hR (show 3 ≤ d by omega) (show l ≤ 100000 by first | assumption | omega) (show -1 ≤ (I 2436) ∧ (I 2436) < (I 773) ∧ (I 773) ≤ 1501 by first | assumption | omega)) (fun r3 M4 q5 => ?_)
  rcases q5 with ⟨zt6, zk7, zv8, e9, hR5a, f10⟩ | ⟨t11, I5b, A5b, B5b, C5b, e12, hR5b, f13, f14, f15⟩
  · rw [e9]
    replace hR5a : w_Rep w_TC fr X u l (w_up (w_up (w_up (w_up I 2436 ((I 2436) + 1)) 2441 (zt6)) 2437 (zk7)) 2438 (zv8)) A B C M4 := hR5a
    replace f10 : ((I 2436) + 1 < (I 773) ∨ zk7 = 0) := f10
    show w_W _ _ _ (9, [(1, .int (Int32.ofInt ((I 2438)))), (0, .ref 38)], [], M4) _
    refine w_adv (n := 1) (F' := (10, [(1, .int (Int32.ofInt ((I 2438)))), (0, .ref 38)], [.ref 38], M4)) rfl ?_
    refine w_call (cm := 99) (as := [(0, .ref 38)]) (rest := []) (o := some (4, 38)) rfl (w_fitR hR5a rfl) (c_open hR5a (show 4 ≤ d by omega) (show l ≤ 100000 by first | assumption | omega) (show -1 ≤ (I 2436) + 1 ∧ (I 2436) + 1 < (I 773) ∧ (I 773) ≤ 1501 by first | assumption | omega) (show 0 ≤ (I 2439) ∧ (I 2439) ≤ 24 by first | assumption | omega)) (fun r16 M17 q18 => ?_)
    rcases q18 with ⟨zt19, zk20, zv21, e22, hR18a, f23, f24⟩ | ⟨t25, I18b, A18b, B18b, C18b, e26, hR18b, f27, f28, f29⟩
    · rw [e22]
      replace hR18a : w_Rep w_TC fr X u l (w_up (w_up (w_up (w_up (w_up I 2436 ((I 2436) + 1 + 1)) 2441 (zt19)) 2437 (zk20)) 2438 (zv21)) 2439 ((I 2439) + 1)) A B C M17 := w_Rep.up hR18a (show (w_up (w_up (w_up (w_up (w_up I 2436 ((I 2436) + 1 + 1)) 2441 (zt19)) 2437 (zk20)) 2438 (zv21)) 2439 ((I 2439) + 1)) = _ from (funext fun s => if e0 : s = 2436 then (by subst e0; rfl) else if e1 : s = 2437 then (by subst e1; rfl) else if e2 : s = 2438 then (by subst e2; rfl) else if e3 : s = 2439 then (by subst e3; rfl) else if e4 : s = 2441 then (by subst e4; rfl) else (by simp only [w_up_ne e0, w_up_ne e1, w_up_ne e2, w_up_ne e3, w_up_ne e4]))) rfl
      replace f23 : ((I 2436) + 1 + 1 < (I 773) ∨ zk20 = 0) := f23
      replace f24 : (I 2439) < 24 := f24
      show w_W _ _ _ (13, [(1, .int (Int32.ofInt ((I 2438)))), (0, .ref 38)], [], M17) _
      refine w_adv (n := 3) (F' := (16, [(2, .int (Int32.ofInt ((-1)))), (1, .int (Int32.ofInt ((I 2438)))), (0, .ref 38)], [.ref 38], M17)) rfl ?_
      refine w_gf (v := .int (Int32.ofInt (zk20))) hR18a rfl rfl rfl rfl ?_
      obtain ⟨r30, r31⟩ : -2147483648 ≤ zk20 ∧ zk20 ≤ 2147483647 := hR18a.ri 2437
      refine w_adv (n := 1) (F' := (21, [(2, .int (Int32.ofInt ((-1)))), (1, .int (Int32.ofInt ((I 2438)))), (0, .ref 38)], [.int (Int32.ofInt (6)), .int (Int32.ofInt (zk20))], M17)) rfl ?_
      refine w_br2 (a := zk20) (b := 6) rfl rfl ⟨by omega, by omega⟩ ⟨by omega, by omega⟩ (fun h32 => ?_) (fun h32 => ?_)
      · have h32 : zk20 = 6 := h32
        show w_W _ _ _ (64, [(2, .int (Int32.ofInt ((-1)))), (1, .int (Int32.ofInt ((I 2438)))), (0, .ref 38)], [], M17) _
        refine w_adv (n := 2) (F' := (67, [(2, .int (Int32.ofInt ((-1)))), (1, .int (Int32.ofInt ((I 2438)))), (0, .ref 38)], [.int (Int32.ofInt (6)), .ref 38], M17)) rfl ?_
        refine w_call (cm := 113) (as := [(0, .ref 38), (1, .int (Int32.ofInt (6)))]) (rest := []) (o := some (4, 38)) rfl (w_fitR hR18a rfl) (c_close (6) hR18a (show 4 ≤ d by omega) ⟨by omega, by omega⟩ (show l ≤ 100000 by first | assumption | omega) (show -1 ≤ (I 2436) + 1 + 1 ∧ (zk20 = 0 ∨ (I 2436) + 1 + 1 < (I 773)) ∧ (I 773) ≤ 1501 ∧ 1 ≤ 6 by first | assumption | omega) (show 0 ≤ (I 2439) + 1 ∧ (I 2439) + 1 ≤ 24 by first | assumption | omega)) (fun r33 M34 q35 => ?_)
        rcases q35 with ⟨zt36, zk37, zv38, e39, hR35a, f40, f41⟩ | ⟨t42, I35b, A35b, B35b, C35b, e43, hR35b, f44, f45, f46⟩
        · rw [e39]
          replace hR35a : w_Rep w_TC fr X u l (w_up (w_up (w_up (w_up (w_up I 2436 ((I 2436) + 1 + 1 + 1)) 2441 (zt36)) 2437 (zk37)) 2438 (zv38)) 2439 ((I 2439) + 1 - 1)) A B C M34 := w_Rep.up hR35a (show (w_up (w_up (w_up (w_up (w_up I 2436 ((I 2436) + 1 + 1 + 1)) 2441 (zt36)) 2437 (zk37)) 2438 (zv38)) 2439 ((I 2439) + 1 - 1)) = _ from (funext fun s => if e0 : s = 2436 then (by subst e0; rfl) else if e1 : s = 2437 then (by subst e1; rfl) else if e2 : s = 2438 then (by subst e2; rfl) else if e3 : s = 2439 then (by subst e3; rfl) else if e4 : s = 2441 then (by subst e4; rfl) else (by simp only [w_up_ne e0, w_up_ne e1, w_up_ne e2, w_up_ne e3, w_up_ne e4]))) rfl
          replace f40 : ((I 2436) + 1 + 1 + 1 < (I 773) ∨ zk37 = 0) := f40
          replace f41 : zk20 = 6 := f41
          show w_W _ _ _ (70, [(2, .int (Int32.ofInt ((-1)))), (1, .int (Int32.ofInt ((I 2438)))), (0, .ref 38)], [], M34) _
          refine w_adv (n := 4) (F' := (76, [(2, .int (Int32.ofInt ((-1)))), (1, .int (Int32.ofInt ((I 2438)))), (0, .ref 38)], [.ref 38], M34)) rfl ?_
          refine w_gf (v := .ref 26) hR35a rfl rfl rfl rfl ?_
          refine w_adv (n := 4) (F' := (83, [(2, .int (Int32.ofInt ((-1)))), (1, .int (Int32.ofInt ((I 2438)))), (0, .ref 38)], [.int (Int32.ofInt ((-1))), .int (Int32.ofInt ((-1))), .int (Int32.ofInt ((I 2438))), .int (Int32.ofInt (4)), .ref 26], M34)) rfl ?_
          refine w_call (cm := 94) (as := [(0, .ref 26), (1, .int (Int32.ofInt (4))), (2, .int (Int32.ofInt ((I 2438)))), (3, .int (Int32.ofInt ((-1)))), (4, .int (Int32.ofInt ((-1))))]) (rest := []) (o := some (8, 26)) rfl (w_fitR hR35a rfl) (c_mkn (4) ((I 2438)) ((-1)) ((-1)) hR35a (show 2 ≤ d by omega) ⟨by omega, by omega⟩ ⟨by omega, by omega⟩ ⟨by omega, by omega⟩ ⟨by omega, by omega⟩ (show 0 ≤ (I 1670) ∧ (I 1670) < 3016 by first | assumption | omega)) (fun r47 M48 q49 => ?_)
          rcases q49 with ⟨A50, e51, hR49a, f52, f53⟩
          rw [e51]
          replace hR49a : w_Rep w_TC fr X u l (w_up (w_up (w_up (w_up (w_up (w_up I 2436 ((I 2436) + 1 + 1 + 1)) 2441 (zt36)) 2437 (zk37)) 2438 (zv38)) 2439 ((I 2439) + 1 - 1)) 1670 ((I 1670) + 1)) A50 B C M48 := hR49a
          replace f52 : c_fa c_pa A A50 := f52
          replace f53 : c_mk A A50 (I 1670) 4 (I 2438) (-1) (-1) := f53
          have k54 : c_Wn A50 (c_r (I 2439) 1) (I 1670) (I 1670) ((I 1670) + 1) := c_Wn_up ⟨c_W_leaf f53 (by omega) (show (I 1670) ≤ (I 1670) by omega), f53.2.2.2.2.2⟩ (show 1 ≤ (c_r (I 2439) 1) by unfold c_r; omega)
          have g55 : c_agl A A50 (I 1670) := c_agl_trans c_agl_refl f53.1 (show (I 1670) ≤ (I 1670) by omega)
          show w_W _ _ _ (86, [(2, .int (Int32.ofInt ((-1)))), (1, .int (Int32.ofInt ((I 2438)))), (0, .ref 38)], [.int (Int32.ofInt ((I 1670)))], M48) _
          refine w_adv (n := 1) (F' := (100, [(2, .int (Int32.ofInt ((-1)))), (1, .int (Int32.ofInt ((I 2438)))), (0, .ref 38)], [.int (Int32.ofInt ((I 1670)))], M48)) rfl ?_
          refine w_fin (r := .inl (some ((I 1670)))) (M' := M48) rfl ?_
          exact Or.inl ⟨(I 1670), (w_up (w_up (w_up (w_up (w_up (w_up I 2436 ((I 2436) + 1 + 1 + 1)) 2441 (zt36)) 2437 (zk37)) 2438 (zv38)) 2439 ((I 2439) + 1 - 1)) 1670 ((I 1670) + 1)), A50, B, C, rfl, ⟨by omega, by omega⟩, hR49a, (show c_fi c_ps I (w_up (w_up (w_up (w_up (w_up (w_up I 2436 ((I 2436) + 1 + 1 + 1)) 2441 (zt36)) 2437 (zk37)) 2438 (zv38)) 2439 ((I 2439) + 1 - 1)) 1670 ((I 1670) + 1)) by exact (c_fi_up (c_fi_up (c_fi_up (c_fi_up (c_fi_up (c_fi_up c_fi_refl rfl) rfl) rfl) rfl) rfl) rfl)), (show c_fa c_pa A A50 by exact f52), (show (0 ≤ (I 2436) + 1 + 1 + 1 ∧ (I 2436) + 1 + 1 + 1 ≤ (I 773) ∧ (zk37 = 0 ∨ (I 2436) + 1 + 1 + 1 < (I 773))) ∧ ((I 773) = (I 773) ∧ (I 2439) + 1 - 1 = (I 2439) ∧ 0 ≤ (I 2117)) ∧ (I 2436) + 1 ≤ (I 2436) + 1 + 1 + 1 ∧ ((I 1670) + 1) + 1 ≤ (I 1670) + 2 * (((I 2436) + 1 + 1 + 1) - (I 2436)) ∧ (I 1670) ≤ (I 1670) + 1 by (repeat' apply And.intro) <;> first | assumption | omega), (show c_agl A A50 (I 1670) by exact g55), (show c_Wn A50 (c_r (I 2439) 1) (I 1670) (I 1670) ((I 1670) + 1) by exact c_Wn_win (c_Wn_up k54 (show c_r (I 2439) 1 ≤ c_r (I 2439) 1 by unfold c_r; omega)) (show (I 1670) ≤ (I 1670) by omega) (show ((I 1670) + 1) ≤ ((I 1670) + 1) by omega))⟩
        · rw [e43]
          replace hR35b : w_Rep w_TC fr X (u + 6) (l + 64) I35b A35b B35b C35b M34 := hR35b
          replace f44 : c_fi c_ps (w_up (w_up (w_up (w_up (w_up I 2436 ((I 2436) + 1 + 1)) 2441 (zt19)) 2437 (zk20)) 2438 (zv21)) 2439 ((I 2439) + 1)) I35b := f44
          replace f45 : c_fa c_pa A A35b := f45
          replace f46 : M34.1[t42]? = some (.inr (11, [])) := f46
          exact Or.inr (⟨t42, I35b, A35b, B35b, C35b, rfl, hR35b, (show c_fi c_ps I I35b by exact (c_fi_trans (c_fi_up (c_fi_up (c_fi_up (c_fi_up (c_fi_up c_fi_refl rfl) rfl) rfl) rfl) rfl) f44)), (show c_fa c_pa A A35b by exact f45), (show M34.1[t42]? = some (.inr (11, [])) by exact f46)⟩)
      · have h32 : ¬ (zk20 = 6) := h32
        show w_W _ _ _ (24, [(2, .int (Int32.ofInt ((-1)))), (1, .int (Int32.ofInt ((I 2438)))), (0, .ref 38)], [], M17) _
        refine w_adv (n := 1) (F' := (25, [(2, .int (Int32.ofInt ((-1)))), (1, .int (Int32.ofInt ((I 2438)))), (0, .ref 38)], [.ref 38], M17)) rfl ?_
        refine w_gf (v := .int (Int32.ofInt (zk20))) hR18a rfl rfl rfl rfl ?_
        refine w_call (cm := 101) (as := [(0, .int (Int32.ofInt (zk20)))]) (rest := []) (o := none) rfl (trivial) (c_isFeature (zk20) hR18a ⟨by omega, by omega⟩) (fun r56 M57 q58 => ?_)
        rcases q58 with ⟨e59, e60, f61⟩ | ⟨e62, e63⟩
        · rw [e59, e60]
          replace f61 : ¬ zk20 = 0 := f61
          show w_W _ _ _ (31, [(2, .int (Int32.ofInt ((-1)))), (1, .int (Int32.ofInt ((I 2438)))), (0, .ref 38)], [.int (Int32.ofInt (1))], M17) _
          refine w_adv (n := 2) (F' := (35, [(2, .int (Int32.ofInt ((-1)))), (1, .int (Int32.ofInt ((I 2438)))), (0, .ref 38)], [.ref 38], M17)) rfl ?_
          refine w_gf (v := .ref 12) hR18a rfl rfl rfl rfl ?_
          refine w_adv (n := 1) (F' := (39, [(2, .int (Int32.ofInt ((-1)))), (1, .int (Int32.ofInt ((I 2438)))), (0, .ref 38)], [.ref 38, .ref 12], M17)) rfl ?_
          refine w_gf (v := .int (Int32.ofInt ((I 2436) + 1 + 1))) hR18a rfl rfl rfl rfl ?_
          obtain ⟨r64, r65⟩ : -2147483648 ≤ (I 2436) + 1 + 1 ∧ (I 2436) + 1 + 1 ≤ 2147483647 := hR18a.ri 2436
          refine w_adv (n := 1) (F' := (43, [(2, .int (Int32.ofInt ((-1)))), (1, .int (Int32.ofInt ((I 2438)))), (0, .ref 38)], [.int (Int32.ofInt (1)), .int (Int32.ofInt ((I 2436) + 1 + 1)), .ref 12], M17)) rfl ?_
          refine w_add rfl ?_
          refine w_call (cm := 86) (as := [(0, .ref 12), (1, .int (Int32.ofInt (((I 2436) + 1 + 1) + 1)))]) (rest := []) (o := some (7, 12)) rfl (w_fitR hR18a rfl) (c_Tokens_kind2 (((I 2436) + 1 + 1) + 1) hR18a ⟨by omega, by omega⟩) (fun r66 M67 q68 => ?_)
          rcases q68 with ⟨v69, e70, ⟨r71, r72⟩, e73, f74⟩
          rw [e70, e73]
          replace f74 : ((I 2436) + 1 + 1) + 1 < (I 773) ∨ v69 = 0 := f74
          show w_W _ _ _ (47, [(2, .int (Int32.ofInt ((-1)))), (1, .int (Int32.ofInt ((I 2438)))), (0, .ref 38)], [.int (Int32.ofInt (v69))], M17) _
          refine w_adv (n := 1) (F' := (49, [(2, .int (Int32.ofInt ((-1)))), (1, .int (Int32.ofInt ((I 2438)))), (0, .ref 38)], [.int (Int32.ofInt (11)), .int (Int32.ofInt (v69))], M17)) rfl ?_
          refine w_br2 (a := v69) (b := 11) rfl rfl ⟨by omega, by omega⟩ ⟨by omega, by omega⟩ (fun h75 => ?_) (fun h75 => ?_)
          · have h75 : ¬ v69 = 11 := h75
            show w_W _ _ _ (59, [(2, .int (Int32.ofInt ((-1)))), (1, .int (Int32.ofInt ((I 2438)))), (0, .ref 38)], [], M17) _
            refine w_adv (n := 1) (F' := (60, [(2, .int (Int32.ofInt ((-1)))), (1, .int (Int32.ofInt ((I 2438)))), (0, .ref 38)], [.ref 38], M17)) rfl ?_
            refine w_call (cm := 107) (as := [(0, .ref 38)]) (rest := []) (o := some (4, 38)) rfl (w_fitR hR18a rfl) (c_fields (c_ALL_dn hA) hR18a (show 10 * (24 - ((I 2439) + 1)) + 14 ≤ (d : Int) by omega) (show l ≤ 100000 by first | assumption | omega) (show (0 ≤ (I 2436) + 1 + 1 ∧ (I 2436) + 1 + 1 ≤ (I 773) ∧ (I 773) ≤ 1501 ∧ (zk20 = 0 ∨ (I 2436) + 1 + 1 < (I 773))) ∧ (0 ≤ (I 2439) + 1 ∧ (I 2439) + 1 ≤ 24 ∧ 0 ≤ (I 2117)) ∧ 0 ≤ (I 1670) ∧ (I 1670) ≤ 2 * ((I 2436) + 1 + 1) + 1 by (repeat' apply And.intro) <;> first | assumption | omega)) (fun r76 M77 q78 => ?_)
            rcases q78 with ⟨v79, I78a, A78a, B78a, C78a, e80, ⟨r81, r82⟩, hR78a, f83, f84, f85, f86, f87⟩ | ⟨t88, I78b, A78b, B78b, C78b, e89, hR78b, f90, f91, f92⟩
            · rw [e80]
              replace hR78a : w_Rep w_TC fr X u l I78a A78a B78a C78a M77 := hR78a
              replace f83 : c_fi c_ps (w_up (w_up (w_up (w_up (w_up I 2436 ((I 2436) + 1 + 1)) 2441 (zt19)) 2437 (zk20)) 2438 (zv21)) 2439 ((I 2439) + 1)) I78a := f83
              replace f84 : c_fa c_pa A A78a := f84
              replace f85 : (0 ≤ (I78a 2436) ∧ (I78a 2436) ≤ (I78a 773) ∧ ((I78a 2437) = 0 ∨ (I78a 2436) < (I78a 773))) ∧ ((I78a 773) = (I 773) ∧ (I78a 2439) = (I 2439) + 1 ∧ 0 ≤ (I78a 2117)) ∧ ((I 2436) + 1 + 1) + 0 ≤ (I78a 2436) ∧ (I78a 1670) + 0 ≤ (I 1670) + 2 * ((I78a 2436) - ((I 2436) + 1 + 1)) ∧ (I 1670) ≤ (I78a 1670) := f85
              obtain ⟨⟨n93, n94, n95⟩, ⟨n96, n97, n98⟩, n99, n100, n101⟩ := id f85
              clear f85
              replace f86 : c_agl A A78a (I 1670) := f86
              replace f87 : c_Ch (A78a 31) (c_P1 A78a (c_r ((I 2439) + 1) 4)) v79 (I 1670) (I78a 1670) := f87
              have g102 : c_agl A A78a (I 1670) := c_agl_trans c_agl_refl f86 (show (I 1670) ≤ (I 1670) by omega)
              have k103 : c_Ch (A78a 31) (c_P1 A78a (c_r (I 2439) 0)) v79 (I 1670) (I78a 1670) := by rw [show (c_r (I 2439) 0) = (c_r ((I 2439) + 1) 4) from by unfold c_r; omega]; exact f87
              show w_W _ _ _ (63, [(2, .int (Int32.ofInt ((-1)))), (1, .int (Int32.ofInt ((I 2438)))), (0, .ref 38)], [.int (Int32.ofInt (v79))], M77) _
              refine w_adv (n := 3) (F' := (67, [(2, .int (Int32.ofInt (v79))), (1, .int (Int32.ofInt ((I 2438)))), (0, .ref 38)], [.int (Int32.ofInt (6)), .ref 38], M77)) rfl ?_
              refine w_call (cm := 113) (as := [(0, .ref 38), (1, .int (Int32.ofInt (6)))]) (rest := []) (o := some (4, 38)) rfl (w_fitR hR78a rfl) (c_close (6) hR78a (show 4 ≤ d by omega) ⟨by omega, by omega⟩ (show l ≤ 100000 by first | assumption | omega) (show -1 ≤ (I78a 2436) ∧ ((I78a 2437) = 0 ∨ (I78a 2436) < (I78a 773)) ∧ (I78a 773) ≤ 1501 ∧ 1 ≤ 6 by first | assumption | omega) (show 0 ≤ (I78a 2439) ∧ (I78a 2439) ≤ 24 by first | assumption | omega)) (fun r104 M105 q106 => ?_)
              rcases q106 with ⟨zt107, zk108, zv109, e110, hR106a, f111, f112⟩ | ⟨t113, I106b, A106b, B106b, C106b, e114, hR106b, f115, f116, f117⟩
              · rw [e110]
                replace hR106a : w_Rep w_TC fr X u l (w_up (w_up (w_up (w_up (w_up I78a 2436 ((I78a 2436) + 1)) 2441 (zt107)) 2437 (zk108)) 2438 (zv109)) 2439 ((I78a 2439) - 1)) A78a B78a C78a M105 := hR106a
                replace f111 : ((I78a 2436) + 1 < (I78a 773) ∨ zk108 = 0) := f111
                replace f112 : (I78a 2437) = 6 := f112
                show w_W _ _ _ (70, [(2, .int (Int32.ofInt (v79))), (1, .int (Int32.ofInt ((I 2438)))), (0, .ref 38)], [], M105) _
                refine w_adv (n := 2) (F' := (72, [(2, .int (Int32.ofInt (v79))), (1, .int (Int32.ofInt ((I 2438)))), (0, .ref 38)], [.int (Int32.ofInt ((-1))), .int (Int32.ofInt (v79))], M105)) rfl ?_
                refine w_br2 (a := v79) (b := (-1)) rfl rfl ⟨by omega, by omega⟩ ⟨by omega, by omega⟩ (fun h118 => ?_) (fun h118 => ?_)
                · have h118 : ¬ v79 = (-1) := h118
                  show w_W _ _ _ (89, [(2, .int (Int32.ofInt (v79))), (1, .int (Int32.ofInt ((I 2438)))), (0, .ref 38)], [], M105) _
                  refine w_adv (n := 1) (F' := (90, [(2, .int (Int32.ofInt (v79))), (1, .int (Int32.ofInt ((I 2438)))), (0, .ref 38)], [.ref 38], M105)) rfl ?_
                  refine w_gf (v := .ref 26) hR106a rfl rfl rfl rfl ?_
                  refine w_adv (n := 4) (F' := (97, [(2, .int (Int32.ofInt (v79))), (1, .int (Int32.ofInt ((I 2438)))), (0, .ref 38)], [.int (Int32.ofInt ((-1))), .int (Int32.ofInt (v79)), .int (Int32.ofInt ((I 2438))), .int (Int32.ofInt (5)), .ref 26], M105)) rfl ?_
                  refine w_call (cm := 94) (as := [(0, .ref 26), (1, .int (Int32.ofInt (5))), (2, .int (Int32.ofInt ((I 2438)))), (3, .int (Int32.ofInt (v79))), (4, .int (Int32.ofInt ((-1))))]) (rest := []) (o := some (8, 26)) rfl (w_fitR hR106a rfl) (c_mkn (5) ((I 2438)) (v79) ((-1)) hR106a (show 2 ≤ d by omega) ⟨by omega, by omega⟩ ⟨by omega, by omega⟩ ⟨by omega, by omega⟩ ⟨by omega, by omega⟩ (show 0 ≤ (I78a 1670) ∧ (I78a 1670) < 3016 by first | assumption | omega)) (fun r119 M120 q121 => ?_)
                  rcases q121 with ⟨A122, e123, hR121a, f124, f125⟩
                  rw [e123]
                  replace hR121a : w_Rep w_TC fr X u l (w_up (w_up (w_up (w_up (w_up (w_up I78a 2436 ((I78a 2436) + 1)) 2441 (zt107)) 2437 (zk108)) 2438 (zv109)) 2439 ((I78a 2439) - 1)) 1670 ((I78a 1670) + 1)) A122 B78a C78a M120 := hR121a
                  replace f124 : c_fa c_pa A78a A122 := f124
                  replace f125 : c_mk A78a A122 (I78a 1670) 5 (I 2438) v79 (-1) := f125
                  have k126 : c_Wn A122 (c_r (I 2439) 1) (I78a 1670) (I 1670) ((I78a 1670) + 1) := c_Wn_up ⟨c_W_5 f125 (show 0 ≤ (I 1670) by omega) (c_Ch_wide (fun _ _ => c_P1_win) k103 (show (I 1670) ≤ (I 1670) by omega) (show (I78a 1670) ≤ (I78a 1670) by omega)), f125.2.2.2.2.2⟩ (show (c_r (I 2439) 0) + 1 ≤ (c_r (I 2439) 1) by unfold c_r; omega)
                  have k127 : c_Ch (A122 31) (c_P1 A122 (c_r (I 2439) 0)) v79 (I 1670) (I78a 1670) := c_Ch_agl c_P1_fam k103 f125.1 (show 0 ≤ (I 1670) by omega) (show (I78a 1670) ≤ (I78a 1670) by omega)
                  clear k103
                  have g128 : c_agl A A122 (I 1670) := c_agl_trans g102 f125.1 (show (I 1670) ≤ (I78a 1670) by omega)
                  show w_W _ _ _ (100, [(2, .int (Int32.ofInt (v79))), (1, .int (Int32.ofInt ((I 2438)))), (0, .ref 38)], [.int (Int32.ofInt ((I78a 1670)))], M120) _
                  refine w_fin (r := .inl (some ((I78a 1670)))) (M' := M120) rfl ?_
                  exact Or.inl ⟨(I78a 1670), (w_up (w_up (w_up (w_up (w_up (w_up I78a 2436 ((I78a 2436) + 1)) 2441 (zt107)) 2437 (zk108)) 2438 (zv109)) 2439 ((I78a 2439) - 1)) 1670 ((I78a 1670) + 1)), A122, B78a, C78a, rfl, ⟨by omega, by omega⟩, hR121a, (show c_fi c_ps I (w_up (w_up (w_up (w_up (w_up (w_up I78a 2436 ((I78a 2436) + 1)) 2441 (zt107)) 2437 (zk108)) 2438 (zv109)) 2439 ((I78a 2439) - 1)) 1670 ((I78a 1670) + 1)) by exact (c_fi_up (c_fi_up (c_fi_up (c_fi_up (c_fi_up (c_fi_up (c_fi_trans (c_fi_up (c_fi_up (c_fi_up (c_fi_up (c_fi_up c_fi_refl rfl) rfl) rfl) rfl) rfl) f83) rfl) rfl) rfl) rfl) rfl) rfl)), (show c_fa c_pa A A122 by exact (c_fa_trans f84 f124)), (show (0 ≤ (I78a 2436) + 1 ∧ (I78a 2436) + 1 ≤ (I78a 773) ∧ (zk108 = 0 ∨ (I78a 2436) + 1 < (I78a 773))) ∧ ((I78a 773) = (I 773) ∧ (I78a 2439) - 1 = (I 2439) ∧ 0 ≤ (I78a 2117)) ∧ (I 2436) + 1 ≤ (I78a 2436) + 1 ∧ ((I78a 1670) + 1) + 1 ≤ (I 1670) + 2 * (((I78a 2436) + 1) - (I 2436)) ∧ (I 1670) ≤ (I78a 1670) + 1 by (repeat' apply And.intro) <;> first | assumption | omega), (show c_agl A A122 (I 1670) by exact g128), (show c_Wn A122 (c_r (I 2439) 1) (I78a 1670) (I 1670) ((I78a 1670) + 1) by exact c_Wn_win (c_Wn_up k126 (show c_r (I 2439) 1 ≤ c_r (I 2439) 1 by unfold c_r; omega)) (show (I 1670) ≤ (I 1670) by omega) (show ((I78a 1670) + 1) ≤ ((I78a 1670) + 1) by omega))⟩
                · have h118 : ¬ (¬ v79 = (-1)) := h118
                  show w_W _ _ _ (75, [(2, .int (Int32.ofInt (v79))), (1, .int (Int32.ofInt ((I 2438)))), (0, .ref 38)], [], M105) _
                  refine w_adv (n := 1) (F' := (76, [(2, .int (Int32.ofInt (v79))), (1, .int (Int32.ofInt ((I 2438)))), (0, .ref 38)], [.ref 38], M105)) rfl ?_
                  refine w_gf (v := .ref 26) hR106a rfl rfl rfl rfl ?_
                  refine w_adv (n := 4) (F' := (83, [(2, .int (Int32.ofInt (v79))), (1, .int (Int32.ofInt ((I 2438)))), (0, .ref 38)], [.int (Int32.ofInt ((-1))), .int (Int32.ofInt ((-1))), .int (Int32.ofInt ((I 2438))), .int (Int32.ofInt (4)), .ref 26], M105)) rfl ?_
                  refine w_call (cm := 94) (as := [(0, .ref 26), (1, .int (Int32.ofInt (4))), (2, .int (Int32.ofInt ((I 2438)))), (3, .int (Int32.ofInt ((-1)))), (4, .int (Int32.ofInt ((-1))))]) (rest := []) (o := some (8, 26)) rfl (w_fitR hR106a rfl) (c_mkn (4) ((I 2438)) ((-1)) ((-1)) hR106a (show 2 ≤ d by omega) ⟨by omega, by omega⟩ ⟨by omega, by omega⟩ ⟨by omega, by omega⟩ ⟨by omega, by omega⟩ (show 0 ≤ (I78a 1670) ∧ (I78a 1670) < 3016 by first | assumption | omega)) (fun r129 M130 q131 => ?_)
                  rcases q131 with ⟨A132, e133, hR131a, f134, f135⟩
                  rw [e133]
                  replace hR131a : w_Rep w_TC fr X u l (w_up (w_up (w_up (w_up (w_up (w_up I78a 2436 ((I78a 2436) + 1)) 2441 (zt107)) 2437 (zk108)) 2438 (zv109)) 2439 ((I78a 2439) - 1)) 1670 ((I78a 1670) + 1)) A132 B78a C78a M130 := hR131a
                  replace f134 : c_fa c_pa A78a A132 := f134
                  replace f135 : c_mk A78a A132 (I78a 1670) 4 (I 2438) (-1) (-1) := f135
                  have k136 : c_Wn A132 (c_r (I 2439) 1) (I78a 1670) (I 1670) ((I78a 1670) + 1) := c_Wn_up ⟨c_W_leaf f135 (by omega) (show (I 1670) ≤ (I78a 1670) by omega), f135.2.2.2.2.2⟩ (show 1 ≤ (c_r (I 2439) 1) by unfold c_r; omega)
                  have k137 : c_Ch (A132 31) (c_P1 A132 (c_r (I 2439) 0)) v79 (I 1670) (I78a 1670) := c_Ch_agl c_P1_fam k103 f135.1 (show 0 ≤ (I 1670) by omega) (show (I78a 1670) ≤ (I78a 1670) by omega)
                  clear k103
                  have g138 : c_agl A A132 (I 1670) := c_agl_trans g102 f135.1 (show (I 1670) ≤ (I78a 1670) by omega)
                  show w_W _ _ _ (86, [(2, .int (Int32.ofInt (v79))), (1, .int (Int32.ofInt ((I 2438)))), (0, .ref 38)], [.int (Int32.ofInt ((I78a 1670)))], M130) _
                  refine w_adv (n := 1) (F' := (100, [(2, .int (Int32.ofInt (v79))), (1, .int (Int32.ofInt ((I 2438)))), (0, .ref 38)], [.int (Int32.ofInt ((I78a 1670)))], M130)) rfl ?_
                  refine w_fin (r := .inl (some ((I78a 1670)))) (M' := M130) rfl ?_
                  exact Or.inl ⟨(I78a 1670), (w_up (w_up (w_up (w_up (w_up (w_up I78a 2436 ((I78a 2436) + 1)) 2441 (zt107)) 2437 (zk108)) 2438 (zv109)) 2439 ((I78a 2439) - 1)) 1670 ((I78a 1670) + 1)), A132, B78a, C78a, rfl, ⟨by omega, by omega⟩, hR131a, (show c_fi c_ps I (w_up (w_up (w_up (w_up (w_up (w_up I78a 2436 ((I78a 2436) + 1)) 2441 (zt107)) 2437 (zk108)) 2438 (zv109)) 2439 ((I78a 2439) - 1)) 1670 ((I78a 1670) + 1)) by exact (c_fi_up (c_fi_up (c_fi_up (c_fi_up (c_fi_up (c_fi_up (c_fi_trans (c_fi_up (c_fi_up (c_fi_up (c_fi_up (c_fi_up c_fi_refl rfl) rfl) rfl) rfl) rfl) f83) rfl) rfl) rfl) rfl) rfl) rfl)), (show c_fa c_pa A A132 by exact (c_fa_trans f84 f134)), (show (0 ≤ (I78a 2436) + 1 ∧ (I78a 2436) + 1 ≤ (I78a 773) ∧ (zk108 = 0 ∨ (I78a 2436) + 1 < (I78a 773))) ∧ ((I78a 773) = (I 773) ∧ (I78a 2439) - 1 = (I 2439) ∧ 0 ≤ (I78a 2117)) ∧ (I 2436) + 1 ≤ (I78a 2436) + 1 ∧ ((I78a 1670) + 1) + 1 ≤ (I 1670) + 2 * (((I78a 2436) + 1) - (I 2436)) ∧ (I 1670) ≤ (I78a 1670) + 1 by (repeat' apply And.intro) <;> first | assumption | omega), (show c_agl A A132 (I 1670) by exact g138), (show c_Wn A132 (c_r (I 2439) 1) (I78a 1670) (I 1670) ((I78a 1670) + 1) by exact c_Wn_win (c_Wn_up k136 (show c_r (I 2439) 1 ≤ c_r (I 2439) 1 by unfold c_r; omega)) (show (I 1670) ≤ (I 1670) by omega) (show ((I78a 1670) + 1) ≤ ((I78a 1670) + 1) by omega))⟩
              · rw [e114]
                replace hR106b : w_Rep w_TC fr X (u + 6) (l + 64) I106b A106b B106b C106b M105 := hR106b
                replace f115 : c_fi c_ps I78a I106b := f115
                replace f116 : c_fa c_pa A78a A106b := f116
                replace f117 : M105.1[t113]? = some (.inr (11, [])) := f117
                exact Or.inr (⟨t113, I106b, A106b, B106b, C106b, rfl, hR106b, (show c_fi c_ps I I106b by exact (c_fi_trans (c_fi_trans (c_fi_up (c_fi_up (c_fi_up (c_fi_up (c_fi_up c_fi_refl rfl) rfl) rfl) rfl) rfl) f83) f115)), (show c_fa c_pa A A106b by exact (c_fa_trans f84 f116)), (show M105.1[t113]? = some (.inr (11, [])) by exact f117)⟩)
            · rw [e89]
              replace hR78b : w_Rep w_TC fr X (u + 6) (l + 64) I78b A78b B78b C78b M77 := hR78b
              replace f90 : c_fi c_ps (w_up (w_up (w_up (w_up (w_up I 2436 ((I 2436) + 1 + 1)) 2441 (zt19)) 2437 (zk20)) 2438 (zv21)) 2439 ((I 2439) + 1)) I78b := f90
              replace f91 : c_fa c_pa A A78b := f91
              replace f92 : M77.1[t88]? = some (.inr (11, [])) := f92
              exact Or.inr (⟨t88, I78b, A78b, B78b, C78b, rfl, hR78b, (show c_fi c_ps I I78b by exact (c_fi_trans (c_fi_up (c_fi_up (c_fi_up (c_fi_up (c_fi_up c_fi_refl rfl) rfl) rfl) rfl) rfl) f90)), (show c_fa c_pa A A78b by exact f91), (show M77.1[t88]? = some (.inr (11, [])) by exact f92)⟩)
          · have h75 : ¬ (¬ v69 = 11) := h75
            show w_W _ _ _ (52, [(2, .int (Int32.ofInt ((-1)))), (1, .int (Int32.ofInt ((I 2438)))), (0, .ref 38)], [], M17) _
            refine w_adv (n := 1) (F' := (53, [(2, .int (Int32.ofInt ((-1)))), (1, .int (Int32.ofInt ((I 2438)))), (0, .ref 38)], [.ref 38], M17)) rfl ?_
            refine w_call (cm := 102) (as := [(0, .ref 38)]) (rest := []) (o := some (4, 38)) rfl (w_fitR hR18a rfl) (c_featuredFields (c_ALL_dn hA) hR18a (show 10 * (24 - ((I 2439) + 1)) + 14 ≤ (d : Int) by omega) (show l ≤ 100000 by first | assumption | omega) (show (0 ≤ (I 2436) + 1 + 1 ∧ (I 2436) + 1 + 1 ≤ (I 773) ∧ (I 773) ≤ 1501 ∧ (zk20 = 0 ∨ (I 2436) + 1 + 1 < (I 773))) ∧ (0 ≤ (I 2439) + 1 ∧ (I 2439) + 1 ≤ 24 ∧ 0 ≤ (I 2117)) ∧ 0 ≤ (I 1670) ∧ (I 1670) ≤ 2 * ((I 2436) + 1 + 1) + 1 by (repeat' apply And.intro) <;> first | assumption | omega)) (fun r139 M140 q141 => ?_)
            rcases q141 with ⟨v142, I141a, A141a, B141a, C141a, e143, ⟨r144, r145⟩, hR141a, f146, f147, f148, f149, f150⟩ | ⟨t151, I141b, A141b, B141b, C141b, e152, hR141b, f153, f154, f155⟩
            · rw [e143]
              replace hR141a : w_Rep w_TC fr X u l I141a A141a B141a C141a M140 := hR141a
              replace f146 : c_fi c_ps (w_up (w_up (w_up (w_up (w_up I 2436 ((I 2436) + 1 + 1)) 2441 (zt19)) 2437 (zk20)) 2438 (zv21)) 2439 ((I 2439) + 1)) I141a := f146
              replace f147 : c_fa c_pa A A141a := f147
              replace f148 : (0 ≤ (I141a 2436) ∧ (I141a 2436) ≤ (I141a 773) ∧ ((I141a 2437) = 0 ∨ (I141a 2436) < (I141a 773))) ∧ ((I141a 773) = (I 773) ∧ (I141a 2439) = (I 2439) + 1 ∧ 0 ≤ (I141a 2117)) ∧ ((I 2436) + 1 + 1) + 0 ≤ (I141a 2436) ∧ (I141a 1670) + 0 ≤ (I 1670) + 2 * ((I141a 2436) - ((I 2436) + 1 + 1)) ∧ (I 1670) ≤ (I141a 1670) := f148
              obtain ⟨⟨n156, n157, n158⟩, ⟨n159, n160, n161⟩, n162, n163, n164⟩ := id f148
              clear f148
              replace f149 : c_agl A A141a (I 1670) := f149
              replace f150 : c_Ch (A141a 31) (c_P1 A141a (c_r ((I 2439) + 1) 4)) v142 (I 1670) (I141a 1670) := f150
              have g165 : c_agl A A141a (I 1670) := c_agl_trans c_agl_refl f149 (show (I 1670) ≤ (I 1670) by omega)
              have k166 : c_Ch (A141a 31) (c_P1 A141a (c_r (I 2439) 0)) v142 (I 1670) (I141a 1670) := by rw [show (c_r (I 2439) 0) = (c_r ((I 2439) + 1) 4) from by unfold c_r; omega]; exact f150
              show w_W _ _ _ (56, [(2, .int (Int32.ofInt ((-1)))), (1, .int (Int32.ofInt ((I 2438)))), (0, .ref 38)], [.int (Int32.ofInt (v142))], M140) _
              refine w_adv (n := 4) (F' := (67, [(2, .int (Int32.ofInt (v142))), (1, .int (Int32.ofInt ((I 2438)))), (0, .ref 38)], [.int (Int32.ofInt (6)), .ref 38], M140)) rfl ?_
              refine w_call (cm := 113) (as := [(0, .ref 38), (1, .int (Int32.ofInt (6)))]) (rest := []) (o := some (4, 38)) rfl (w_fitR hR141a rfl) (c_close (6) hR141a (show 4 ≤ d by omega) ⟨by omega, by omega⟩ (show l ≤ 100000 by first | assumption | omega) (show -1 ≤ (I141a 2436) ∧ ((I141a 2437) = 0 ∨ (I141a 2436) < (I141a 773)) ∧ (I141a 773) ≤ 1501 ∧ 1 ≤ 6 by first | assumption | omega) (show 0 ≤ (I141a 2439) ∧ (I141a 2439) ≤ 24 by first | assumption | omega)) (fun r167 M168 q169 => ?_)
              rcases q169 with ⟨zt170, zk171, zv172, e173, hR169a, f174, f175⟩ | ⟨t176, I169b, A169b, B169b, C169b, e177, hR169b, f178, f179, f180⟩
              · rw [e173]
                replace hR169a : w_Rep w_TC fr X u l (w_up (w_up (w_up (w_up (w_up I141a 2436 ((I141a 2436) + 1)) 2441 (zt170)) 2437 (zk171)) 2438 (zv172)) 2439 ((I141a 2439) - 1)) A141a B141a C141a M168 := hR169a
                replace f174 : ((I141a 2436) + 1 < (I141a 773) ∨ zk171 = 0) := f174
                replace f175 : (I141a 2437) = 6 := f175
                show w_W _ _ _ (70, [(2, .int (Int32.ofInt (v142))), (1, .int (Int32.ofInt ((I 2438)))), (0, .ref 38)], [], M168) _
                refine w_adv (n := 2) (F' := (72, [(2, .int (Int32.ofInt (v142))), (1, .int (Int32.ofInt ((I 2438)))), (0, .ref 38)], [.int (Int32.ofInt ((-1))), .int (Int32.ofInt (v142))], M168)) rfl ?_
                refine w_br2 (a := v142) (b := (-1)) rfl rfl ⟨by omega, by omega⟩ ⟨by omega, by omega⟩ (fun h181 => ?_) (fun h181 => ?_)
                · have h181 : ¬ v142 = (-1) := h181
                  show w_W _ _ _ (89, [(2, .int (Int32.ofInt (v142))), (1, .int (Int32.ofInt ((I 2438)))), (0, .ref 38)], [], M168) _
                  refine w_adv (n := 1) (F' := (90, [(2, .int (Int32.ofInt (v142))), (1, .int (Int32.ofInt ((I 2438)))), (0, .ref 38)], [.ref 38], M168)) rfl ?_
                  refine w_gf (v := .ref 26) hR169a rfl rfl rfl rfl ?_
                  refine w_adv (n := 4) (F' := (97, [(2, .int (Int32.ofInt (v142))), (1, .int (Int32.ofInt ((I 2438)))), (0, .ref 38)], [.int (Int32.ofInt ((-1))), .int (Int32.ofInt (v142)), .int (Int32.ofInt ((I 2438))), .int (Int32.ofInt (5)), .ref 26], M168)) rfl ?_
                  refine w_call (cm := 94) (as := [(0, .ref 26), (1, .int (Int32.ofInt (5))), (2, .int (Int32.ofInt ((I 2438)))), (3, .int (Int32.ofInt (v142))), (4, .int (Int32.ofInt ((-1))))]) (rest := []) (o := some (8, 26)) rfl (w_fitR hR169a rfl) (c_mkn (5) ((I 2438)) (v142) ((-1)) hR169a (show 2 ≤ d by omega) ⟨by omega, by omega⟩ ⟨by omega, by omega⟩ ⟨by omega, by omega⟩ ⟨by omega, by omega⟩ (show 0 ≤ (I141a 1670) ∧ (I141a 1670) < 3016 by first | assumption | omega)) (fun r182 M183 q184 => ?_)
                  rcases q184 with ⟨A185, e186, hR184a, f187, f188⟩
                  rw [e186]
                  replace hR184a : w_Rep w_TC fr X u l (w_up (w_up (w_up (w_up (w_up (w_up I141a 2436 ((I141a 2436) + 1)) 2441 (zt170)) 2437 (zk171)) 2438 (zv172)) 2439 ((I141a 2439) - 1)) 1670 ((I141a 1670) + 1)) A185 B141a C141a M183 := hR184a
                  replace f187 : c_fa c_pa A141a A185 := f187
                  replace f188 : c_mk A141a A185 (I141a 1670) 5 (I 2438) v142 (-1) := f188
                  have k189 : c_Wn A185 (c_r (I 2439) 1) (I141a 1670) (I 1670) ((I141a 1670) + 1) := c_Wn_up ⟨c_W_5 f188 (show 0 ≤ (I 1670) by omega) (c_Ch_wide (fun _ _ => c_P1_win) k166 (show (I 1670) ≤ (I 1670) by omega) (show (I141a 1670) ≤ (I141a 1670) by omega)), f188.2.2.2.2.2⟩ (show (c_r (I 2439) 0) + 1 ≤ (c_r (I 2439) 1) by unfold c_r; omega)
                  have k190 : c_Ch (A185 31) (c_P1 A185 (c_r (I 2439) 0)) v142 (I 1670) (I141a 1670) := c_Ch_agl c_P1_fam k166 f188.1 (show 0 ≤ (I 1670) by omega) (show (I141a 1670) ≤ (I141a 1670) by omega)
                  clear k166
                  have g191 : c_agl A A185 (I 1670) := c_agl_trans g165 f188.1 (show (I 1670) ≤ (I141a 1670) by omega)
                  show w_W _ _ _ (100, [(2, .int (Int32.ofInt (v142))), (1, .int (Int32.ofInt ((I 2438)))), (0, .ref 38)], [.int (Int32.ofInt ((I141a 1670)))], M183) _
                  refine w_fin (r := .inl (some ((I141a 1670)))) (M' := M183) rfl ?_
                  exact Or.inl ⟨(I141a 1670), (w_up (w_up (w_up (w_up (w_up (w_up I141a 2436 ((I141a 2436) + 1)) 2441 (zt170)) 2437 (zk171)) 2438 (zv172)) 2439 ((I141a 2439) - 1)) 1670 ((I141a 1670) + 1)), A185, B141a, C141a, rfl, ⟨by omega, by omega⟩, hR184a, (show c_fi c_ps I (w_up (w_up (w_up (w_up (w_up (w_up I141a 2436 ((I141a 2436) + 1)) 2441 (zt170)) 2437 (zk171)) 2438 (zv172)) 2439 ((I141a 2439) - 1)) 1670 ((I141a 1670) + 1)) by exact (c_fi_up (c_fi_up (c_fi_up (c_fi_up (c_fi_up (c_fi_up (c_fi_trans (c_fi_up (c_fi_up (c_fi_up (c_fi_up (c_fi_up c_fi_refl rfl) rfl) rfl) rfl) rfl) f146) rfl) rfl) rfl) rfl) rfl) rfl)), (show c_fa c_pa A A185 by exact (c_fa_trans f147 f187)), (show (0 ≤ (I141a 2436) + 1 ∧ (I141a 2436) + 1 ≤ (I141a 773) ∧ (zk171 = 0 ∨ (I141a 2436) + 1 < (I141a 773))) ∧ ((I141a 773) = (I 773) ∧ (I141a 2439) - 1 = (I 2439) ∧ 0 ≤ (I141a 2117)) ∧ (I 2436) + 1 ≤ (I141a 2436) + 1 ∧ ((I141a 1670) + 1) + 1 ≤ (I 1670) + 2 * (((I141a 2436) + 1) - (I 2436)) ∧ (I 1670) ≤ (I141a 1670) + 1 by (repeat' apply And.intro) <;> first | assumption | omega), (show c_agl A A185 (I 1670) by exact g191), (show c_Wn A185 (c_r (I 2439) 1) (I141a 1670) (I 1670) ((I141a 1670) + 1) by exact c_Wn_win (c_Wn_up k189 (show c_r (I 2439) 1 ≤ c_r (I 2439) 1 by unfold c_r; omega)) (show (I 1670) ≤ (I 1670) by omega) (show ((I141a 1670) + 1) ≤ ((I141a 1670) + 1) by omega))⟩
                · have h181 : ¬ (¬ v142 = (-1)) := h181
                  show w_W _ _ _ (75, [(2, .int (Int32.ofInt (v142))), (1, .int (Int32.ofInt ((I 2438)))), (0, .ref 38)], [], M168) _
                  refine w_adv (n := 1) (F' := (76, [(2, .int (Int32.ofInt (v142))), (1, .int (Int32.ofInt ((I 2438)))), (0, .ref 38)], [.ref 38], M168)) rfl ?_
                  refine w_gf (v := .ref 26) hR169a rfl rfl rfl rfl ?_
                  refine w_adv (n := 4) (F' := (83, [(2, .int (Int32.ofInt (v142))), (1, .int (Int32.ofInt ((I 2438)))), (0, .ref 38)], [.int (Int32.ofInt ((-1))), .int (Int32.ofInt ((-1))), .int (Int32.ofInt ((I 2438))), .int (Int32.ofInt (4)), .ref 26], M168)) rfl ?_
                  refine w_call (cm := 94) (as := [(0, .ref 26), (1, .int (Int32.ofInt (4))), (2, .int (Int32.ofInt ((I 2438)))), (3, .int (Int32.ofInt ((-1)))), (4, .int (Int32.ofInt ((-1))))]) (rest := []) (o := some (8, 26)) rfl (w_fitR hR169a rfl) (c_mkn (4) ((I 2438)) ((-1)) ((-1)) hR169a (show 2 ≤ d by omega) ⟨by omega, by omega⟩ ⟨by omega, by omega⟩ ⟨by omega, by omega⟩ ⟨by omega, by omega⟩ (show 0 ≤ (I141a 1670) ∧ (I141a 1670) < 3016 by first | assumption | omega)) (fun r192 M193 q194 => ?_)
                  rcases q194 with ⟨A195, e196, hR194a, f197, f198⟩
                  rw [e196]
                  replace hR194a : w_Rep w_TC fr X u l (w_up (w_up (w_up (w_up (w_up (w_up I141a 2436 ((I141a 2436) + 1)) 2441 (zt170)) 2437 (zk171)) 2438 (zv172)) 2439 ((I141a 2439) - 1)) 1670 ((I141a 1670) + 1)) A195 B141a C141a M193 := hR194a
                  replace f197 : c_fa c_pa A141a A195 := f197
                  replace f198 : c_mk A141a A195 (I141a 1670) 4 (I 2438) (-1) (-1) := f198
                  have k199 : c_Wn A195 (c_r (I 2439) 1) (I141a 1670) (I 1670) ((I141a 1670) + 1) := c_Wn_up ⟨c_W_leaf f198 (by omega) (show (I 1670) ≤ (I141a 1670) by omega), f198.2.2.2.2.2⟩ (show 1 ≤ (c_r (I 2439) 1) by unfold c_r; omega)
                  have k200 : c_Ch (A195 31) (c_P1 A195 (c_r (I 2439) 0)) v142 (I 1670) (I141a 1670) := c_Ch_agl c_P1_fam k166 f198.1 (show 0 ≤ (I 1670) by omega) (show (I141a 1670) ≤ (I141a 1670) by omega)
                  clear k166
                  have g201 : c_agl A A195 (I 1670) := c_agl_trans g165 f198.1 (show (I 1670) ≤ (I141a 1670) by omega)
                  show w_W _ _ _ (86, [(2, .int (Int32.ofInt (v142))), (1, .int (Int32.ofInt ((I 2438)))), (0, .ref 38)], [.int (Int32.ofInt ((I141a 1670)))], M193) _
                  refine w_adv (n := 1) (F' := (100, [(2, .int (Int32.ofInt (v142))), (1, .int (Int32.ofInt ((I 2438)))), (0, .ref 38)], [.int (Int32.ofInt ((I141a 1670)))], M193)) rfl ?_
                  refine w_fin (r := .inl (some ((I141a 1670)))) (M' := M193) rfl ?_
                  exact Or.inl ⟨(I141a 1670), (w_up (w_up (w_up (w_up (w_up (w_up I141a 2436 ((I141a 2436) + 1)) 2441 (zt170)) 2437 (zk171)) 2438 (zv172)) 2439 ((I141a 2439) - 1)) 1670 ((I141a 1670) + 1)), A195, B141a, C141a, rfl, ⟨by omega, by omega⟩, hR194a, (show c_fi c_ps I (w_up (w_up (w_up (w_up (w_up (w_up I141a 2436 ((I141a 2436) + 1)) 2441 (zt170)) 2437 (zk171)) 2438 (zv172)) 2439 ((I141a 2439) - 1)) 1670 ((I141a 1670) + 1)) by exact (c_fi_up (c_fi_up (c_fi_up (c_fi_up (c_fi_up (c_fi_up (c_fi_trans (c_fi_up (c_fi_up (c_fi_up (c_fi_up (c_fi_up c_fi_refl rfl) rfl) rfl) rfl) rfl) f146) rfl) rfl) rfl) rfl) rfl) rfl)), (show c_fa c_pa A A195 by exact (c_fa_trans f147 f197)), (show (0 ≤ (I141a 2436) + 1 ∧ (I141a 2436) + 1 ≤ (I141a 773) ∧ (zk171 = 0 ∨ (I141a 2436) + 1 < (I141a 773))) ∧ ((I141a 773) = (I 773) ∧ (I141a 2439) - 1 = (I 2439) ∧ 0 ≤ (I141a 2117)) ∧ (I 2436) + 1 ≤ (I141a 2436) + 1 ∧ ((I141a 1670) + 1) + 1 ≤ (I 1670) + 2 * (((I141a 2436) + 1) - (I 2436)) ∧ (I 1670) ≤ (I141a 1670) + 1 by (repeat' apply And.intro) <;> first | assumption | omega), (show c_agl A A195 (I 1670) by exact g201), (show c_Wn A195 (c_r (I 2439) 1) (I141a 1670) (I 1670) ((I141a 1670) + 1) by exact c_Wn_win (c_Wn_up k199 (show c_r (I 2439) 1 ≤ c_r (I 2439) 1 by unfold c_r; omega)) (show (I 1670) ≤ (I 1670) by omega) (show ((I141a 1670) + 1) ≤ ((I141a 1670) + 1) by omega))⟩
              · rw [e177]
                replace hR169b : w_Rep w_TC fr X (u + 6) (l + 64) I169b A169b B169b C169b M168 := hR169b
                replace f178 : c_fi c_ps I141a I169b := f178
                replace f179 : c_fa c_pa A141a A169b := f179
                replace f180 : M168.1[t176]? = some (.inr (11, [])) := f180
                exact Or.inr (⟨t176, I169b, A169b, B169b, C169b, rfl, hR169b, (show c_fi c_ps I I169b by exact (c_fi_trans (c_fi_trans (c_fi_up (c_fi_up (c_fi_up (c_fi_up (c_fi_up c_fi_refl rfl) rfl) rfl) rfl) rfl) f146) f178)), (show c_fa c_pa A A169b by exact (c_fa_trans f147 f179)), (show M168.1[t176]? = some (.inr (11, [])) by exact f180)⟩)
            · rw [e152]
              replace hR141b : w_Rep w_TC fr X (u + 6) (l + 64) I141b A141b B141b C141b M140 := hR141b
              replace f153 : c_fi c_ps (w_up (w_up (w_up (w_up (w_up I 2436 ((I 2436) + 1 + 1)) 2441 (zt19)) 2437 (zk20)) 2438 (zv21)) 2439 ((I 2439) + 1)) I141b := f153
              replace f154 : c_fa c_pa A A141b := f154
              replace f155 : M140.1[t151]? = some (.inr (11, [])) := f155
              exact Or.inr (⟨t151, I141b, A141b, B141b, C141b, rfl, hR141b, (show c_fi c_ps I I141b by exact (c_fi_trans (c_fi_up (c_fi_up (c_fi_up (c_fi_up (c_fi_up c_fi_refl rfl) rfl) rfl) rfl) rfl) f153)), (show c_fa c_pa A A141b by exact f154), (show M140.1[t151]? = some (.inr (11, [])) by exact f155)⟩)
        · rw [e62, e63]
          show w_W _ _ _ (31, [(2, .int (Int32.ofInt ((-1)))), (1, .int (Int32.ofInt ((I 2438)))), (0, .ref 38)], [.int (Int32.ofInt (0))], M17) _
          refine w_adv (n := 2) (F' := (60, [(2, .int (Int32.ofInt ((-1)))), (1, .int (Int32.ofInt ((I 2438)))), (0, .ref 38)], [.ref 38], M17)) rfl ?_
          refine w_call (cm := 107) (as := [(0, .ref 38)]) (rest := []) (o := some (4, 38)) rfl (w_fitR hR18a rfl) (c_fields (c_ALL_dn hA) hR18a (show 10 * (24 - ((I 2439) + 1)) + 14 ≤ (d : Int) by omega) (show l ≤ 100000 by first | assumption | omega) (show (0 ≤ (I 2436) + 1 + 1 ∧ (I 2436) + 1 + 1 ≤ (I 773) ∧ (I 773) ≤ 1501 ∧ (zk20 = 0 ∨ (I 2436) + 1 + 1 < (I 773))) ∧ (0 ≤ (I 2439) + 1 ∧ (I 2439) + 1 ≤ 24 ∧ 0 ≤ (I 2117)) ∧ 0 ≤ (I 1670) ∧ (I 1670) ≤ 2 * ((I 2436) + 1 + 1) + 1 by (repeat' apply And.intro) <;> first | assumption | omega)) (fun r202 M203 q204 => ?_)
          rcases q204 with ⟨v205, I204a, A204a, B204a, C204a, e206, ⟨r207, r208⟩, hR204a, f209, f210, f211, f212, f213⟩ | ⟨t214, I204b, A204b, B204b, C204b, e215, hR204b, f216, f217, f218⟩
          · rw [e206]
            replace hR204a : w_Rep w_TC fr X u l I204a A204a B204a C204a M203 := hR204a
            replace f209 : c_fi c_ps (w_up (w_up (w_up (w_up (w_up I 2436 ((I 2436) + 1 + 1)) 2441 (zt19)) 2437 (zk20)) 2438 (zv21)) 2439 ((I 2439) + 1)) I204a := f209
            replace f210 : c_fa c_pa A A204a := f210
            replace f211 : (0 ≤ (I204a 2436) ∧ (I204a 2436) ≤ (I204a 773) ∧ ((I204a 2437) = 0 ∨ (I204a 2436) < (I204a 773))) ∧ ((I204a 773) = (I 773) ∧ (I204a 2439) = (I 2439) + 1 ∧ 0 ≤ (I204a 2117)) ∧ ((I 2436) + 1 + 1) + 0 ≤ (I204a 2436) ∧ (I204a 1670) + 0 ≤ (I 1670) + 2 * ((I204a 2436) - ((I 2436) + 1 + 1)) ∧ (I 1670) ≤ (I204a 1670) := f211
            obtain ⟨⟨n219, n220, n221⟩, ⟨n222, n223, n224⟩, n225, n226, n227⟩ := id f211
            clear f211
            replace f212 : c_agl A A204a (I 1670) := f212
            replace f213 : c_Ch (A204a 31) (c_P1 A204a (c_r ((I 2439) + 1) 4)) v205 (I 1670) (I204a 1670) := f213
            have g228 : c_agl A A204a (I 1670) := c_agl_trans c_agl_refl f212 (show (I 1670) ≤ (I 1670) by omega)
            have k229 : c_Ch (A204a 31) (c_P1 A204a (c_r (I 2439) 0)) v205 (I 1670) (I204a 1670) := by rw [show (c_r (I 2439) 0) = (c_r ((I 2439) + 1) 4) from by unfold c_r; omega]; exact f213
            show w_W _ _ _ (63, [(2, .int (Int32.ofInt ((-1)))), (1, .int (Int32.ofInt ((I 2438)))), (0, .ref 38)], [.int (Int32.ofInt (v205))], M203) _
            refine w_adv (n := 3) (F' := (67, [(2, .int (Int32.ofInt (v205))), (1, .int (Int32.ofInt ((I 2438)))), (0, .ref 38)], [.int (Int32.ofInt (6)), .ref 38], M203)) rfl ?_
            refine w_call (cm := 113) (as := [(0, .ref 38), (1, .int (Int32.ofInt (6)))]) (rest := []) (o := some (4, 38)) rfl (w_fitR hR204a rfl) (c_close (6) hR204a (show 4 ≤ d by omega) ⟨by omega, by omega⟩ (show l ≤ 100000 by first | assumption | omega) (show -1 ≤ (I204a 2436) ∧ ((I204a 2437) = 0 ∨ (I204a 2436) < (I204a 773)) ∧ (I204a 773) ≤ 1501 ∧ 1 ≤ 6 by first | assumption | omega) (show 0 ≤ (I204a 2439) ∧ (I204a 2439) ≤ 24 by first | assumption | omega)) (fun r230 M231 q232 => ?_)
            rcases q232 with ⟨zt233, zk234, zv235, e236, hR232a, f237, f238⟩ | ⟨t239, I232b, A232b, B232b, C232b, e240, hR232b, f241, f242, f243⟩
            · rw [e236]
              replace hR232a : w_Rep w_TC fr X u l (w_up (w_up (w_up (w_up (w_up I204a 2436 ((I204a 2436) + 1)) 2441 (zt233)) 2437 (zk234)) 2438 (zv235)) 2439 ((I204a 2439) - 1)) A204a B204a C204a M231 := hR232a
              replace f237 : ((I204a 2436) + 1 < (I204a 773) ∨ zk234 = 0) := f237
              replace f238 : (I204a 2437) = 6 := f238
              show w_W _ _ _ (70, [(2, .int (Int32.ofInt (v205))), (1, .int (Int32.ofInt ((I 2438)))), (0, .ref 38)], [], M231) _
              refine w_adv (n := 2) (F' := (72, [(2, .int (Int32.ofInt (v205))), (1, .int (Int32.ofInt ((I 2438)))), (0, .ref 38)], [.int (Int32.ofInt ((-1))), .int (Int32.ofInt (v205))], M231)) rfl ?_
              refine w_br2 (a := v205) (b := (-1)) rfl rfl ⟨by omega, by omega⟩ ⟨by omega, by omega⟩ (fun h244 => ?_) (fun h244 => ?_)
              · have h244 : ¬ v205 = (-1) := h244
                show w_W _ _ _ (89, [(2, .int (Int32.ofInt (v205))), (1, .int (Int32.ofInt ((I 2438)))), (0, .ref 38)], [], M231) _
                refine w_adv (n := 1) (F' := (90, [(2, .int (Int32.ofInt (v205))), (1, .int (Int32.ofInt ((I 2438)))), (0, .ref 38)], [.ref 38], M231)) rfl ?_
                refine w_gf (v := .ref 26) hR232a rfl rfl rfl rfl ?_
                refine w_adv (n := 4) (F' := (97, [(2, .int (Int32.ofInt (v205))), (1, .int (Int32.ofInt ((I 2438)))), (0, .ref 38)], [.int (Int32.ofInt ((-1))), .int (Int32.ofInt (v205)), .int (Int32.ofInt ((I 2438))), .int (Int32.ofInt (5)), .ref 26], M231)) rfl ?_
                refine w_call (cm := 94) (as := [(0, .ref 26), (1, .int (Int32.ofInt (5))), (2, .int (Int32.ofInt ((I 2438)))), (3, .int (Int32.ofInt (v205))), (4, .int (Int32.ofInt ((-1))))]) (rest := []) (o := some (8, 26)) rfl (w_fitR hR232a rfl) (c_mkn (5) ((I 2438)) (v205) ((-1)) hR232a (show 2 ≤ d by omega) ⟨by omega, by omega⟩ ⟨by omega, by omega⟩ ⟨by omega, by omega⟩ ⟨by omega, by omega⟩ (show 0 ≤ (I204a 1670) ∧ (I204a 1670) < 3016 by first | assumption | omega)) (fun r245 M246 q247 => ?_)
                rcases q247 with ⟨A248, e249, hR247a, f250, f251⟩
                rw [e249]
                replace hR247a : w_Rep w_TC fr X u l (w_up (w_up (w_up (w_up (w_up (w_up I204a 2436 ((I204a 2436) + 1)) 2441 (zt233)) 2437 (zk234)) 2438 (zv235)) 2439 ((I204a 2439) - 1)) 1670 ((I204a 1670) + 1)) A248 B204a C204a M246 := hR247a
                replace f250 : c_fa c_pa A204a A248 := f250
                replace f251 : c_mk A204a A248 (I204a 1670) 5 (I 2438) v205 (-1) := f251
                have k252 : c_Wn A248 (c_r (I 2439) 1) (I204a 1670) (I 1670) ((I204a 1670) + 1) := c_Wn_up ⟨c_W_5 f251 (show 0 ≤ (I 1670) by omega) (c_Ch_wide (fun _ _ => c_P1_win) k229 (show (I 1670) ≤ (I 1670) by omega) (show (I204a 1670) ≤ (I204a 1670) by omega)), f251.2.2.2.2.2⟩ (show (c_r (I 2439) 0) + 1 ≤ (c_r (I 2439) 1) by unfold c_r; omega)
                have k253 : c_Ch (A248 31) (c_P1 A248 (c_r (I 2439) 0)) v205 (I 1670) (I204a 1670) := c_Ch_agl c_P1_fam k229 f251.1 (show 0 ≤ (I 1670) by omega) (show (I204a 1670) ≤ (I204a 1670) by omega)
                clear k229
                have g254 : c_agl A A248 (I 1670) := c_agl_trans g228 f251.1 (show (I 1670) ≤ (I204a 1670) by omega)
                show w_W _ _ _ (100, [(2, .int (Int32.ofInt (v205))), (1, .int (Int32.ofInt ((I 2438)))), (0, .ref 38)], [.int (Int32.ofInt ((I204a 1670)))], M246) _
                refine w_fin (r := .inl (some ((I204a 1670)))) (M' := M246) rfl ?_
                exact Or.inl ⟨(I204a 1670), (w_up (w_up (w_up (w_up (w_up (w_up I204a 2436 ((I204a 2436) + 1)) 2441 (zt233)) 2437 (zk234)) 2438 (zv235)) 2439 ((I204a 2439) - 1)) 1670 ((I204a 1670) + 1)), A248, B204a, C204a, rfl, ⟨by omega, by omega⟩, hR247a, (show c_fi c_ps I (w_up (w_up (w_up (w_up (w_up (w_up I204a 2436 ((I204a 2436) + 1)) 2441 (zt233)) 2437 (zk234)) 2438 (zv235)) 2439 ((I204a 2439) - 1)) 1670 ((I204a 1670) + 1)) by exact (c_fi_up (c_fi_up (c_fi_up (c_fi_up (c_fi_up (c_fi_up (c_fi_trans (c_fi_up (c_fi_up (c_fi_up (c_fi_up (c_fi_up c_fi_refl rfl) rfl) rfl) rfl) rfl) f209) rfl) rfl) rfl) rfl) rfl) rfl)), (show c_fa c_pa A A248 by exact (c_fa_trans f210 f250)), (show (0 ≤ (I204a 2436) + 1 ∧ (I204a 2436) + 1 ≤ (I204a 773) ∧ (zk234 = 0 ∨ (I204a 2436) + 1 < (I204a 773))) ∧ ((I204a 773) = (I 773) ∧ (I204a 2439) - 1 = (I 2439) ∧ 0 ≤ (I204a 2117)) ∧ (I 2436) + 1 ≤ (I204a 2436) + 1 ∧ ((I204a 1670) + 1) + 1 ≤ (I 1670) + 2 * (((I204a 2436) + 1) - (I 2436)) ∧ (I 1670) ≤ (I204a 1670) + 1 by (repeat' apply And.intro) <;> first | assumption | omega), (show c_agl A A248 (I 1670) by exact g254), (show c_Wn A248 (c_r (I 2439) 1) (I204a 1670) (I 1670) ((I204a 1670) + 1) by exact c_Wn_win (c_Wn_up k252 (show c_r (I 2439) 1 ≤ c_r (I 2439) 1 by unfold c_r; omega)) (show (I 1670) ≤ (I 1670) by omega) (show ((I204a 1670) + 1) ≤ ((I204a 1670) + 1) by omega))⟩
              · have h244 : ¬ (¬ v205 = (-1)) := h244
                show w_W _ _ _ (75, [(2, .int (Int32.ofInt (v205))), (1, .int (Int32.ofInt ((I 2438)))), (0, .ref 38)], [], M231) _
                refine w_adv (n := 1) (F' := (76, [(2, .int (Int32.ofInt (v205))), (1, .int (Int32.ofInt ((I 2438)))), (0, .ref 38)], [.ref 38], M231)) rfl ?_
                refine w_gf (v := .ref 26) hR232a rfl rfl rfl rfl ?_
                refine w_adv (n := 4) (F' := (83, [(2, .int (Int32.ofInt (v205))), (1, .int (Int32.ofInt ((I 2438)))), (0, .ref 38)], [.int (Int32.ofInt ((-1))), .int (Int32.ofInt ((-1))), .int (Int32.ofInt ((I 2438))), .int (Int32.ofInt (4)), .ref 26], M231)) rfl ?_
                refine w_call (cm := 94) (as := [(0, .ref 26), (1, .int (Int32.ofInt (4))), (2, .int (Int32.ofInt ((I 2438)))), (3, .int (Int32.ofInt ((-1)))), (4, .int (Int32.ofInt ((-1))))]) (rest := []) (o := some (8, 26)) rfl (w_fitR hR232a rfl) (c_mkn (4) ((I 2438)) ((-1)) ((-1)) hR232a (show 2 ≤ d by omega) ⟨by omega, by omega⟩ ⟨by omega, by omega⟩ ⟨by omega, by omega⟩ ⟨by omega, by omega⟩ (show 0 ≤ (I204a 1670) ∧ (I204a 1670) < 3016 by first | assumption | omega)) (fun r255 M256 q257 => ?_)
                rcases q257 with ⟨A258, e259, hR257a, f260, f261⟩
                rw [e259]
                replace hR257a : w_Rep w_TC fr X u l (w_up (w_up (w_up (w_up (w_up (w_up I204a 2436 ((I204a 2436) + 1)) 2441 (zt233)) 2437 (zk234)) 2438 (zv235)) 2439 ((I204a 2439) - 1)) 1670 ((I204a 1670) + 1)) A258 B204a C204a M256 := hR257a
                replace f260 : c_fa c_pa A204a A258 := f260
                replace f261 : c_mk A204a A258 (I204a 1670) 4 (I 2438) (-1) (-1) := f261
                have k262 : c_Wn A258 (c_r (I 2439) 1) (I204a 1670) (I 1670) ((I204a 1670) + 1) := c_Wn_up ⟨c_W_leaf f261 (by omega) (show (I 1670) ≤ (I204a 1670) by omega), f261.2.2.2.2.2⟩ (show 1 ≤ (c_r (I 2439) 1) by unfold c_r; omega)
                have k263 : c_Ch (A258 31) (c_P1 A258 (c_r (I 2439) 0)) v205 (I 1670) (I204a 1670) := c_Ch_agl c_P1_fam k229 f261.1 (show 0 ≤ (I 1670) by omega) (show (I204a 1670) ≤ (I204a 1670) by omega)
                clear k229
                have g264 : c_agl A A258 (I 1670) := c_agl_trans g228 f261.1 (show (I 1670) ≤ (I204a 1670) by omega)
                show w_W _ _ _ (86, [(2, .int (Int32.ofInt (v205))), (1, .int (Int32.ofInt ((I 2438)))), (0, .ref 38)], [.int (Int32.ofInt ((I204a 1670)))], M256) _
                refine w_adv (n := 1) (F' := (100, [(2, .int (Int32.ofInt (v205))), (1, .int (Int32.ofInt ((I 2438)))), (0, .ref 38)], [.int (Int32.ofInt ((I204a 1670)))], M256)) rfl ?_
                refine w_fin (r := .inl (some ((I204a 1670)))) (M' := M256) rfl ?_
                exact Or.inl ⟨(I204a 1670), (w_up (w_up (w_up (w_up (w_up (w_up I204a 2436 ((I204a 2436) + 1)) 2441 (zt233)) 2437 (zk234)) 2438 (zv235)) 2439 ((I204a 2439) - 1)) 1670 ((I204a 1670) + 1)), A258, B204a, C204a, rfl, ⟨by omega, by omega⟩, hR257a, (show c_fi c_ps I (w_up (w_up (w_up (w_up (w_up (w_up I204a 2436 ((I204a 2436) + 1)) 2441 (zt233)) 2437 (zk234)) 2438 (zv235)) 2439 ((I204a 2439) - 1)) 1670 ((I204a 1670) + 1)) by exact (c_fi_up (c_fi_up (c_fi_up (c_fi_up (c_fi_up (c_fi_up (c_fi_trans (c_fi_up (c_fi_up (c_fi_up (c_fi_up (c_fi_up c_fi_refl rfl) rfl) rfl) rfl) rfl) f209) rfl) rfl) rfl) rfl) rfl) rfl)), (show c_fa c_pa A A258 by exact (c_fa_trans f210 f260)), (show (0 ≤ (I204a 2436) + 1 ∧ (I204a 2436) + 1 ≤ (I204a 773) ∧ (zk234 = 0 ∨ (I204a 2436) + 1 < (I204a 773))) ∧ ((I204a 773) = (I 773) ∧ (I204a 2439) - 1 = (I 2439) ∧ 0 ≤ (I204a 2117)) ∧ (I 2436) + 1 ≤ (I204a 2436) + 1 ∧ ((I204a 1670) + 1) + 1 ≤ (I 1670) + 2 * (((I204a 2436) + 1) - (I 2436)) ∧ (I 1670) ≤ (I204a 1670) + 1 by (repeat' apply And.intro) <;> first | assumption | omega), (show c_agl A A258 (I 1670) by exact g264), (show c_Wn A258 (c_r (I 2439) 1) (I204a 1670) (I 1670) ((I204a 1670) + 1) by exact c_Wn_win (c_Wn_up k262 (show c_r (I 2439) 1 ≤ c_r (I 2439) 1 by unfold c_r; omega)) (show (I 1670) ≤ (I 1670) by omega) (show ((I204a 1670) + 1) ≤ ((I204a 1670) + 1) by omega))⟩
            · rw [e240]
              replace hR232b : w_Rep w_TC fr X (u + 6) (l + 64) I232b A232b B232b C232b M231 := hR232b
              replace f241 : c_fi c_ps I204a I232b := f241
              replace f242 : c_fa c_pa A204a A232b := f242
              replace f243 : M231.1[t239]? = some (.inr (11, [])) := f243
              exact Or.inr (⟨t239, I232b, A232b, B232b, C232b, rfl, hR232b, (show c_fi c_ps I I232b by exact (c_fi_trans (c_fi_trans (c_fi_up (c_fi_up (c_fi_up (c_fi_up (c_fi_up c_fi_refl rfl) rfl) rfl) rfl) rfl) f209) f241)), (show c_fa c_pa A A232b by exact (c_fa_trans f210 f242)), (show M231.1[t239]? = some (.inr (11, [])) by exact f243)⟩)
          · rw [e215]
            replace hR204b : w_Rep w_TC fr X (u + 6) (l + 64) I204b A204b B204b C204b M203 := hR204b
            replace f216 : c_fi c_ps (w_up (w_up (w_up (w_up (w_up I 2436 ((I 2436) + 1 + 1)) 2441 (zt19)) 2437 (zk20)) 2438 (zv21)) 2439 ((I 2439) + 1)) I204b := f216
            replace f217 : c_fa c_pa A A204b := f217
            replace f218 : M203.1[t214]? = some (.inr (11, [])) := f218
            exact Or.inr (⟨t214, I204b, A204b, B204b, C204b, rfl, hR204b, (show c_fi c_ps I I204b by exact (c_fi_trans (c_fi_up (c_fi_up (c_fi_up (c_fi_up (c_fi_up c_fi_refl rfl) rfl) rfl) rfl) rfl) f216)), (show c_fa c_pa A A204b by exact f217), (show M203.1[t214]? = some (.inr (11, [])) by exact f218)⟩)
    · rw [e26]
      replace hR18b : w_Rep w_TC fr X (u + 6) (l + 64) I18b A18b B18b C18b M17 := hR18b
      replace f27 : c_fi c_ps (w_up (w_up (w_up (w_up I 2436 ((I 2436) + 1)) 2441 (zt6)) 2437 (zk7)) 2438 (zv8)) I18b := f27
      replace f28 : c_fa c_pa A A18b := f28
      replace f29 : M17.1[t25]? = some (.inr (11, [])) := f29
      exact Or.inr (⟨t25, I18b, A18b, B18b, C18b, rfl, hR18b, (show c_fi c_ps I I18b by exact (c_fi_trans (c_fi_up (c_fi_up (c_fi_up (c_fi_up c_fi_refl rfl) rfl) rfl) rfl) f27)), (show c_fa c_pa A A18b by exact f28), (show M17.1[t25]? = some (.inr (11, [])) by exact f29)⟩)
  · rw [e12]
    replace hR5b : w_Rep w_TC fr X (u + 6) (l + 64) I5b A5b B5b C5b M4 := hR5b
    replace f13 : c_fi c_ps I I5b := f13
    replace f14 : c_fa c_pa A A5b := f14
    replace f15 : M4.1[t11]? = some (.inr (11, [])) := f15
    exact Or.inr (⟨t11, I5b, A5b, B5b, C5b, rfl, hR5b, (show c_fi c_ps I I5b by exact f13), (show c_fa c_pa A A5b by exact f14), (show M4.1[t11]? = some (.inr (11, [])) by exact f15)⟩)
