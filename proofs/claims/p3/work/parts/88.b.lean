/-! CALLS of the class: the parser's program. -/
def c_scl_Q (fr : Nat → Bool) (X : Nat → Option (q_C (Nat → Int32))) (u l : Nat) (I : Nat → Int) (A : Nat → Int → Int) (B C : Nat → Nat) (M : w_M) : w_X → w_M → Prop := fun r M' => (∃ (I' : Nat → Int) (A' : Nat → Int → Int) (B' C' : Nat → Nat), (r = .inl none) ∧ (w_Rep w_TC fr X u l I' A' B' C' M') ∧ (c_fi c_ps I I') ∧ (c_fa c_pa A A') ∧ (0 ≤ (I' 2117) ∧ (I' 1670) = (I 1670) ∧ (I' 773) = (I 773) ∧ (I' 2436) = (I 2436) ∧ (I' 2439) = (I 2439)))
set_option maxHeartbeats 100000000 in
set_option maxRecDepth 100000 in
theorem c_scl {L : Nat} {xs : Nat → Int32} {d : Nat} {fr : Nat → Bool} {X : Nat → Option (q_C (Nat → Int32))} {u l : Nat} {I : Nat → Int} {A : Nat → Int → Int} {B C : Nat → Nat} {M : w_M} (hR : w_Rep w_TC fr X u l I A B C M) (hd : 3 ≤ d) : w_W (z_P L xs) d 77 (0, [(0, .ref 33)], [], M) (c_scl_Q fr X u l I A B C M) := by
  obtain ⟨d, rfl⟩ : ∃ d0, d = d0 + 1 := ⟨d - 1, by omega⟩
  refine w_adv (n := 2) (F' := (2, [(0, .ref 33)], [.int (Int32.ofInt (0)), .ref 33], M)) rfl ?_
  refine w_pf hR rfl rfl rfl rfl (show w_in (0) from ⟨by omega, by omega⟩) (fun h => absurd h (by decide)) (fun M1 hR2 => ?_)
  replace hR2 : w_Rep w_TC fr X u l (w_up I 2117 (0)) A B C M1 := hR2
  refine w_adv (n := 1) (F' := (6, [(0, .ref 33)], [.ref 33], M1)) rfl ?_
  refine w_gf (v := .ref 37) hR2 rfl rfl rfl rfl ?_
  refine w_adv (n := 1) (F' := (10, [(0, .ref 33)], [.int (Int32.ofInt ((-1))), .ref 37], M1)) rfl ?_
  refine w_call (cm := 5) (as := [(0, .ref 37), (1, .int (Int32.ofInt ((-1))))]) (rest := []) (o := none) rfl (trivial) (c_fill ((-1)) hR2 ⟨by omega, by omega⟩) (fun r3 M4 q5 => ?_)
  rcases q5 with ⟨gf6, e7, hR5a⟩
  rw [e7]
  replace hR5a : w_Rep w_TC fr X u l (w_up I 2117 (0)) (w_upF A 37 gf6) B C M4 := hR5a
  show w_W _ _ _ (13, [(0, .ref 33)], [], M4) _
  refine w_adv (n := 2) (F' := (15, [(1, .int (Int32.ofInt (0))), (0, .ref 33)], [], M4)) rfl ?_
  have lp15 : ∀ fu15 : Nat, ∀ (y15_1 : Int) (I_15 : Nat → Int) (A_15 : Nat → Int → Int) (B_15 C_15 : Nat → Nat) (M_15 : w_M) (hR_15 : w_Rep w_TC fr X u l I_15 A_15 B_15 C_15 M_15), w_in y15_1 → c_fi c_ps I I_15 → c_fa c_pa A A_15 → 0 ≤ (I_15 2117) ∧ (I_15 1670) = (I 1670) ∧ (I_15 773) = (I 773) ∧ (I_15 2436) = (I 2436) ∧ (I_15 2439) = (I 2439) → 0 ≤ y15_1 ∧ y15_1 ≤ 7 → 7 - y15_1 < (fu15 : Int) → w_W (z_P L xs) (d + 1) 77 (15, [(0, .ref 33), (1, .int (Int32.ofInt (y15_1)))], [], M_15) (c_scl_Q fr X u l I A B C M) := by
    intro fu15
    induction fu15 with
    | zero =>
      intro y15_1 I_15 A_15 B_15 C_15 M_15 hR_15 ⟨ra_y15_1, rb_y15_1⟩ hi15_0 hi15_1 hi15_2 hi15_3 hn15
      exfalso
      omega
    | succ fu15 ih15 =>
      intro y15_1 I_15 A_15 B_15 C_15 M_15 hR_15 ⟨ra_y15_1, rb_y15_1⟩ hi15_0 hi15_1 hi15_2 hi15_3 hn15
      refine w_adv (n := 2) (F' := (18, [(0, .ref 33), (1, .int (Int32.ofInt (y15_1)))], [.int (Int32.ofInt (7)), .int (Int32.ofInt (y15_1))], M_15)) rfl ?_
      refine w_br2 (a := y15_1) (b := 7) rfl rfl ⟨by omega, by omega⟩ ⟨by omega, by omega⟩ (fun h8 => ?_) (fun h8 => ?_)
      · have h8 : y15_1 ≥ 7 := h8
        show w_W _ _ _ (44, [(0, .ref 33), (1, .int (Int32.ofInt (y15_1)))], [], M_15) _
        refine w_fin (r := .inl none) (M' := M_15) rfl ?_
        exact ⟨I_15, A_15, B_15, C_15, rfl, hR_15, (show c_fi c_ps I I_15 by exact hi15_0), (show c_fa c_pa A A_15 by exact hi15_1), (show 0 ≤ (I_15 2117) ∧ (I_15 1670) = (I 1670) ∧ (I_15 773) = (I 773) ∧ (I_15 2436) = (I 2436) ∧ (I_15 2439) = (I 2439) by (repeat' apply And.intro) <;> first | assumption | omega)⟩
      · have h8 : ¬ (y15_1 ≥ 7) := h8
        show w_W _ _ _ (21, [(0, .ref 33), (1, .int (Int32.ofInt (y15_1)))], [], M_15) _
        refine w_adv (n := 3) (F' := (24, [(0, .ref 33), (1, .int (Int32.ofInt (y15_1)))], [.ref 33, .ref 33, .ref 33], M_15)) rfl ?_
        refine w_gf (v := .ref 3) hR_15 rfl rfl rfl rfl ?_
        refine w_adv (n := 1) (F' := (28, [(0, .ref 33), (1, .int (Int32.ofInt (y15_1)))], [.int (Int32.ofInt (y15_1)), .ref 3, .ref 33, .ref 33], M_15)) rfl ?_
        refine w_call (cm := 30) (as := [(0, .ref 3), (1, .int (Int32.ofInt (y15_1)))]) (rest := [.ref 33, .ref 33]) (o := some (3, 3)) rfl (w_fitR hR_15 rfl) (c_entryOfBasis (y15_1) hR_15 (show 1 ≤ d by omega) ⟨by omega, by omega⟩ (show -1 ≤ y15_1 ∧ y15_1 ≤ 1000000 by first | assumption | omega)) (fun r9 M10 q11 => ?_)
        rcases q11 with ⟨v12, e13, ⟨r14, r15⟩, e16⟩
        rw [e13, e16]
        show w_W _ _ _ (31, [(0, .ref 33), (1, .int (Int32.ofInt (y15_1)))], [.int (Int32.ofInt (v12)), .ref 33, .ref 33], M_15) _
        refine w_call (cm := 78) (as := [(0, .ref 33), (1, .int (Int32.ofInt (v12)))]) (rest := [.ref 33]) (o := some (5, 33)) rfl (w_fitR hR_15 rfl) (c_bnd (v12) hR_15 ⟨by omega, by omega⟩ (show 0 ≤ (I_15 2117) by first | assumption | omega)) (fun r17 M18 q19 => ?_)
        rcases q19 with ⟨v20, A21, zs22, e23, ⟨r24, r25⟩, hR19a, f26, f27, f28⟩
        rw [e23]
        replace hR19a : w_Rep w_TC fr X u l (w_up I_15 2117 (zs22)) A21 B_15 C_15 M18 := hR19a
        replace f26 : c_fa c_pa A_15 A21 := f26
        replace f27 : c_ags A_15 A21 := f27
        replace f28 : 0 ≤ zs22 ∧ -1 ≤ v20 ∧ v20 ≤ 1508 := f28
        obtain ⟨n29, n30, n31⟩ := id f28
        clear f28
        show w_W _ _ _ (34, [(0, .ref 33), (1, .int (Int32.ofInt (y15_1)))], [.int (Int32.ofInt (v20)), .ref 33], M18) _
        refine w_adv (n := 1) (F' := (35, [(0, .ref 33), (1, .int (Int32.ofInt (y15_1)))], [.int (Int32.ofInt (y15_1)), .int (Int32.ofInt (v20)), .ref 33], M18)) rfl ?_
        refine w_call (cm := 79) (as := [(0, .ref 33), (1, .int (Int32.ofInt (v20))), (2, .int (Int32.ofInt (y15_1)))]) (rest := []) (o := some (5, 33)) rfl (w_fitR hR19a rfl) (c_Scope_setVariable (v20) (y15_1) hR19a (show 2 ≤ d by omega) ⟨by omega, by omega⟩ ⟨by omega, by omega⟩) (fun r32 M33 q34 => ?_)
        rcases q34 with ⟨e35, hR34a⟩
        rw [e35]
        replace hR34a : w_Rep w_TC fr X u l (w_up I_15 2117 (zs22)) (w_upF A21 36 (w_upG 1508 (A21 36) (v20) (y15_1))) B_15 C_15 M33 := hR34a
        show w_W _ _ _ (38, [(0, .ref 33), (1, .int (Int32.ofInt (y15_1)))], [], M33) _
        refine w_inc (nL := 2) (a := y15_1) rfl rfl rfl (by decide) ?_
        refine w_adv (n := 1) (F' := (15, [(1, .int (Int32.ofInt (y15_1 + 1))), (0, .ref 33)], [], M33)) rfl ?_
        refine w_ls (ls := [(0, .ref 33), (1, .int (Int32.ofInt (y15_1 + 1)))]) (show List.Nodup [0, 1] by decide) (show List.Nodup [1, 0] by decide) (List.forall_mem_cons.mpr ⟨(List.Mem.tail _ (List.Mem.head _)), (List.forall_mem_cons.mpr ⟨(List.Mem.head _), (fun _ h => by cases h)⟩)⟩) ?_
        exact ih15  (y15_1 + 1) (w_up I_15 2117 (zs22)) (w_upF A21 36 (w_upG 1508 (A21 36) (v20) (y15_1))) B_15 C_15 M33 hR34a ⟨by omega, by omega⟩ (show c_fi c_ps I (w_up I_15 2117 (zs22)) by exact (c_fi_up hi15_0 rfl)) (show c_fa c_pa A (w_upF A21 36 (w_upG 1508 (A21 36) (v20) (y15_1))) by exact (c_fa_up (c_fa_trans hi15_1 f26) rfl)) (show 0 ≤ zs22 ∧ (I_15 1670) = (I 1670) ∧ (I_15 773) = (I 773) ∧ (I_15 2436) = (I 2436) ∧ (I_15 2439) = (I 2439) by (repeat' apply And.intro) <;> first | assumption | omega) (show 0 ≤ (y15_1 + 1) ∧ (y15_1 + 1) ≤ 7 by omega) (show 7 - (y15_1 + 1) < (fu15 : Int) by omega)
  refine w_ls (ls := [(0, .ref 33), (1, .int (Int32.ofInt (0)))]) (show List.Nodup [0, 1] by decide) (show List.Nodup [1, 0] by decide) (List.forall_mem_cons.mpr ⟨(List.Mem.tail _ (List.Mem.head _)), (List.forall_mem_cons.mpr ⟨(List.Mem.head _), (fun _ h => by cases h)⟩)⟩) ?_
  exact lp15 ((7 - 0 : Int).toNat + 1)  (0) (w_up I 2117 (0)) (w_upF A 37 gf6) B C M4 hR5a ⟨by omega, by omega⟩ (show c_fi c_ps I (w_up I 2117 (0)) by exact (c_fi_up c_fi_refl rfl)) (show c_fa c_pa A (w_upF A 37 gf6) by exact (c_fa_up c_fa_refl rfl)) (show 0 ≤ 0 ∧ (I 1670) = (I 1670) ∧ (I 773) = (I 773) ∧ (I 2436) = (I 2436) ∧ (I 2439) = (I 2439) by (repeat' apply And.intro) <;> first | assumption | omega) (show 0 ≤ (0 : Int) ∧ (0 : Int) ≤ 7 by omega) (show 7 - 0 < (((7 - 0 : Int).toNat + 1 : Nat) : Int) by omega)
def c_pprog_Q (fr : Nat → Bool) (X : Nat → Option (q_C (Nat → Int32))) (u l : Nat) (I : Nat → Int) (A : Nat → Int → Int) (B C : Nat → Nat) (M : w_M) : w_X → w_M → Prop := fun r M' => (∃ v : Int, ∃ (I' : Nat → Int) (A' : Nat → Int → Int) (B' C' : Nat → Nat), (r = .inl (some v)) ∧ (w_in v) ∧ (w_Rep w_TC fr X u l I' A' B' C' M') ∧ (c_fi c_ps I I') ∧ (c_fa c_pa A A') ∧ ((I' 1670) ≤ 3002) ∧ (c_Bd A' (c_W A' 100) v 0 (I' 1670))) ∨ (∃ t : Nat, ∃ (I' : Nat → Int) (A' : Nat → Int → Int) (B' C' : Nat → Nat), (r = .inr t) ∧ (w_Rep w_TC fr X (u + 6) (l + 64) I' A' B' C' M') ∧ (c_fi c_ps I I') ∧ (c_fa c_pa A A') ∧ (M'.1[t]? = some (.inr (11, []))))
set_option maxHeartbeats 100000000 in
set_option maxRecDepth 100000 in
theorem c_pprog {L : Nat} {xs : Nat → Int32} {d : Nat} {fr : Nat → Bool} {X : Nat → Option (q_C (Nat → Int32))} {u l : Nat} {I : Nat → Int} {A : Nat → Int → Int} {B C : Nat → Nat} {M : w_M} (hR : w_Rep w_TC fr X u l I A B C M) (hd : 300 ≤ d) (hl : l ≤ 7000000) (hT : 1 ≤ (I 773) ∧ (I 773) ≤ 1501) : w_W (z_P L xs) d 75 (0, [(0, .ref 38)], [], M) (c_pprog_Q fr X u l I A B C M) := by
  obtain ⟨d, rfl⟩ : ∃ d0, d = d0 + 1 := ⟨d - 1, by omega⟩
  refine w_adv (n := 2) (F' := (2, [(0, .ref 38)], [.int (Int32.ofInt ((-1))), .ref 38], M)) rfl ?_
  refine w_pf hR rfl rfl rfl rfl (show w_in ((-1)) from ⟨by omega, by omega⟩) (fun h => absurd h (by decide)) (fun M1 hR2 => ?_)
  replace hR2 : w_Rep w_TC fr X u l (w_up I 2436 ((-1))) A B C M1 := hR2
  refine w_adv (n := 2) (F' := (7, [(0, .ref 38)], [.int (Int32.ofInt (0)), .ref 38], M1)) rfl ?_
  refine w_pf hR2 rfl rfl rfl rfl (show w_in (0) from ⟨by omega, by omega⟩) (fun h => absurd h (by decide)) (fun M3 hR4 => ?_)
  replace hR4 : w_Rep w_TC fr X u l (w_up (w_up I 2436 ((-1))) 2439 (0)) A B C M3 := hR4
  refine w_adv (n := 2) (F' := (12, [(0, .ref 38)], [.int (Int32.ofInt (0)), .ref 38], M3)) rfl ?_
  refine w_pf hR4 rfl rfl rfl rfl (show w_in (0) from ⟨by omega, by omega⟩) (fun h => absurd h (by decide)) (fun M5 hR6 => ?_)
  replace hR6 : w_Rep w_TC fr X u l (w_up (w_up (w_up I 2436 ((-1))) 2439 (0)) 2440 (0)) A B C M5 := hR6
  refine w_adv (n := 2) (F' := (17, [(0, .ref 38)], [.int (Int32.ofInt (0)), .ref 38], M5)) rfl ?_
  refine w_pf hR6 rfl rfl rfl rfl (show w_in (0) from ⟨by omega, by omega⟩) (fun h => absurd h (by decide)) (fun M7 hR8 => ?_)
  replace hR8 : w_Rep w_TC fr X u l (w_up (w_up (w_up (w_up I 2436 ((-1))) 2439 (0)) 2440 (0)) 2441 (0)) A B C M7 := hR8
  refine w_adv (n := 1) (F' := (21, [(0, .ref 38)], [.ref 38], M7)) rfl ?_
  refine w_gf (v := .ref 26) hR8 rfl rfl rfl rfl ?_
  refine w_call (cm := 76) (as := [(0, .ref 26)]) (rest := []) (o := some (8, 26)) rfl (w_fitR hR8 rfl) (c_Tree_clear hR8) (fun r9 M10 q11 => ?_)
  rcases q11 with ⟨e12, hR11a⟩
  rw [e12]
  replace hR11a : w_Rep w_TC fr X u l (w_up (w_up (w_up (w_up (w_up I 2436 ((-1))) 2439 (0)) 2440 (0)) 2441 (0)) 1670 (0)) A B C M10 := hR11a
  show w_W _ _ _ (27, [(0, .ref 38)], [], M10) _
  refine w_adv (n := 1) (F' := (28, [(0, .ref 38)], [.ref 38], M10)) rfl ?_
  refine w_gf (v := .ref 33) hR11a rfl rfl rfl rfl ?_
  refine w_call (cm := 77) (as := [(0, .ref 33)]) (rest := []) (o := some (5, 33)) rfl (w_fitR hR11a rfl) (c_scl hR11a (show 3 ≤ d by omega)) (fun r13 M14 q15 => ?_)
  rcases q15 with ⟨I15a, A15a, B15a, C15a, e16, hR15a, f17, f18, f19⟩
  rw [e16]
  replace hR15a : w_Rep w_TC fr X u l I15a A15a B15a C15a M14 := hR15a
  replace f17 : c_fi c_ps (w_up (w_up (w_up (w_up (w_up I 2436 ((-1))) 2439 (0)) 2440 (0)) 2441 (0)) 1670 (0)) I15a := f17
  replace f18 : c_fa c_pa A A15a := f18
  replace f19 : 0 ≤ (I15a 2117) ∧ (I15a 1670) = 0 ∧ (I15a 773) = (I 773) ∧ (I15a 2436) = (-1) ∧ (I15a 2439) = 0 := f19
  obtain ⟨n20, n21, n22, n23, n24⟩ := id f19
  clear f19
  show w_W _ _ _ (34, [(0, .ref 38)], [], M14) _
  refine w_adv (n := 1) (F' := (35, [(0, .ref 38)], [.ref 38], M14)) rfl ?_
  refine w_call (cm := 80) (as := [(0, .ref 38)]) (rest := []) (o := some (4, 38)) rfl (w_fitR hR15a rfl) (c_advance hR15a (show 3 ≤ d by omega) (show l ≤ 7000000 by first | assumption | omega) (show -1 ≤ (I15a 2436) ∧ (I15a 2436) < (I15a 773) ∧ (I15a 773) ≤ 1501 by first | assumption | omega)) (fun r25 M26 q27 => ?_)
  rcases q27 with ⟨zt28, zk29, zv30, e31, hR27a, f32⟩ | ⟨t33, I27b, A27b, B27b, C27b, e34, hR27b, f35, f36, f37⟩
  · rw [e31]
    replace hR27a : w_Rep w_TC fr X u l (w_up (w_up (w_up (w_up I15a 2436 ((I15a 2436) + 1)) 2441 (zt28)) 2437 (zk29)) 2438 (zv30)) A15a B15a C15a M26 := hR27a
    replace f32 : ((I15a 2436) + 1 < (I15a 773) ∨ zk29 = 0) := f32
    show w_W _ _ _ (38, [(0, .ref 38)], [], M26) _
    refine w_adv (n := 2) (F' := (40, [(0, .ref 38)], [.int (Int32.ofInt (0)), .ref 38], M26)) rfl ?_
    refine w_call (cm := 88) (as := [(0, .ref 38), (1, .int (Int32.ofInt (0)))]) (rest := []) (o := some (4, 38)) rfl (w_fitR hR27a rfl) (c_block (c_all L xs _) (0) hR27a (show 10 * (24 - (I15a 2439)) + 15 ≤ (d : Int) by omega) ⟨by omega, by omega⟩ (show l ≤ 7000000 by first | assumption | omega) (show (0 ≤ (I15a 2436) + 1 ∧ (I15a 2436) + 1 ≤ (I15a 773) ∧ (I15a 773) ≤ 1501 ∧ (zk29 = 0 ∨ (I15a 2436) + 1 < (I15a 773))) ∧ (0 ≤ (I15a 2439) ∧ (I15a 2439) ≤ 24 ∧ 0 ≤ (I15a 2117)) ∧ 0 ≤ (I15a 1670) ∧ (I15a 1670) ≤ 2 * ((I15a 2436) + 1) + 1 by (repeat' apply And.intro) <;> first | assumption | omega)) (fun r38 M39 q40 => ?_)
    rcases q40 with ⟨v41, I40a, A40a, B40a, C40a, e42, ⟨r43, r44⟩, hR40a, f45, f46, f47, f48, f49⟩ | ⟨t50, I40b, A40b, B40b, C40b, e51, hR40b, f52, f53, f54⟩
    · rw [e42]
      replace hR40a : w_Rep w_TC fr X u l I40a A40a B40a C40a M39 := hR40a
      replace f45 : c_fi c_ps (w_up (w_up (w_up (w_up I15a 2436 ((I15a 2436) + 1)) 2441 (zt28)) 2437 (zk29)) 2438 (zv30)) I40a := f45
      replace f46 : c_fa c_pa A15a A40a := f46
      replace f47 : (0 ≤ (I40a 2436) ∧ (I40a 2436) ≤ (I40a 773) ∧ ((I40a 2437) = 0 ∨ (I40a 2436) < (I40a 773))) ∧ ((I40a 773) = (I15a 773) ∧ (I40a 2439) = (I15a 2439) ∧ 0 ≤ (I40a 2117)) ∧ ((I15a 2436) + 1) + 1 ≤ (I40a 2436) ∧ (I40a 1670) + 0 ≤ (I15a 1670) + 2 * ((I40a 2436) - ((I15a 2436) + 1)) ∧ (I15a 1670) ≤ (I40a 1670) := f47
      obtain ⟨⟨n55, n56, n57⟩, ⟨n58, n59, n60⟩, n61, n62, n63⟩ := id f47
      clear f47
      replace f48 : c_agl A15a A40a (I15a 1670) := f48
      replace f49 : c_Bd A40a (c_W A40a (c_r (I15a 2439) 4)) v41 (I15a 1670) (I40a 1670) := f49
      show w_W _ _ _ (43, [(0, .ref 38)], [.int (Int32.ofInt (v41))], M39) _
      refine w_adv (n := 2) (F' := (45, [(1, .int (Int32.ofInt (v41))), (0, .ref 38)], [.ref 38], M39)) rfl ?_
      refine w_gf (v := .int (Int32.ofInt ((I40a 2437)))) hR40a rfl rfl rfl rfl ?_
      obtain ⟨r64, r65⟩ : -2147483648 ≤ (I40a 2437) ∧ (I40a 2437) ≤ 2147483647 := hR40a.ri 2437
      refine w_br1 (a := (I40a 2437)) rfl rfl ⟨by omega, by omega⟩ (fun h66 => ?_) (fun h66 => ?_)
      · have h66 : ¬ (I40a 2437) = 0 := h66
        show w_W _ _ _ (55, [(1, .int (Int32.ofInt (v41))), (0, .ref 38)], [], M39) _
        refine w_adv (n := 2) (F' := (57, [(1, .int (Int32.ofInt (v41))), (0, .ref 38)], [.int (Int32.ofInt (1)), .ref 38], M39)) rfl ?_
        refine w_call (cm := 100) (as := [(0, .ref 38), (1, .int (Int32.ofInt (1)))]) (rest := []) (o := some (4, 38)) rfl (w_fitR hR40a rfl) (c_fail (1) hR40a ⟨by omega, by omega⟩ (show l ≤ 7000000 by first | assumption | omega) (show 1 ≤ 1 ∧ 1 ≤ 7 by first | assumption | omega)) (fun r67 M68 q69 => ?_)
        rcases q69 with ⟨t70, I69a, A69a, B69a, C69a, e71, hR69a, f72, f73, f74⟩
        rw [e71]
        replace hR69a : w_Rep w_TC fr X (u + 6) (l + 64) I69a A69a B69a C69a M68 := hR69a
        replace f72 : c_fi c_ps I40a I69a := f72
        replace f73 : c_fa c_pa A40a A69a := f73
        replace f74 : M68.1[t70]? = some (.inr (11, [])) := f74
        exact Or.inr (⟨t70, I69a, A69a, B69a, C69a, rfl, hR69a, (show c_fi c_ps I I69a by exact (c_fi_trans (c_fi_trans (c_fi_up (c_fi_up (c_fi_up (c_fi_up (c_fi_trans (c_fi_up (c_fi_up (c_fi_up (c_fi_up (c_fi_up c_fi_refl rfl) rfl) rfl) rfl) rfl) f17) rfl) rfl) rfl) rfl) f45) f72)), (show c_fa c_pa A A69a by exact (c_fa_trans (c_fa_trans f18 f46) f73)), (show M68.1[t70]? = some (.inr (11, [])) by exact f74)⟩)
      · have h66 : ¬ (¬ (I40a 2437) = 0) := h66
        show w_W _ _ _ (51, [(1, .int (Int32.ofInt (v41))), (0, .ref 38)], [], M39) _
        refine w_adv (n := 2) (F' := (60, [(1, .int (Int32.ofInt (v41))), (0, .ref 38)], [.int (Int32.ofInt (v41))], M39)) rfl ?_
        refine w_fin (r := .inl (some (v41))) (M' := M39) rfl ?_
        exact Or.inl ⟨v41, I40a, A40a, B40a, C40a, rfl, ⟨by omega, by omega⟩, hR40a, (show c_fi c_ps I I40a by exact (c_fi_trans (c_fi_up (c_fi_up (c_fi_up (c_fi_up (c_fi_trans (c_fi_up (c_fi_up (c_fi_up (c_fi_up (c_fi_up c_fi_refl rfl) rfl) rfl) rfl) rfl) f17) rfl) rfl) rfl) rfl) f45)), (show c_fa c_pa A A40a by exact (c_fa_trans f18 f46)), (show (I40a 1670) ≤ 3002 by (repeat' apply And.intro) <;> first | assumption | omega), (show c_Bd A40a (c_W A40a 100) v41 0 (I40a 1670) by have hbd := f49; rw [show (I15a 2439) = (0 : Int) by omega, show (I15a 1670) = (0 : Int) by omega, show c_r 0 4 = 100 from rfl] at hbd; exact hbd)⟩
    · rw [e51]
      replace hR40b : w_Rep w_TC fr X (u + 6) (l + 64) I40b A40b B40b C40b M39 := hR40b
      replace f52 : c_fi c_ps (w_up (w_up (w_up (w_up I15a 2436 ((I15a 2436) + 1)) 2441 (zt28)) 2437 (zk29)) 2438 (zv30)) I40b := f52
      replace f53 : c_fa c_pa A15a A40b := f53
      replace f54 : M39.1[t50]? = some (.inr (11, [])) := f54
      exact Or.inr (⟨t50, I40b, A40b, B40b, C40b, rfl, hR40b, (show c_fi c_ps I I40b by exact (c_fi_trans (c_fi_up (c_fi_up (c_fi_up (c_fi_up (c_fi_trans (c_fi_up (c_fi_up (c_fi_up (c_fi_up (c_fi_up c_fi_refl rfl) rfl) rfl) rfl) rfl) f17) rfl) rfl) rfl) rfl) f52)), (show c_fa c_pa A A40b by exact (c_fa_trans f18 f53)), (show M39.1[t50]? = some (.inr (11, [])) by exact f54)⟩)
  · rw [e34]
    replace hR27b : w_Rep w_TC fr X (u + 6) (l + 64) I27b A27b B27b C27b M26 := hR27b
    replace f35 : c_fi c_ps I15a I27b := f35
    replace f36 : c_fa c_pa A15a A27b := f36
    replace f37 : M26.1[t33]? = some (.inr (11, [])) := f37
    exact Or.inr (⟨t33, I27b, A27b, B27b, C27b, rfl, hR27b, (show c_fi c_ps I I27b by exact (c_fi_trans (c_fi_trans (c_fi_up (c_fi_up (c_fi_up (c_fi_up (c_fi_up c_fi_refl rfl) rfl) rfl) rfl) rfl) f17) f35)), (show c_fa c_pa A A27b by exact (c_fa_trans f18 f36)), (show M26.1[t33]? = some (.inr (11, [])) by exact f37)⟩)
