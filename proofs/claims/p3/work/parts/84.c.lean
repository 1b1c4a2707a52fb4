/-! PARSER of the class: patterns, variables. -/
def c_snext_Q (fr : Nat → Bool) (X : Nat → Option (q_C (Nat → Int32))) (u l : Nat) (I : Nat → Int) (A : Nat → Int → Int) (B C : Nat → Nat) (M : w_M) : w_X → w_M → Prop := fun r M' => ((r = .inl (some (I 2117))) ∧ (M' = M))
set_option maxHeartbeats 100000000 in
set_option maxRecDepth 100000 in
theorem c_snext {L : Nat} {xs : Nat → Int32} {d : Nat} {fr : Nat → Bool} {X : Nat → Option (q_C (Nat → Int32))} {u l : Nat} {I : Nat → Int} {A : Nat → Int → Int} {B C : Nat → Nat} {M : w_M} (hR : w_Rep w_TC fr X u l I A B C M) : w_W (z_P L xs) d 118 (0, [(0, .ref 33)], [], M) (c_snext_Q fr X u l I A B C M) := by
  refine w_adv (n := 1) (F' := (1, [(0, .ref 33)], [.ref 33], M)) rfl ?_
  refine w_gf (v := .int (Int32.ofInt ((I 2117)))) hR rfl rfl rfl rfl ?_
  obtain ⟨r1, r2⟩ : -2147483648 ≤ (I 2117) ∧ (I 2117) ≤ 2147483647 := hR.ri 2117
  refine w_fin (r := .inl (some ((I 2117)))) (M' := M) rfl ?_
  exact ⟨rfl, rfl⟩
def c_variables_Q (fr : Nat → Bool) (X : Nat → Option (q_C (Nat → Int32))) (u l : Nat) (I : Nat → Int) (A : Nat → Int → Int) (B C : Nat → Nat) (M : w_M) : w_X → w_M → Prop := fun r M' => (∃ v : Int, ∃ (I' : Nat → Int) (A' : Nat → Int → Int) (B' C' : Nat → Nat), (r = .inl (some v)) ∧ (w_in v) ∧ (w_Rep w_TC fr X u l I' A' B' C' M') ∧ (c_fi c_ps I I') ∧ (c_fa c_pa A A') ∧ ((0 ≤ (I' 2436) ∧ (I' 2436) ≤ (I' 773) ∧ ((I' 2437) = 0 ∨ (I' 2436) < (I' 773))) ∧ ((I' 773) = (I 773) ∧ (I' 2439) = (I 2439) ∧ 0 ≤ (I' 2117)) ∧ (I 2436) + 0 ≤ (I' 2436) ∧ (I' 1670) + 0 ≤ (I 1670) + 2 * ((I' 2436) - (I 2436)) ∧ (I 1670) ≤ (I' 1670)) ∧ (c_agl A A' (I 1670)) ∧ (0 ≤ v)) ∨ (∃ t : Nat, ∃ (I' : Nat → Int) (A' : Nat → Int → Int) (B' C' : Nat → Nat), (r = .inr t) ∧ (w_Rep w_TC fr X (u + 6) (l + 64) I' A' B' C' M') ∧ (c_fi c_ps I I') ∧ (c_fa c_pa A A') ∧ (M'.1[t]? = some (.inr (11, []))))
set_option maxHeartbeats 100000000 in
set_option maxRecDepth 100000 in
theorem c_variables {L : Nat} {xs : Nat → Int32} {d : Nat} {fr : Nat → Bool} {X : Nat → Option (q_C (Nat → Int32))} {u l : Nat} {I : Nat → Int} {A : Nat → Int → Int} {B C : Nat → Nat} {M : w_M} (hR : w_Rep w_TC fr X u l I A B C M) (hd : 5 ≤ d) (hl : l ≤ 7000000) (hNU : (0 ≤ (I 2436) ∧ (I 2436) ≤ (I 773) ∧ (I 773) ≤ 1501 ∧ ((I 2437) = 0 ∨ (I 2436) < (I 773))) ∧ (0 ≤ (I 2439) ∧ (I 2439) ≤ 24 ∧ 0 ≤ (I 2117)) ∧ 0 ≤ (I 1670) ∧ (I 1670) ≤ 2 * (I 2436) + 1) : w_W (z_P L xs) d 119 (0, [(0, .ref 38)], [], M) (c_variables_Q fr X u l I A B C M) := by
  obtain ⟨d, rfl⟩ : ∃ d0, d = d0 + 1 := ⟨d - 1, by omega⟩
  refine w_adv (n := 1) (F' := (1, [(0, .ref 38)], [.ref 38], M)) rfl ?_
  refine w_gf (v := .ref 33) hR rfl rfl rfl rfl ?_
  refine w_call (cm := 118) (as := [(0, .ref 33)]) (rest := []) (o := some (5, 33)) rfl (w_fitR hR rfl) (c_snext hR) (fun r1 M2 q3 => ?_)
  rcases q3 with ⟨e4, e5⟩
  rw [e4, e5]
  obtain ⟨r6, r7⟩ : -2147483648 ≤ (I 2117) ∧ (I 2117) ≤ 2147483647 := hR.ri 2117
  show w_W _ _ _ (7, [(0, .ref 38)], [.int (Int32.ofInt ((I 2117)))], M) _
  refine w_adv (n := 3) (F' := (10, [(2, .int (Int32.ofInt (1))), (1, .int (Int32.ofInt ((I 2117)))), (0, .ref 38)], [], M)) rfl ?_
  have lp10 : ∀ fu10 : Nat, ∀ (y10_2 : Int) (I_10 : Nat → Int) (A_10 : Nat → Int → Int) (B_10 C_10 : Nat → Nat) (M_10 : w_M) (hR_10 : w_Rep w_TC fr X u l I_10 A_10 B_10 C_10 M_10), w_in y10_2 → c_fi c_ps I I_10 → c_fa c_pa A A_10 → (0 ≤ (I_10 2436) ∧ (I_10 2436) ≤ (I_10 773) ∧ ((I_10 2437) = 0 ∨ (I_10 2436) < (I_10 773))) ∧ ((I_10 773) = (I 773) ∧ (I_10 2439) = (I 2439) ∧ 0 ≤ (I_10 2117)) ∧ (I 2436) + 0 ≤ (I_10 2436) ∧ (I_10 1670) + 0 ≤ (I 1670) + 2 * ((I_10 2436) - (I 2436)) ∧ (I 1670) ≤ (I_10 1670) → c_agl A A_10 (I 1670) → 1 ≤ y10_2 ∧ y10_2 ≤ 34 → 34 - y10_2 < (fu10 : Int) → w_W (z_P L xs) (d + 1) 119 (10, [(0, .ref 38), (1, .int (Int32.ofInt ((I 2117)))), (2, .int (Int32.ofInt (y10_2)))], [], M_10) (c_variables_Q fr X u l I A B C M) := by
    intro fu10
    induction fu10 with
    | zero =>
      intro y10_2 I_10 A_10 B_10 C_10 M_10 hR_10 ⟨ra_y10_2, rb_y10_2⟩ hi10_0 hi10_1 hi10_2 hi10_3 hi10_4 hn10
      exfalso
      omega
    | succ fu10 ih10 =>
      intro y10_2 I_10 A_10 B_10 C_10 M_10 hR_10 ⟨ra_y10_2, rb_y10_2⟩ hi10_0 hi10_1 hi10_2 hi10_3 hi10_4 hn10
      refine w_adv (n := 2) (F' := (13, [(0, .ref 38), (1, .int (Int32.ofInt ((I 2117)))), (2, .int (Int32.ofInt (y10_2)))], [.int (Int32.ofInt (33)), .int (Int32.ofInt (y10_2))], M_10)) rfl ?_
      refine w_br2 (a := y10_2) (b := 33) rfl rfl ⟨by omega, by omega⟩ ⟨by omega, by omega⟩ (fun h8 => ?_) (fun h8 => ?_)
      · have h8 : y10_2 > 33 := h8
        show w_W _ _ _ (41, [(0, .ref 38), (1, .int (Int32.ofInt ((I 2117)))), (2, .int (Int32.ofInt (y10_2)))], [], M_10) _
        refine w_adv (n := 1) (F' := (42, [(0, .ref 38), (1, .int (Int32.ofInt ((I 2117)))), (2, .int (Int32.ofInt (y10_2)))], [.ref 38], M_10)) rfl ?_
        refine w_gf (v := .ref 33) hR_10 rfl rfl rfl rfl ?_
        refine w_call (cm := 118) (as := [(0, .ref 33)]) (rest := []) (o := some (5, 33)) rfl (w_fitR hR_10 rfl) (c_snext hR_10) (fun r9 M10 q11 => ?_)
        rcases q11 with ⟨e12, e13⟩
        rw [e12, e13]
        obtain ⟨r14, r15⟩ : -2147483648 ≤ (I_10 2117) ∧ (I_10 2117) ≤ 2147483647 := hR_10.ri 2117
        show w_W _ _ _ (48, [(0, .ref 38), (1, .int (Int32.ofInt ((I 2117)))), (2, .int (Int32.ofInt (y10_2)))], [.int (Int32.ofInt ((I_10 2117)))], M_10) _
        refine w_fin (r := .inl (some ((I_10 2117)))) (M' := M_10) rfl ?_
        exact Or.inl ⟨(I_10 2117), I_10, A_10, B_10, C_10, rfl, ⟨by omega, by omega⟩, hR_10, (show c_fi c_ps I I_10 by exact hi10_0), (show c_fa c_pa A A_10 by exact hi10_1), (show (0 ≤ (I_10 2436) ∧ (I_10 2436) ≤ (I_10 773) ∧ ((I_10 2437) = 0 ∨ (I_10 2436) < (I_10 773))) ∧ ((I_10 773) = (I 773) ∧ (I_10 2439) = (I 2439) ∧ 0 ≤ (I_10 2117)) ∧ (I 2436) + 0 ≤ (I_10 2436) ∧ (I_10 1670) + 0 ≤ (I 1670) + 2 * ((I_10 2436) - (I 2436)) ∧ (I 1670) ≤ (I_10 1670) by (repeat' apply And.intro) <;> first | assumption | omega), (show c_agl A A_10 (I 1670) by exact hi10_3), (show 0 ≤ (I_10 2117) by (repeat' apply And.intro) <;> first | assumption | omega)⟩
      · have h8 : ¬ (y10_2 > 33) := h8
        show w_W _ _ _ (16, [(0, .ref 38), (1, .int (Int32.ofInt ((I 2117)))), (2, .int (Int32.ofInt (y10_2)))], [], M_10) _
        refine w_adv (n := 1) (F' := (17, [(0, .ref 38), (1, .int (Int32.ofInt ((I 2117)))), (2, .int (Int32.ofInt (y10_2)))], [.ref 38], M_10)) rfl ?_
        refine w_gf (v := .int (Int32.ofInt ((I_10 2437)))) hR_10 rfl rfl rfl rfl ?_
        obtain ⟨r16, r17⟩ : -2147483648 ≤ (I_10 2437) ∧ (I_10 2437) ≤ 2147483647 := hR_10.ri 2437
        refine w_adv (n := 1) (F' := (21, [(0, .ref 38), (1, .int (Int32.ofInt ((I 2117)))), (2, .int (Int32.ofInt (y10_2)))], [.int (Int32.ofInt (2)), .int (Int32.ofInt ((I_10 2437)))], M_10)) rfl ?_
        refine w_br2 (a := (I_10 2437)) (b := 2) rfl rfl ⟨by omega, by omega⟩ ⟨by omega, by omega⟩ (fun h18 => ?_) (fun h18 => ?_)
        · have h18 : ¬ (I_10 2437) = 2 := h18
          show w_W _ _ _ (41, [(0, .ref 38), (1, .int (Int32.ofInt ((I 2117)))), (2, .int (Int32.ofInt (y10_2)))], [], M_10) _
          refine w_adv (n := 1) (F' := (42, [(0, .ref 38), (1, .int (Int32.ofInt ((I 2117)))), (2, .int (Int32.ofInt (y10_2)))], [.ref 38], M_10)) rfl ?_
          refine w_gf (v := .ref 33) hR_10 rfl rfl rfl rfl ?_
          refine w_call (cm := 118) (as := [(0, .ref 33)]) (rest := []) (o := some (5, 33)) rfl (w_fitR hR_10 rfl) (c_snext hR_10) (fun r19 M20 q21 => ?_)
          rcases q21 with ⟨e22, e23⟩
          rw [e22, e23]
          obtain ⟨r24, r25⟩ : -2147483648 ≤ (I_10 2117) ∧ (I_10 2117) ≤ 2147483647 := hR_10.ri 2117
          show w_W _ _ _ (48, [(0, .ref 38), (1, .int (Int32.ofInt ((I 2117)))), (2, .int (Int32.ofInt (y10_2)))], [.int (Int32.ofInt ((I_10 2117)))], M_10) _
          refine w_fin (r := .inl (some ((I_10 2117)))) (M' := M_10) rfl ?_
          exact Or.inl ⟨(I_10 2117), I_10, A_10, B_10, C_10, rfl, ⟨by omega, by omega⟩, hR_10, (show c_fi c_ps I I_10 by exact hi10_0), (show c_fa c_pa A A_10 by exact hi10_1), (show (0 ≤ (I_10 2436) ∧ (I_10 2436) ≤ (I_10 773) ∧ ((I_10 2437) = 0 ∨ (I_10 2436) < (I_10 773))) ∧ ((I_10 773) = (I 773) ∧ (I_10 2439) = (I 2439) ∧ 0 ≤ (I_10 2117)) ∧ (I 2436) + 0 ≤ (I_10 2436) ∧ (I_10 1670) + 0 ≤ (I 1670) + 2 * ((I_10 2436) - (I 2436)) ∧ (I 1670) ≤ (I_10 1670) by (repeat' apply And.intro) <;> first | assumption | omega), (show c_agl A A_10 (I 1670) by exact hi10_3), (show 0 ≤ (I_10 2117) by (repeat' apply And.intro) <;> first | assumption | omega)⟩
        · have h18 : ¬ (¬ (I_10 2437) = 2) := h18
          show w_W _ _ _ (24, [(0, .ref 38), (1, .int (Int32.ofInt ((I 2117)))), (2, .int (Int32.ofInt (y10_2)))], [], M_10) _
          refine w_adv (n := 3) (F' := (27, [(0, .ref 38), (1, .int (Int32.ofInt ((I 2117)))), (2, .int (Int32.ofInt (y10_2)))], [.int (Int32.ofInt (y10_2)), .int (Int32.ofInt ((I 2117))), .ref 38], M_10)) rfl ?_
          refine w_call (cm := 120) (as := [(0, .ref 38), (1, .int (Int32.ofInt ((I 2117)))), (2, .int (Int32.ofInt (y10_2)))]) (rest := []) (o := some (4, 38)) rfl (w_fitR hR_10 rfl) (c_bind ((I 2117)) (y10_2) hR_10 (show 3 ≤ d by omega) ⟨by omega, by omega⟩ ⟨by omega, by omega⟩ (show l ≤ 7000000 by first | assumption | omega) (show 0 ≤ (I_10 2117) by first | assumption | omega)) (fun r26 M27 q28 => ?_)
          rcases q28 with ⟨v29, A30, zs31, e32, ⟨r33, r34⟩, hR28a, f35, f36, f37⟩ | ⟨t38, I28b, A28b, B28b, C28b, e39, hR28b, f40, f41, f42⟩
          · rw [e32]
            replace hR28a : w_Rep w_TC fr X u l (w_up I_10 2117 (zs31)) A30 B_10 C_10 M27 := hR28a
            replace f35 : c_fa c_pa A_10 A30 := f35
            replace f36 : c_ags A_10 A30 := f36
            replace f37 : 0 ≤ zs31 ∧ -1 ≤ v29 ∧ v29 ≤ 1508 := f37
            obtain ⟨n43, n44, n45⟩ := id f37
            clear f37
            have g46 : c_agl A A30 (I 1670) := c_agl_trans hi10_3 (c_ags_l f36 (I_10 1670)) (show (I 1670) ≤ (I_10 1670) by omega)
            show w_W _ _ _ (30, [(0, .ref 38), (1, .int (Int32.ofInt ((I 2117)))), (2, .int (Int32.ofInt (y10_2)))], [.int (Int32.ofInt (v29))], M27) _
            refine w_adv (n := 2) (F' := (32, [(0, .ref 38), (1, .int (Int32.ofInt ((I 2117)))), (2, .int (Int32.ofInt (y10_2)))], [.ref 38], M27)) rfl ?_
            refine w_call (cm := 80) (as := [(0, .ref 38)]) (rest := []) (o := some (4, 38)) rfl (w_fitR hR28a rfl) (c_advance hR28a (show 3 ≤ d by omega) (show l ≤ 7000000 by first | assumption | omega) (show -1 ≤ (I_10 2436) ∧ (I_10 2436) < (I_10 773) ∧ (I_10 773) ≤ 1501 by first | assumption | omega)) (fun r47 M48 q49 => ?_)
            rcases q49 with ⟨zt50, zk51, zv52, e53, hR49a, f54⟩ | ⟨t55, I49b, A49b, B49b, C49b, e56, hR49b, f57, f58, f59⟩
            · rw [e53]
              replace hR49a : w_Rep w_TC fr X u l (w_up (w_up (w_up (w_up (w_up I_10 2117 (zs31)) 2436 ((I_10 2436) + 1)) 2441 (zt50)) 2437 (zk51)) 2438 (zv52)) A30 B_10 C_10 M48 := hR49a
              replace f54 : ((I_10 2436) + 1 < (I_10 773) ∨ zk51 = 0) := f54
              show w_W _ _ _ (35, [(0, .ref 38), (1, .int (Int32.ofInt ((I 2117)))), (2, .int (Int32.ofInt (y10_2)))], [], M48) _
              refine w_inc (nL := 3) (a := y10_2) rfl rfl rfl (by decide) ?_
              refine w_adv (n := 1) (F' := (10, [(2, .int (Int32.ofInt (y10_2 + 1))), (0, .ref 38), (1, .int (Int32.ofInt ((I 2117))))], [], M48)) rfl ?_
              refine w_ls (ls := [(0, .ref 38), (1, .int (Int32.ofInt ((I 2117)))), (2, .int (Int32.ofInt (y10_2 + 1)))]) (show List.Nodup [0, 1, 2] by decide) (show List.Nodup [2, 0, 1] by decide) (List.forall_mem_cons.mpr ⟨(List.Mem.tail _ (List.Mem.head _)), (List.forall_mem_cons.mpr ⟨(List.Mem.tail _ (List.Mem.tail _ (List.Mem.head _))), (List.forall_mem_cons.mpr ⟨(List.Mem.head _), (fun _ h => by cases h)⟩)⟩)⟩) ?_
              exact ih10  (y10_2 + 1) (w_up (w_up (w_up (w_up (w_up I_10 2117 (zs31)) 2436 ((I_10 2436) + 1)) 2441 (zt50)) 2437 (zk51)) 2438 (zv52)) A30 B_10 C_10 M48 hR49a ⟨by omega, by omega⟩ (show c_fi c_ps I (w_up (w_up (w_up (w_up (w_up I_10 2117 (zs31)) 2436 ((I_10 2436) + 1)) 2441 (zt50)) 2437 (zk51)) 2438 (zv52)) by exact (c_fi_up (c_fi_up (c_fi_up (c_fi_up (c_fi_up hi10_0 rfl) rfl) rfl) rfl) rfl)) (show c_fa c_pa A A30 by exact (c_fa_trans hi10_1 f35)) (show (0 ≤ (I_10 2436) + 1 ∧ (I_10 2436) + 1 ≤ (I_10 773) ∧ (zk51 = 0 ∨ (I_10 2436) + 1 < (I_10 773))) ∧ ((I_10 773) = (I 773) ∧ (I_10 2439) = (I 2439) ∧ 0 ≤ zs31) ∧ (I 2436) + 0 ≤ (I_10 2436) + 1 ∧ (I_10 1670) + 0 ≤ (I 1670) + 2 * (((I_10 2436) + 1) - (I 2436)) ∧ (I 1670) ≤ (I_10 1670) by (repeat' apply And.intro) <;> first | assumption | omega) (show c_agl A A30 (I 1670) by exact g46) (show 1 ≤ (y10_2 + 1) ∧ (y10_2 + 1) ≤ 34 by omega) (show 34 - (y10_2 + 1) < (fu10 : Int) by omega)
            · rw [e56]
              replace hR49b : w_Rep w_TC fr X (u + 6) (l + 64) I49b A49b B49b C49b M48 := hR49b
              replace f57 : c_fi c_ps (w_up I_10 2117 (zs31)) I49b := f57
              replace f58 : c_fa c_pa A30 A49b := f58
              replace f59 : M48.1[t55]? = some (.inr (11, [])) := f59
              exact Or.inr (⟨t55, I49b, A49b, B49b, C49b, rfl, hR49b, (show c_fi c_ps I I49b by exact (c_fi_trans (c_fi_up hi10_0 rfl) f57)), (show c_fa c_pa A A49b by exact (c_fa_trans (c_fa_trans hi10_1 f35) f58)), (show M48.1[t55]? = some (.inr (11, [])) by exact f59)⟩)
          · rw [e39]
            replace hR28b : w_Rep w_TC fr X (u + 6) (l + 64) I28b A28b B28b C28b M27 := hR28b
            replace f40 : c_fi c_ps I_10 I28b := f40
            replace f41 : c_fa c_pa A_10 A28b := f41
            replace f42 : M27.1[t38]? = some (.inr (11, [])) := f42
            exact Or.inr (⟨t38, I28b, A28b, B28b, C28b, rfl, hR28b, (show c_fi c_ps I I28b by exact (c_fi_trans hi10_0 f40)), (show c_fa c_pa A A28b by exact (c_fa_trans hi10_1 f41)), (show M27.1[t38]? = some (.inr (11, [])) by exact f42)⟩)
  refine w_ls (ls := [(0, .ref 38), (1, .int (Int32.ofInt ((I 2117)))), (2, .int (Int32.ofInt (1)))]) (show List.Nodup [0, 1, 2] by decide) (show List.Nodup [2, 1, 0] by decide) (List.forall_mem_cons.mpr ⟨(List.Mem.tail _ (List.Mem.tail _ (List.Mem.head _))), (List.forall_mem_cons.mpr ⟨(List.Mem.tail _ (List.Mem.head _)), (List.forall_mem_cons.mpr ⟨(List.Mem.head _), (fun _ h => by cases h)⟩)⟩)⟩) ?_
  exact lp10 ((34 - 1 : Int).toNat + 1)  (1) I A B C M hR ⟨by omega, by omega⟩ (show c_fi c_ps I I by exact c_fi_refl) (show c_fa c_pa A A by exact c_fa_refl) (show (0 ≤ (I 2436) ∧ (I 2436) ≤ (I 773) ∧ ((I 2437) = 0 ∨ (I 2436) < (I 773))) ∧ ((I 773) = (I 773) ∧ (I 2439) = (I 2439) ∧ 0 ≤ (I 2117)) ∧ (I 2436) + 0 ≤ (I 2436) ∧ (I 1670) + 0 ≤ (I 1670) + 2 * ((I 2436) - (I 2436)) ∧ (I 1670) ≤ (I 1670) by (repeat' apply And.intro) <;> first | assumption | omega) (show c_agl A A (I 1670) by exact c_agl_refl) (show 1 ≤ (1 : Int) ∧ (1 : Int) ≤ 34 by omega) (show 34 - 1 < (((34 - 1 : Int).toNat + 1 : Nat) : Int) by omega)
def c_slot_Q (fr : Nat → Bool) (X : Nat → Option (q_C (Nat → Int32))) (u l : Nat) (I : Nat → Int) (A : Nat → Int → Int) (B C : Nat → Nat) (M : w_M) (f : Int) (g : Int) (n : Int) : w_X → w_M → Prop := fun r M' => (∃ v : Int, ∃ (I' : Nat → Int) (A' : Nat → Int → Int) (B' C' : Nat → Nat), (r = .inl (some v)) ∧ (w_in v) ∧ (w_Rep w_TC fr X u l I' A' B' C' M') ∧ (c_fi c_ps I I') ∧ (c_fa c_pa A A') ∧ ((0 ≤ (I' 2436) ∧ (I' 2436) ≤ (I' 773) ∧ ((I' 2437) = 0 ∨ (I' 2436) < (I' 773))) ∧ ((I' 773) = (I 773) ∧ (I' 2439) = (I 2439) ∧ 0 ≤ (I' 2117)) ∧ (I 2436) + 1 ≤ (I' 2436) ∧ (I' 1670) + 1 ≤ (I 1670) + 2 * ((I' 2436) - (I 2436)) ∧ (I 1670) ≤ (I' 1670)) ∧ (c_agl A A' (I 1670)) ∧ ((I 1670) ≤ v ∧ v < (I' 1670))) ∨ (∃ t : Nat, ∃ (I' : Nat → Int) (A' : Nat → Int → Int) (B' C' : Nat → Nat), (r = .inr t) ∧ (w_Rep w_TC fr X (u + 6) (l + 64) I' A' B' C' M') ∧ (c_fi c_ps I I') ∧ (c_fa c_pa A A') ∧ (M'.1[t]? = some (.inr (11, []))))
set_option maxHeartbeats 100000000 in
set_option maxRecDepth 100000 in
theorem c_slot {L : Nat} {xs : Nat → Int32} {d : Nat} {fr : Nat → Bool} {X : Nat → Option (q_C (Nat → Int32))} {u l : Nat} {I : Nat → Int} {A : Nat → Int → Int} {B C : Nat → Nat} {M : w_M} (f : Int) (g : Int) (n : Int) (hR : w_Rep w_TC fr X u l I A B C M) (hd : 4 ≤ d) (r_f : w_in f) (r_g : w_in g) (r_n : w_in n) (hl : l ≤ 7000000) (hNU : (0 ≤ (I 2436) ∧ (I 2436) ≤ (I 773) ∧ (I 773) ≤ 1501 ∧ ((I 2437) = 0 ∨ (I 2436) < (I 773))) ∧ (0 ≤ (I 2439) ∧ (I 2439) ≤ 24 ∧ 0 ≤ (I 2117)) ∧ 0 ≤ (I 1670) ∧ (I 1670) ≤ 2 * (I 2436) + 1) : w_W (z_P L xs) d 128 (0, [(0, .ref 38), (1, .int (Int32.ofInt (f))), (2, .int (Int32.ofInt (g))), (3, .int (Int32.ofInt (n)))], [], M) (c_slot_Q fr X u l I A B C M f g n) := by
  obtain ⟨ra_f, rb_f⟩ := r_f
  obtain ⟨ra_g, rb_g⟩ := r_g
  obtain ⟨ra_n, rb_n⟩ := r_n
  obtain ⟨d, rfl⟩ : ∃ d0, d = d0 + 1 := ⟨d - 1, by omega⟩
  refine w_adv (n := 3) (F' := (4, [(4, .int (Int32.ofInt ((-1)))), (0, .ref 38), (1, .int (Int32.ofInt (f))), (2, .int (Int32.ofInt (g))), (3, .int (Int32.ofInt (n)))], [.ref 38], M)) rfl ?_
  refine w_gf (v := .int (Int32.ofInt ((I 2437)))) hR rfl rfl rfl rfl ?_
  obtain ⟨r1, r2⟩ : -2147483648 ≤ (I 2437) ∧ (I 2437) ≤ 2147483647 := hR.ri 2437
  refine w_adv (n := 1) (F' := (8, [(4, .int (Int32.ofInt ((-1)))), (0, .ref 38), (1, .int (Int32.ofInt (f))), (2, .int (Int32.ofInt (g))), (3, .int (Int32.ofInt (n)))], [.int (Int32.ofInt (2)), .int (Int32.ofInt ((I 2437)))], M)) rfl ?_
  refine w_br2 (a := (I 2437)) (b := 2) rfl rfl ⟨by omega, by omega⟩ ⟨by omega, by omega⟩ (fun h3 => ?_) (fun h3 => ?_)
  · have h3 : ¬ (I 2437) = 2 := h3
    show w_W _ _ _ (22, [(4, .int (Int32.ofInt ((-1)))), (0, .ref 38), (1, .int (Int32.ofInt (f))), (2, .int (Int32.ofInt (g))), (3, .int (Int32.ofInt (n)))], [], M) _
    refine w_adv (n := 1) (F' := (23, [(4, .int (Int32.ofInt ((-1)))), (0, .ref 38), (1, .int (Int32.ofInt (f))), (2, .int (Int32.ofInt (g))), (3, .int (Int32.ofInt (n)))], [.ref 38], M)) rfl ?_
    refine w_gf (v := .int (Int32.ofInt ((I 2437)))) hR rfl rfl rfl rfl ?_
    refine w_adv (n := 1) (F' := (27, [(4, .int (Int32.ofInt ((-1)))), (0, .ref 38), (1, .int (Int32.ofInt (f))), (2, .int (Int32.ofInt (g))), (3, .int (Int32.ofInt (n)))], [.int (Int32.ofInt (3)), .int (Int32.ofInt ((I 2437)))], M)) rfl ?_
    refine w_br2 (a := (I 2437)) (b := 3) rfl rfl ⟨by omega, by omega⟩ ⟨by omega, by omega⟩ (fun h4 => ?_) (fun h4 => ?_)
    · have h4 : (I 2437) = 3 := h4
      show w_W _ _ _ (39, [(4, .int (Int32.ofInt ((-1)))), (0, .ref 38), (1, .int (Int32.ofInt (f))), (2, .int (Int32.ofInt (g))), (3, .int (Int32.ofInt (n)))], [], M) _
      refine w_adv (n := 2) (F' := (42, [(4, .int (Int32.ofInt ((-1)))), (0, .ref 38), (1, .int (Int32.ofInt (f))), (2, .int (Int32.ofInt (g))), (3, .int (Int32.ofInt (n)))], [.int (Int32.ofInt (32)), .int (Int32.ofInt (n))], M)) rfl ?_
      refine w_br2 (a := n) (b := 32) rfl rfl ⟨by omega, by omega⟩ ⟨by omega, by omega⟩ (fun h5 => ?_) (fun h5 => ?_)
      · have h5 : n ≤ 32 := h5
        show w_W _ _ _ (52, [(4, .int (Int32.ofInt ((-1)))), (0, .ref 38), (1, .int (Int32.ofInt (f))), (2, .int (Int32.ofInt (g))), (3, .int (Int32.ofInt (n)))], [], M) _
        refine w_adv (n := 1) (F' := (53, [(4, .int (Int32.ofInt ((-1)))), (0, .ref 38), (1, .int (Int32.ofInt (f))), (2, .int (Int32.ofInt (g))), (3, .int (Int32.ofInt (n)))], [.ref 38], M)) rfl ?_
        refine w_call (cm := 80) (as := [(0, .ref 38)]) (rest := []) (o := some (4, 38)) rfl (w_fitR hR rfl) (c_advance hR (show 3 ≤ d by omega) (show l ≤ 7000000 by first | assumption | omega) (show -1 ≤ (I 2436) ∧ (I 2436) < (I 773) ∧ (I 773) ≤ 1501 by first | assumption | omega)) (fun r6 M7 q8 => ?_)
        rcases q8 with ⟨zt9, zk10, zv11, e12, hR8a, f13⟩ | ⟨t14, I8b, A8b, B8b, C8b, e15, hR8b, f16, f17, f18⟩
        · rw [e12]
          replace hR8a : w_Rep w_TC fr X u l (w_up (w_up (w_up (w_up I 2436 ((I 2436) + 1)) 2441 (zt9)) 2437 (zk10)) 2438 (zv11)) A B C M7 := hR8a
          replace f13 : ((I 2436) + 1 < (I 773) ∨ zk10 = 0) := f13
          show w_W _ _ _ (56, [(4, .int (Int32.ofInt ((-1)))), (0, .ref 38), (1, .int (Int32.ofInt (f))), (2, .int (Int32.ofInt (g))), (3, .int (Int32.ofInt (n)))], [], M7) _
          refine w_adv (n := 1) (F' := (57, [(4, .int (Int32.ofInt ((-1)))), (0, .ref 38), (1, .int (Int32.ofInt (f))), (2, .int (Int32.ofInt (g))), (3, .int (Int32.ofInt (n)))], [.ref 38], M7)) rfl ?_
          refine w_gf (v := .ref 26) hR8a rfl rfl rfl rfl ?_
          refine w_adv (n := 4) (F' := (66, [(4, .int (Int32.ofInt ((-1)))), (0, .ref 38), (1, .int (Int32.ofInt (f))), (2, .int (Int32.ofInt (g))), (3, .int (Int32.ofInt (n)))], [.int (Int32.ofInt ((-1))), .int (Int32.ofInt ((-1))), .int (Int32.ofInt (g)), .int (Int32.ofInt (18)), .ref 26], M7)) rfl ?_
          refine w_call (cm := 94) (as := [(0, .ref 26), (1, .int (Int32.ofInt (18))), (2, .int (Int32.ofInt (g))), (3, .int (Int32.ofInt ((-1)))), (4, .int (Int32.ofInt ((-1))))]) (rest := []) (o := some (8, 26)) rfl (w_fitR hR8a rfl) (c_mkn (18) (g) ((-1)) ((-1)) hR8a (show 2 ≤ d by omega) ⟨by omega, by omega⟩ ⟨by omega, by omega⟩ ⟨by omega, by omega⟩ ⟨by omega, by omega⟩ (show 0 ≤ (I 1670) ∧ (I 1670) < 3016 by first | assumption | omega)) (fun r19 M20 q21 => ?_)
          rcases q21 with ⟨A22, e23, hR21a, f24, f25⟩
          rw [e23]
          replace hR21a : w_Rep w_TC fr X u l (w_up (w_up (w_up (w_up (w_up I 2436 ((I 2436) + 1)) 2441 (zt9)) 2437 (zk10)) 2438 (zv11)) 1670 ((I 1670) + 1)) A22 B C M20 := hR21a
          replace f24 : c_fa c_pa A A22 := f24
          replace f25 : c_mk A A22 (I 1670) 18 g (-1) (-1) := f25
          have g26 : c_agl A A22 (I 1670) := c_agl_trans c_agl_refl f25.1 (show (I 1670) ≤ (I 1670) by omega)
          show w_W _ _ _ (69, [(4, .int (Int32.ofInt ((-1)))), (0, .ref 38), (1, .int (Int32.ofInt (f))), (2, .int (Int32.ofInt (g))), (3, .int (Int32.ofInt (n)))], [.int (Int32.ofInt ((I 1670)))], M20) _
          refine w_fin (r := .inl (some ((I 1670)))) (M' := M20) rfl ?_
          exact Or.inl ⟨(I 1670), (w_up (w_up (w_up (w_up (w_up I 2436 ((I 2436) + 1)) 2441 (zt9)) 2437 (zk10)) 2438 (zv11)) 1670 ((I 1670) + 1)), A22, B, C, rfl, ⟨by omega, by omega⟩, hR21a, (show c_fi c_ps I (w_up (w_up (w_up (w_up (w_up I 2436 ((I 2436) + 1)) 2441 (zt9)) 2437 (zk10)) 2438 (zv11)) 1670 ((I 1670) + 1)) by exact (c_fi_up (c_fi_up (c_fi_up (c_fi_up (c_fi_up c_fi_refl rfl) rfl) rfl) rfl) rfl)), (show c_fa c_pa A A22 by exact f24), (show (0 ≤ (I 2436) + 1 ∧ (I 2436) + 1 ≤ (I 773) ∧ (zk10 = 0 ∨ (I 2436) + 1 < (I 773))) ∧ ((I 773) = (I 773) ∧ (I 2439) = (I 2439) ∧ 0 ≤ (I 2117)) ∧ (I 2436) + 1 ≤ (I 2436) + 1 ∧ ((I 1670) + 1) + 1 ≤ (I 1670) + 2 * (((I 2436) + 1) - (I 2436)) ∧ (I 1670) ≤ (I 1670) + 1 by (repeat' apply And.intro) <;> first | assumption | omega), (show c_agl A A22 (I 1670) by exact g26), (show (I 1670) ≤ (I 1670) ∧ (I 1670) < (I 1670) + 1 by (repeat' apply And.intro) <;> first | assumption | omega)⟩
        · rw [e15]
          replace hR8b : w_Rep w_TC fr X (u + 6) (l + 64) I8b A8b B8b C8b M7 := hR8b
          replace f16 : c_fi c_ps I I8b := f16
          replace f17 : c_fa c_pa A A8b := f17
          replace f18 : M7.1[t14]? = some (.inr (11, [])) := f18
          exact Or.inr (⟨t14, I8b, A8b, B8b, C8b, rfl, hR8b, (show c_fi c_ps I I8b by exact f16), (show c_fa c_pa A A8b by exact f17), (show M7.1[t14]? = some (.inr (11, [])) by exact f18)⟩)
      · have h5 : ¬ (n ≤ 32) := h5
        show w_W _ _ _ (45, [(4, .int (Int32.ofInt ((-1)))), (0, .ref 38), (1, .int (Int32.ofInt (f))), (2, .int (Int32.ofInt (g))), (3, .int (Int32.ofInt (n)))], [], M) _
        refine w_adv (n := 2) (F' := (48, [(4, .int (Int32.ofInt ((-1)))), (0, .ref 38), (1, .int (Int32.ofInt (f))), (2, .int (Int32.ofInt (g))), (3, .int (Int32.ofInt (n)))], [.int (Int32.ofInt (6)), .ref 38], M)) rfl ?_
        refine w_call (cm := 100) (as := [(0, .ref 38), (1, .int (Int32.ofInt (6)))]) (rest := []) (o := some (4, 38)) rfl (w_fitR hR rfl) (c_fail (6) hR ⟨by omega, by omega⟩ (show l ≤ 7000000 by first | assumption | omega) (show 1 ≤ 6 ∧ 6 ≤ 7 by first | assumption | omega)) (fun r27 M28 q29 => ?_)
        rcases q29 with ⟨t30, I29a, A29a, B29a, C29a, e31, hR29a, f32, f33, f34⟩
        rw [e31]
        replace hR29a : w_Rep w_TC fr X (u + 6) (l + 64) I29a A29a B29a C29a M28 := hR29a
        replace f32 : c_fi c_ps I I29a := f32
        replace f33 : c_fa c_pa A A29a := f33
        replace f34 : M28.1[t30]? = some (.inr (11, [])) := f34
        exact Or.inr (⟨t30, I29a, A29a, B29a, C29a, rfl, hR29a, (show c_fi c_ps I I29a by exact f32), (show c_fa c_pa A A29a by exact f33), (show M28.1[t30]? = some (.inr (11, [])) by exact f34)⟩)
    · have h4 : ¬ ((I 2437) = 3) := h4
      show w_W _ _ _ (30, [(4, .int (Int32.ofInt ((-1)))), (0, .ref 38), (1, .int (Int32.ofInt (f))), (2, .int (Int32.ofInt (g))), (3, .int (Int32.ofInt (n)))], [], M) _
      refine w_adv (n := 2) (F' := (32, [(4, .int (Int32.ofInt ((-1)))), (0, .ref 38), (1, .int (Int32.ofInt (f))), (2, .int (Int32.ofInt (g))), (3, .int (Int32.ofInt (n)))], [.int (Int32.ofInt (1)), .ref 38], M)) rfl ?_
      refine w_call (cm := 100) (as := [(0, .ref 38), (1, .int (Int32.ofInt (1)))]) (rest := []) (o := some (4, 38)) rfl (w_fitR hR rfl) (c_fail (1) hR ⟨by omega, by omega⟩ (show l ≤ 7000000 by first | assumption | omega) (show 1 ≤ 1 ∧ 1 ≤ 7 by first | assumption | omega)) (fun r35 M36 q37 => ?_)
      rcases q37 with ⟨t38, I37a, A37a, B37a, C37a, e39, hR37a, f40, f41, f42⟩
      rw [e39]
      replace hR37a : w_Rep w_TC fr X (u + 6) (l + 64) I37a A37a B37a C37a M36 := hR37a
      replace f40 : c_fi c_ps I I37a := f40
      replace f41 : c_fa c_pa A A37a := f41
      replace f42 : M36.1[t38]? = some (.inr (11, [])) := f42
      exact Or.inr (⟨t38, I37a, A37a, B37a, C37a, rfl, hR37a, (show c_fi c_ps I I37a by exact f40), (show c_fa c_pa A A37a by exact f41), (show M36.1[t38]? = some (.inr (11, [])) by exact f42)⟩)
  · have h3 : ¬ (¬ (I 2437) = 2) := h3
    show w_W _ _ _ (11, [(4, .int (Int32.ofInt ((-1)))), (0, .ref 38), (1, .int (Int32.ofInt (f))), (2, .int (Int32.ofInt (g))), (3, .int (Int32.ofInt (n)))], [], M) _
    refine w_adv (n := 3) (F' := (14, [(4, .int (Int32.ofInt ((-1)))), (0, .ref 38), (1, .int (Int32.ofInt (f))), (2, .int (Int32.ofInt (g))), (3, .int (Int32.ofInt (n)))], [.int (Int32.ofInt (n)), .int (Int32.ofInt (f)), .ref 38], M)) rfl ?_
    refine w_call (cm := 120) (as := [(0, .ref 38), (1, .int (Int32.ofInt (f))), (2, .int (Int32.ofInt (n)))]) (rest := []) (o := some (4, 38)) rfl (w_fitR hR rfl) (c_bind (f) (n) hR (show 3 ≤ d by omega) ⟨by omega, by omega⟩ ⟨by omega, by omega⟩ (show l ≤ 7000000 by first | assumption | omega) (show 0 ≤ (I 2117) by first | assumption | omega)) (fun r43 M44 q45 => ?_)
    rcases q45 with ⟨v46, A47, zs48, e49, ⟨r50, r51⟩, hR45a, f52, f53, f54⟩ | ⟨t55, I45b, A45b, B45b, C45b, e56, hR45b, f57, f58, f59⟩
    · rw [e49]
      replace hR45a : w_Rep w_TC fr X u l (w_up I 2117 (zs48)) A47 B C M44 := hR45a
      replace f52 : c_fa c_pa A A47 := f52
      replace f53 : c_ags A A47 := f53
      replace f54 : 0 ≤ zs48 ∧ -1 ≤ v46 ∧ v46 ≤ 1508 := f54
      obtain ⟨n60, n61, n62⟩ := id f54
      clear f54
      have g63 : c_agl A A47 (I 1670) := c_agl_trans c_agl_refl (c_ags_l f53 (I 1670)) (show (I 1670) ≤ (I 1670) by omega)
      show w_W _ _ _ (17, [(4, .int (Int32.ofInt ((-1)))), (0, .ref 38), (1, .int (Int32.ofInt (f))), (2, .int (Int32.ofInt (g))), (3, .int (Int32.ofInt (n)))], [.int (Int32.ofInt (v46))], M44) _
      refine w_adv (n := 3) (F' := (53, [(4, .int (Int32.ofInt (v46))), (0, .ref 38), (1, .int (Int32.ofInt (f))), (2, .int (Int32.ofInt (g))), (3, .int (Int32.ofInt (n)))], [.ref 38], M44)) rfl ?_
      refine w_call (cm := 80) (as := [(0, .ref 38)]) (rest := []) (o := some (4, 38)) rfl (w_fitR hR45a rfl) (c_advance hR45a (show 3 ≤ d by omega) (show l ≤ 7000000 by first | assumption | omega) (show -1 ≤ (I 2436) ∧ (I 2436) < (I 773) ∧ (I 773) ≤ 1501 by first | assumption | omega)) (fun r64 M65 q66 => ?_)
      rcases q66 with ⟨zt67, zk68, zv69, e70, hR66a, f71⟩ | ⟨t72, I66b, A66b, B66b, C66b, e73, hR66b, f74, f75, f76⟩
      · rw [e70]
        replace hR66a : w_Rep w_TC fr X u l (w_up (w_up (w_up (w_up (w_up I 2117 (zs48)) 2436 ((I 2436) + 1)) 2441 (zt67)) 2437 (zk68)) 2438 (zv69)) A47 B C M65 := hR66a
        replace f71 : ((I 2436) + 1 < (I 773) ∨ zk68 = 0) := f71
        show w_W _ _ _ (56, [(4, .int (Int32.ofInt (v46))), (0, .ref 38), (1, .int (Int32.ofInt (f))), (2, .int (Int32.ofInt (g))), (3, .int (Int32.ofInt (n)))], [], M65) _
        refine w_adv (n := 1) (F' := (57, [(4, .int (Int32.ofInt (v46))), (0, .ref 38), (1, .int (Int32.ofInt (f))), (2, .int (Int32.ofInt (g))), (3, .int (Int32.ofInt (n)))], [.ref 38], M65)) rfl ?_
        refine w_gf (v := .ref 26) hR66a rfl rfl rfl rfl ?_
        refine w_adv (n := 4) (F' := (66, [(4, .int (Int32.ofInt (v46))), (0, .ref 38), (1, .int (Int32.ofInt (f))), (2, .int (Int32.ofInt (g))), (3, .int (Int32.ofInt (n)))], [.int (Int32.ofInt ((-1))), .int (Int32.ofInt (v46)), .int (Int32.ofInt (g)), .int (Int32.ofInt (18)), .ref 26], M65)) rfl ?_
        refine w_call (cm := 94) (as := [(0, .ref 26), (1, .int (Int32.ofInt (18))), (2, .int (Int32.ofInt (g))), (3, .int (Int32.ofInt (v46))), (4, .int (Int32.ofInt ((-1))))]) (rest := []) (o := some (8, 26)) rfl (w_fitR hR66a rfl) (c_mkn (18) (g) (v46) ((-1)) hR66a (show 2 ≤ d by omega) ⟨by omega, by omega⟩ ⟨by omega, by omega⟩ ⟨by omega, by omega⟩ ⟨by omega, by omega⟩ (show 0 ≤ (I 1670) ∧ (I 1670) < 3016 by first | assumption | omega)) (fun r77 M78 q79 => ?_)
        rcases q79 with ⟨A80, e81, hR79a, f82, f83⟩
        rw [e81]
        replace hR79a : w_Rep w_TC fr X u l (w_up (w_up (w_up (w_up (w_up (w_up I 2117 (zs48)) 2436 ((I 2436) + 1)) 2441 (zt67)) 2437 (zk68)) 2438 (zv69)) 1670 ((I 1670) + 1)) A80 B C M78 := hR79a
        replace f82 : c_fa c_pa A47 A80 := f82
        replace f83 : c_mk A47 A80 (I 1670) 18 g v46 (-1) := f83
        have g84 : c_agl A A80 (I 1670) := c_agl_trans g63 f83.1 (show (I 1670) ≤ (I 1670) by omega)
        show w_W _ _ _ (69, [(4, .int (Int32.ofInt (v46))), (0, .ref 38), (1, .int (Int32.ofInt (f))), (2, .int (Int32.ofInt (g))), (3, .int (Int32.ofInt (n)))], [.int (Int32.ofInt ((I 1670)))], M78) _
        refine w_fin (r := .inl (some ((I 1670)))) (M' := M78) rfl ?_
        exact Or.inl ⟨(I 1670), (w_up (w_up (w_up (w_up (w_up (w_up I 2117 (zs48)) 2436 ((I 2436) + 1)) 2441 (zt67)) 2437 (zk68)) 2438 (zv69)) 1670 ((I 1670) + 1)), A80, B, C, rfl, ⟨by omega, by omega⟩, hR79a, (show c_fi c_ps I (w_up (w_up (w_up (w_up (w_up (w_up I 2117 (zs48)) 2436 ((I 2436) + 1)) 2441 (zt67)) 2437 (zk68)) 2438 (zv69)) 1670 ((I 1670) + 1)) by exact (c_fi_up (c_fi_up (c_fi_up (c_fi_up (c_fi_up (c_fi_up c_fi_refl rfl) rfl) rfl) rfl) rfl) rfl)), (show c_fa c_pa A A80 by exact (c_fa_trans f52 f82)), (show (0 ≤ (I 2436) + 1 ∧ (I 2436) + 1 ≤ (I 773) ∧ (zk68 = 0 ∨ (I 2436) + 1 < (I 773))) ∧ ((I 773) = (I 773) ∧ (I 2439) = (I 2439) ∧ 0 ≤ zs48) ∧ (I 2436) + 1 ≤ (I 2436) + 1 ∧ ((I 1670) + 1) + 1 ≤ (I 1670) + 2 * (((I 2436) + 1) - (I 2436)) ∧ (I 1670) ≤ (I 1670) + 1 by (repeat' apply And.intro) <;> first | assumption | omega), (show c_agl A A80 (I 1670) by exact g84), (show (I 1670) ≤ (I 1670) ∧ (I 1670) < (I 1670) + 1 by (repeat' apply And.intro) <;> first | assumption | omega)⟩
      · rw [e73]
        replace hR66b : w_Rep w_TC fr X (u + 6) (l + 64) I66b A66b B66b C66b M65 := hR66b
        replace f74 : c_fi c_ps (w_up I 2117 (zs48)) I66b := f74
        replace f75 : c_fa c_pa A47 A66b := f75
        replace f76 : M65.1[t72]? = some (.inr (11, [])) := f76
        exact Or.inr (⟨t72, I66b, A66b, B66b, C66b, rfl, hR66b, (show c_fi c_ps I I66b by exact (c_fi_trans (c_fi_up c_fi_refl rfl) f74)), (show c_fa c_pa A A66b by exact (c_fa_trans f52 f75)), (show M65.1[t72]? = some (.inr (11, [])) by exact f76)⟩)
    · rw [e56]
      replace hR45b : w_Rep w_TC fr X (u + 6) (l + 64) I45b A45b B45b C45b M44 := hR45b
      replace f57 : c_fi c_ps I I45b := f57
      replace f58 : c_fa c_pa A A45b := f58
      replace f59 : M44.1[t55]? = some (.inr (11, [])) := f59
      exact Or.inr (⟨t55, I45b, A45b, B45b, C45b, rfl, hR45b, (show c_fi c_ps I I45b by exact f57), (show c_fa c_pa A A45b by exact f58), (show M44.1[t55]? = some (.inr (11, [])) by exact f59)⟩)
