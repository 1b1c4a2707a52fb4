/-! BUILDER of the class: patterns. -/
def c_addPattern_Q (fr : Nat → Bool) (X : Nat → Option (q_C (Nat → Int32))) (u l : Nat) (I : Nat → Int) (A : Nat → Int → Int) (B C : Nat → Nat) (M : w_M) (n : Int) : w_X → w_M → Prop := fun r M' => (∃ (I' : Nat → Int) (A' : Nat → Int → Int) (B' C' : Nat → Nat), (r = .inl none) ∧ (w_Rep w_TC fr X u l I' A' B' C' M') ∧ (c_bz I A I' A' 0 0 (I 2503)) ∧ ((I' 2503) = (I 2503) ∧ (0 ≤ (I' 1035) ∧ (I' 1035) ≤ 10000) ∧ (I' 200) = (I 200) ∧ (I' 202) = (I 202)))
set_option maxHeartbeats 100000000 in
set_option maxRecDepth 100000 in
theorem c_addPattern {L : Nat} {xs : Nat → Int32} {d : Nat} {fr : Nat → Bool} {X : Nat → Option (q_C (Nat → Int32))} {u l : Nat} {I : Nat → Int} {A : Nat → Int → Int} {B C : Nat → Nat} {M : w_M} (n : Int) (hR : w_Rep w_TC fr X u l I A B C M) (hd : 6 ≤ d) (r_n : w_in n) (hKI : 0 ≤ (I 1035) ∧ (I 1035) ≤ 10000) (hKS : c_ks A) (hNM : 36 ≤ (I 200) ∧ (I 200) ≤ 419 ∧ 0 ≤ (I 202) ∧ (I 202) ≤ 24) (hLN : ∀ i, (A 5) i ≤ 24) (hW0 : 0 ≤ (I 2503)) : w_W (z_P L xs) d 188 (0, [(0, .ref 39), (1, .int (Int32.ofInt (n)))], [], M) (c_addPattern_Q fr X u l I A B C M n) := by
  obtain ⟨ra_n, rb_n⟩ := r_n
  obtain ⟨d, rfl⟩ : ∃ d0, d = d0 + 1 := ⟨d - 1, by omega⟩
  refine w_adv (n := 1) (F' := (1, [(0, .ref 39), (1, .int (Int32.ofInt (n)))], [.ref 39], M)) rfl ?_
  refine w_gf (v := .ref 16) hR rfl rfl rfl rfl ?_
  refine w_adv (n := 1) (F' := (5, [(0, .ref 39), (1, .int (Int32.ofInt (n)))], [.ref 39, .ref 16], M)) rfl ?_
  refine w_gf (v := .ref 26) hR rfl rfl rfl rfl ?_
  refine w_adv (n := 1) (F' := (9, [(0, .ref 39), (1, .int (Int32.ofInt (n)))], [.int (Int32.ofInt (n)), .ref 26, .ref 16], M)) rfl ?_
  refine w_call (cm := 145) (as := [(0, .ref 26), (1, .int (Int32.ofInt (n)))]) (rest := [.ref 16]) (o := some (8, 26)) rfl (w_fitR hR rfl) (c_Ta (n) hR (show 1 ≤ d by omega) ⟨by omega, by omega⟩) (fun r1 M2 q3 => ?_)
  rcases q3 with ⟨v4, e5, ⟨r6, r7⟩, e8, f9⟩
  rw [e5, e8]
  replace f9 : c_rd (A 28) n v4 := f9
  show w_W _ _ _ (12, [(0, .ref 39), (1, .int (Int32.ofInt (n)))], [.int (Int32.ofInt (v4)), .ref 16], M) _
  refine w_call (cm := 164) (as := [(0, .ref 16), (1, .int (Int32.ofInt (v4)))]) (rest := []) (o := some (2, 16)) rfl (w_fitR hR rfl) (c_kad (v4) hR (show 1 ≤ d by omega) ⟨by omega, by omega⟩ (show 0 ≤ (I 1035) ∧ (I 1035) ≤ 10000 by (repeat' apply And.intro) <;> first | assumption | omega) (show 0 ≤ (I 2503) by omega)) (fun r10 M11 q12 => ?_)
  rcases q12 with ⟨I12a, A12a, B12a, C12a, e13, hR12a, f14, f15⟩
  rw [e13]
  replace hR12a : w_Rep w_TC fr X u l I12a A12a B12a C12a M11 := hR12a
  replace f14 : c_bz I A I12a A12a 0 0 (I 2503) := f14
  replace f15 : (I12a 2503) = (I 2503) ∧ (0 ≤ (I12a 1035) ∧ (I12a 1035) ≤ 10000) ∧ (I12a 200) = (I 200) ∧ (I12a 202) = (I 202) := f15
  obtain ⟨n16, ⟨n17, n18⟩, n19, n20⟩ := id f15
  clear f15
  have bx21 : c_bz I A I12a A12a 0 0 (I 2503) := c_bz_trans (show c_bz I A I A 0 0 (I 2503) from c_bz_refl) f14 (Int.le_refl _) (Int.le_refl _) (show 0 ≤ 0 ∨ 0 ≤ 0 by omega) (show 0 ≤ 0 ∨ 0 ≤ 0 by omega) (Int.le_refl _) (show (I 2503) ≤ (I 2503) by omega)
  show w_W _ _ _ (15, [(0, .ref 39), (1, .int (Int32.ofInt (n)))], [], M11) _
  refine w_adv (n := 1) (F' := (16, [(0, .ref 39), (1, .int (Int32.ofInt (n)))], [.ref 39], M11)) rfl ?_
  refine w_gf (v := .ref 16) hR12a rfl rfl rfl rfl ?_
  refine w_adv (n := 1) (F' := (20, [(0, .ref 39), (1, .int (Int32.ofInt (n)))], [.ref 39, .ref 16], M11)) rfl ?_
  refine w_gf (v := .ref 26) hR12a rfl rfl rfl rfl ?_
  refine w_adv (n := 1) (F' := (24, [(0, .ref 39), (1, .int (Int32.ofInt (n)))], [.int (Int32.ofInt (n)), .ref 26, .ref 16], M11)) rfl ?_
  refine w_call (cm := 152) (as := [(0, .ref 26), (1, .int (Int32.ofInt (n)))]) (rest := [.ref 16]) (o := some (8, 26)) rfl (w_fitR hR12a rfl) (c_Tb (n) hR12a (show 1 ≤ d by omega) ⟨by omega, by omega⟩) (fun r22 M23 q24 => ?_)
  rcases q24 with ⟨v25, e26, ⟨r27, r28⟩, e29, f30⟩
  rw [e26, e29]
  replace f30 : c_rd (A12a 29) n v25 := f30
  show w_W _ _ _ (27, [(0, .ref 39), (1, .int (Int32.ofInt (n)))], [.int (Int32.ofInt (v25)), .ref 16], M11) _
  refine w_call (cm := 164) (as := [(0, .ref 16), (1, .int (Int32.ofInt (v25)))]) (rest := []) (o := some (2, 16)) rfl (w_fitR hR12a rfl) (c_kad (v25) hR12a (show 1 ≤ d by omega) ⟨by omega, by omega⟩ (show 0 ≤ (I12a 1035) ∧ (I12a 1035) ≤ 10000 by (repeat' apply And.intro) <;> first | assumption | omega) (show 0 ≤ (I12a 2503) by omega)) (fun r31 M32 q33 => ?_)
  rcases q33 with ⟨I33a, A33a, B33a, C33a, e34, hR33a, f35, f36⟩
  rw [e34]
  replace hR33a : w_Rep w_TC fr X u l I33a A33a B33a C33a M32 := hR33a
  replace f35 : c_bz I12a A12a I33a A33a 0 0 (I12a 2503) := f35
  replace f36 : (I33a 2503) = (I12a 2503) ∧ (0 ≤ (I33a 1035) ∧ (I33a 1035) ≤ 10000) ∧ (I33a 200) = (I12a 200) ∧ (I33a 202) = (I12a 202) := f36
  obtain ⟨n37, ⟨n38, n39⟩, n40, n41⟩ := id f36
  clear f36
  have bx42 : c_bz I A I33a A33a 0 0 (I 2503) := c_bz_trans (show c_bz I A I12a A12a 0 0 (I 2503) from bx21) f35 (Int.le_refl _) (Int.le_refl _) (show 0 ≤ 0 ∨ 0 ≤ 0 by omega) (show 0 ≤ 0 ∨ 0 ≤ 0 by omega) (Int.le_refl _) (show (I 2503) ≤ (I12a 2503) by omega)
  show w_W _ _ _ (30, [(0, .ref 39), (1, .int (Int32.ofInt (n)))], [], M32) _
  refine w_adv (n := 1) (F' := (31, [(0, .ref 39), (1, .int (Int32.ofInt (n)))], [.ref 39], M32)) rfl ?_
  refine w_gf (v := .ref 26) hR33a rfl rfl rfl rfl ?_
  refine w_adv (n := 1) (F' := (35, [(0, .ref 39), (1, .int (Int32.ofInt (n)))], [.int (Int32.ofInt (n)), .ref 26], M32)) rfl ?_
  refine w_call (cm := 174) (as := [(0, .ref 26), (1, .int (Int32.ofInt (n)))]) (rest := []) (o := some (8, 26)) rfl (w_fitR hR33a rfl) (c_Tc (n) hR33a (show 1 ≤ d by omega) ⟨by omega, by omega⟩) (fun r43 M44 q45 => ?_)
  rcases q45 with ⟨v46, e47, ⟨r48, r49⟩, e50, f51⟩
  rw [e47, e50]
  replace f51 : c_rd (A33a 30) n v46 := f51
  show w_W _ _ _ (38, [(0, .ref 39), (1, .int (Int32.ofInt (n)))], [.int (Int32.ofInt (v46))], M32) _
  refine w_adv (n := 3) (F' := (41, [(3, .int (Int32.ofInt (0))), (2, .int (Int32.ofInt (v46))), (0, .ref 39), (1, .int (Int32.ofInt (n)))], [], M32)) rfl ?_
  have lp41 : ∀ fu41 : Nat, ∀ (y41_2 : Int) (y41_3 : Int) (I_41 : Nat → Int) (A_41 : Nat → Int → Int) (B_41 C_41 : Nat → Nat) (M_41 : w_M) (hR_41 : w_Rep w_TC fr X u l I_41 A_41 B_41 C_41 M_41), w_in y41_2 → w_in y41_3 → c_bz I A I_41 A_41 0 0 (I 2503) → (I_41 2503) = (I 2503) ∧ (0 ≤ (I_41 1035) ∧ (I_41 1035) ≤ 10000) ∧ (I_41 200) = (I 200) ∧ (I_41 202) = (I 202) → 0 ≤ y41_3 ∧ y41_3 ≤ 1500 → 1500 - y41_3 < (fu41 : Int) → w_W (z_P L xs) (d + 1) 188 (41, [(0, .ref 39), (1, .int (Int32.ofInt (n))), (2, .int (Int32.ofInt (y41_2))), (3, .int (Int32.ofInt (y41_3)))], [], M_41) (c_addPattern_Q fr X u l I A B C M n) := by
    intro fu41
    induction fu41 with
    | zero =>
      intro y41_2 y41_3 I_41 A_41 B_41 C_41 M_41 hR_41 ⟨ra_y41_2, rb_y41_2⟩ ⟨ra_y41_3, rb_y41_3⟩ hi41_0 hi41_1 hi41_2 hn41
      exfalso
      omega
    | succ fu41 ih41 =>
      intro y41_2 y41_3 I_41 A_41 B_41 C_41 M_41 hR_41 ⟨ra_y41_2, rb_y41_2⟩ ⟨ra_y41_3, rb_y41_3⟩ hi41_0 hi41_1 hi41_2 hn41
      refine w_adv (n := 2) (F' := (45, [(0, .ref 39), (1, .int (Int32.ofInt (n))), (2, .int (Int32.ofInt (y41_2))), (3, .int (Int32.ofInt (y41_3)))], [.int (Int32.ofInt (1500)), .int (Int32.ofInt (y41_3))], M_41)) rfl ?_
      refine w_br2 (a := y41_3) (b := 1500) rfl rfl ⟨by omega, by omega⟩ ⟨by omega, by omega⟩ (fun h52 => ?_) (fun h52 => ?_)
      · have h52 : y41_3 ≥ 1500 := h52
        show w_W _ _ _ (98, [(0, .ref 39), (1, .int (Int32.ofInt (n))), (2, .int (Int32.ofInt (y41_2))), (3, .int (Int32.ofInt (y41_3)))], [], M_41) _
        refine w_adv (n := 1) (F' := (99, [(0, .ref 39), (1, .int (Int32.ofInt (n))), (2, .int (Int32.ofInt (y41_2))), (3, .int (Int32.ofInt (y41_3)))], [.ref 39], M_41)) rfl ?_
        refine w_gf (v := .ref 16) hR_41 rfl rfl rfl rfl ?_
        refine w_adv (n := 1) (F' := (103, [(0, .ref 39), (1, .int (Int32.ofInt (n))), (2, .int (Int32.ofInt (y41_2))), (3, .int (Int32.ofInt (y41_3)))], [.int (Int32.ofInt (2)), .ref 16], M_41)) rfl ?_
        refine w_call (cm := 165) (as := [(0, .ref 16), (1, .int (Int32.ofInt (2)))]) (rest := []) (o := some (2, 16)) rfl (w_fitR hR_41 rfl) (c_ksp (2) hR_41 (show 4 ≤ d by omega) ⟨by omega, by omega⟩ (show 0 ≤ (I_41 1035) ∧ (I_41 1035) ≤ 10000 by (repeat' apply And.intro) <;> first | assumption | omega) (show c_ks A_41 by exact (show c_bz I A I_41 A_41 0 0 (I 2503) from hi41_0).2.2.2.2 hKS) (show 36 ≤ (I_41 200) ∧ (I_41 200) ≤ 419 ∧ 0 ≤ (I_41 202) ∧ (I_41 202) ≤ 24 by (repeat' apply And.intro) <;> first | assumption | omega) (show ∀ i, (A_41 5) i ≤ 24 by rw [show (A_41 5) = (A 5) from (show c_bz I A I_41 A_41 0 0 (I 2503) from hi41_0).2.1 5 rfl]; exact hLN) (show 0 ≤ (I_41 2503) by omega) (show 0 ≤ 2 ∧ 2 ≤ 2 by first | assumption | omega)) (fun r53 M54 q55 => ?_)
        rcases q55 with ⟨I55a, A55a, B55a, C55a, e56, hR55a, f57, f58⟩
        rw [e56]
        replace hR55a : w_Rep w_TC fr X u l I55a A55a B55a C55a M54 := hR55a
        replace f57 : c_bz I_41 A_41 I55a A55a 0 0 (I_41 2503) := f57
        replace f58 : (I55a 2503) = (I_41 2503) ∧ (0 ≤ (I55a 1035) ∧ (I55a 1035) ≤ 10000) ∧ (I55a 200) = (I_41 200) ∧ (I55a 202) = (I_41 202) := f58
        obtain ⟨n59, ⟨n60, n61⟩, n62, n63⟩ := id f58
        clear f58
        have bx64 : c_bz I A I55a A55a 0 0 (I 2503) := c_bz_trans (show c_bz I A I_41 A_41 0 0 (I 2503) from hi41_0) f57 (Int.le_refl _) (Int.le_refl _) (show 0 ≤ 0 ∨ 0 ≤ 0 by omega) (show 0 ≤ 0 ∨ 0 ≤ 0 by omega) (Int.le_refl _) (show (I 2503) ≤ (I_41 2503) by omega)
        show w_W _ _ _ (106, [(0, .ref 39), (1, .int (Int32.ofInt (n))), (2, .int (Int32.ofInt (y41_2))), (3, .int (Int32.ofInt (y41_3)))], [], M54) _
        refine w_fin (r := .inl none) (M' := M54) rfl ?_
        exact ⟨I55a, A55a, B55a, C55a, rfl, hR55a, (show c_bz I A I55a A55a 0 0 (I 2503) by exact bx64), (show (I55a 2503) = (I 2503) ∧ (0 ≤ (I55a 1035) ∧ (I55a 1035) ≤ 10000) ∧ (I55a 200) = (I 200) ∧ (I55a 202) = (I 202) by (repeat' apply And.intro) <;> first | assumption | omega)⟩
      · have h52 : ¬ (y41_3 ≥ 1500) := h52
        show w_W _ _ _ (48, [(0, .ref 39), (1, .int (Int32.ofInt (n))), (2, .int (Int32.ofInt (y41_2))), (3, .int (Int32.ofInt (y41_3)))], [], M_41) _
        refine w_adv (n := 2) (F' := (50, [(0, .ref 39), (1, .int (Int32.ofInt (n))), (2, .int (Int32.ofInt (y41_2))), (3, .int (Int32.ofInt (y41_3)))], [.int (Int32.ofInt ((-1))), .int (Int32.ofInt (y41_2))], M_41)) rfl ?_
        refine w_br2 (a := y41_2) (b := (-1)) rfl rfl ⟨by omega, by omega⟩ ⟨by omega, by omega⟩ (fun h65 => ?_) (fun h65 => ?_)
        · have h65 : y41_2 = (-1) := h65
          show w_W _ _ _ (98, [(0, .ref 39), (1, .int (Int32.ofInt (n))), (2, .int (Int32.ofInt (y41_2))), (3, .int (Int32.ofInt (y41_3)))], [], M_41) _
          refine w_adv (n := 1) (F' := (99, [(0, .ref 39), (1, .int (Int32.ofInt (n))), (2, .int (Int32.ofInt (y41_2))), (3, .int (Int32.ofInt (y41_3)))], [.ref 39], M_41)) rfl ?_
          refine w_gf (v := .ref 16) hR_41 rfl rfl rfl rfl ?_
          refine w_adv (n := 1) (F' := (103, [(0, .ref 39), (1, .int (Int32.ofInt (n))), (2, .int (Int32.ofInt (y41_2))), (3, .int (Int32.ofInt (y41_3)))], [.int (Int32.ofInt (2)), .ref 16], M_41)) rfl ?_
          refine w_call (cm := 165) (as := [(0, .ref 16), (1, .int (Int32.ofInt (2)))]) (rest := []) (o := some (2, 16)) rfl (w_fitR hR_41 rfl) (c_ksp (2) hR_41 (show 4 ≤ d by omega) ⟨by omega, by omega⟩ (show 0 ≤ (I_41 1035) ∧ (I_41 1035) ≤ 10000 by (repeat' apply And.intro) <;> first | assumption | omega) (show c_ks A_41 by exact (show c_bz I A I_41 A_41 0 0 (I 2503) from hi41_0).2.2.2.2 hKS) (show 36 ≤ (I_41 200) ∧ (I_41 200) ≤ 419 ∧ 0 ≤ (I_41 202) ∧ (I_41 202) ≤ 24 by (repeat' apply And.intro) <;> first | assumption | omega) (show ∀ i, (A_41 5) i ≤ 24 by rw [show (A_41 5) = (A 5) from (show c_bz I A I_41 A_41 0 0 (I 2503) from hi41_0).2.1 5 rfl]; exact hLN) (show 0 ≤ (I_41 2503) by omega) (show 0 ≤ 2 ∧ 2 ≤ 2 by first | assumption | omega)) (fun r66 M67 q68 => ?_)
          rcases q68 with ⟨I68a, A68a, B68a, C68a, e69, hR68a, f70, f71⟩
          rw [e69]
          replace hR68a : w_Rep w_TC fr X u l I68a A68a B68a C68a M67 := hR68a
          replace f70 : c_bz I_41 A_41 I68a A68a 0 0 (I_41 2503) := f70
          replace f71 : (I68a 2503) = (I_41 2503) ∧ (0 ≤ (I68a 1035) ∧ (I68a 1035) ≤ 10000) ∧ (I68a 200) = (I_41 200) ∧ (I68a 202) = (I_41 202) := f71
          obtain ⟨n72, ⟨n73, n74⟩, n75, n76⟩ := id f71
          clear f71
          have bx77 : c_bz I A I68a A68a 0 0 (I 2503) := c_bz_trans (show c_bz I A I_41 A_41 0 0 (I 2503) from hi41_0) f70 (Int.le_refl _) (Int.le_refl _) (show 0 ≤ 0 ∨ 0 ≤ 0 by omega) (show 0 ≤ 0 ∨ 0 ≤ 0 by omega) (Int.le_refl _) (show (I 2503) ≤ (I_41 2503) by omega)
          show w_W _ _ _ (106, [(0, .ref 39), (1, .int (Int32.ofInt (n))), (2, .int (Int32.ofInt (y41_2))), (3, .int (Int32.ofInt (y41_3)))], [], M67) _
          refine w_fin (r := .inl none) (M' := M67) rfl ?_
          exact ⟨I68a, A68a, B68a, C68a, rfl, hR68a, (show c_bz I A I68a A68a 0 0 (I 2503) by exact bx77), (show (I68a 2503) = (I 2503) ∧ (0 ≤ (I68a 1035) ∧ (I68a 1035) ≤ 10000) ∧ (I68a 200) = (I 200) ∧ (I68a 202) = (I 202) by (repeat' apply And.intro) <;> first | assumption | omega)⟩
        · have h65 : ¬ (y41_2 = (-1)) := h65
          show w_W _ _ _ (53, [(0, .ref 39), (1, .int (Int32.ofInt (n))), (2, .int (Int32.ofInt (y41_2))), (3, .int (Int32.ofInt (y41_3)))], [], M_41) _
          refine w_adv (n := 1) (F' := (54, [(0, .ref 39), (1, .int (Int32.ofInt (n))), (2, .int (Int32.ofInt (y41_2))), (3, .int (Int32.ofInt (y41_3)))], [.ref 39], M_41)) rfl ?_
          refine w_gf (v := .ref 16) hR_41 rfl rfl rfl rfl ?_
          refine w_adv (n := 1) (F' := (58, [(0, .ref 39), (1, .int (Int32.ofInt (n))), (2, .int (Int32.ofInt (y41_2))), (3, .int (Int32.ofInt (y41_3)))], [.ref 39, .ref 16], M_41)) rfl ?_
          refine w_gf (v := .ref 26) hR_41 rfl rfl rfl rfl ?_
          refine w_adv (n := 1) (F' := (62, [(0, .ref 39), (1, .int (Int32.ofInt (n))), (2, .int (Int32.ofInt (y41_2))), (3, .int (Int32.ofInt (y41_3)))], [.int (Int32.ofInt (y41_2)), .ref 26, .ref 16], M_41)) rfl ?_
          refine w_call (cm := 145) (as := [(0, .ref 26), (1, .int (Int32.ofInt (y41_2)))]) (rest := [.ref 16]) (o := some (8, 26)) rfl (w_fitR hR_41 rfl) (c_Ta (y41_2) hR_41 (show 1 ≤ d by omega) ⟨by omega, by omega⟩) (fun r78 M79 q80 => ?_)
          rcases q80 with ⟨v81, e82, ⟨r83, r84⟩, e85, f86⟩
          rw [e82, e85]
          replace f86 : c_rd (A_41 28) y41_2 v81 := f86
          show w_W _ _ _ (65, [(0, .ref 39), (1, .int (Int32.ofInt (n))), (2, .int (Int32.ofInt (y41_2))), (3, .int (Int32.ofInt (y41_3)))], [.int (Int32.ofInt (v81)), .ref 16], M_41) _
          refine w_adv (n := 1) (F' := (66, [(0, .ref 39), (1, .int (Int32.ofInt (n))), (2, .int (Int32.ofInt (y41_2))), (3, .int (Int32.ofInt (y41_3)))], [.ref 39, .int (Int32.ofInt (v81)), .ref 16], M_41)) rfl ?_
          refine w_gf (v := .ref 33) hR_41 rfl rfl rfl rfl ?_
          refine w_adv (n := 1) (F' := (70, [(0, .ref 39), (1, .int (Int32.ofInt (n))), (2, .int (Int32.ofInt (y41_2))), (3, .int (Int32.ofInt (y41_3)))], [.ref 39, .ref 33, .int (Int32.ofInt (v81)), .ref 16], M_41)) rfl ?_
          refine w_gf (v := .ref 26) hR_41 rfl rfl rfl rfl ?_
          refine w_adv (n := 1) (F' := (74, [(0, .ref 39), (1, .int (Int32.ofInt (n))), (2, .int (Int32.ofInt (y41_2))), (3, .int (Int32.ofInt (y41_3)))], [.int (Int32.ofInt (y41_2)), .ref 26, .ref 33, .int (Int32.ofInt (v81)), .ref 16], M_41)) rfl ?_
          refine w_call (cm := 152) (as := [(0, .ref 26), (1, .int (Int32.ofInt (y41_2)))]) (rest := [.ref 33, .int (Int32.ofInt (v81)), .ref 16]) (o := some (8, 26)) rfl (w_fitR hR_41 rfl) (c_Tb (y41_2) hR_41 (show 1 ≤ d by omega) ⟨by omega, by omega⟩) (fun r87 M88 q89 => ?_)
          rcases q89 with ⟨v90, e91, ⟨r92, r93⟩, e94, f95⟩
          rw [e91, e94]
          replace f95 : c_rd (A_41 29) y41_2 v90 := f95
          show w_W _ _ _ (77, [(0, .ref 39), (1, .int (Int32.ofInt (n))), (2, .int (Int32.ofInt (y41_2))), (3, .int (Int32.ofInt (y41_3)))], [.int (Int32.ofInt (v90)), .ref 33, .int (Int32.ofInt (v81)), .ref 16], M_41) _
          refine w_call (cm := 155) (as := [(0, .ref 33), (1, .int (Int32.ofInt (v90)))]) (rest := [.int (Int32.ofInt (v81)), .ref 16]) (o := some (5, 33)) rfl (w_fitR hR_41 rfl) (c_Scope_variable (v90) hR_41 (show 2 ≤ d by omega) ⟨by omega, by omega⟩) (fun r96 M97 q98 => ?_)
          rcases q98 with ⟨v99, e100, ⟨r101, r102⟩, e103⟩
          rw [e100, e103]
          show w_W _ _ _ (80, [(0, .ref 39), (1, .int (Int32.ofInt (n))), (2, .int (Int32.ofInt (y41_2))), (3, .int (Int32.ofInt (y41_3)))], [.int (Int32.ofInt (v99)), .int (Int32.ofInt (v81)), .ref 16], M_41) _
          refine w_call (cm := 163) (as := [(0, .ref 16), (1, .int (Int32.ofInt (v81))), (2, .int (Int32.ofInt (v99)))]) (rest := []) (o := some (2, 16)) rfl (w_fitR hR_41 rfl) (c_kap (v81) (v99) hR_41 (show 2 ≤ d by omega) ⟨by omega, by omega⟩ ⟨by omega, by omega⟩ (show 0 ≤ (I_41 1035) ∧ (I_41 1035) ≤ 10000 by (repeat' apply And.intro) <;> first | assumption | omega) (show 0 ≤ (I_41 2503) by omega)) (fun r104 M105 q106 => ?_)
          rcases q106 with ⟨I106a, A106a, B106a, C106a, e107, hR106a, f108, f109⟩
          rw [e107]
          replace hR106a : w_Rep w_TC fr X u l I106a A106a B106a C106a M105 := hR106a
          replace f108 : c_bz I_41 A_41 I106a A106a 0 0 (I_41 2503) := f108
          replace f109 : (I106a 2503) = (I_41 2503) ∧ (0 ≤ (I106a 1035) ∧ (I106a 1035) ≤ 10000) ∧ (I106a 200) = (I_41 200) ∧ (I106a 202) = (I_41 202) := f109
          obtain ⟨n110, ⟨n111, n112⟩, n113, n114⟩ := id f109
          clear f109
          have bx115 : c_bz I A I106a A106a 0 0 (I 2503) := c_bz_trans (show c_bz I A I_41 A_41 0 0 (I 2503) from hi41_0) f108 (Int.le_refl _) (Int.le_refl _) (show 0 ≤ 0 ∨ 0 ≤ 0 by omega) (show 0 ≤ 0 ∨ 0 ≤ 0 by omega) (Int.le_refl _) (show (I 2503) ≤ (I_41 2503) by omega)
          show w_W _ _ _ (83, [(0, .ref 39), (1, .int (Int32.ofInt (n))), (2, .int (Int32.ofInt (y41_2))), (3, .int (Int32.ofInt (y41_3)))], [], M105) _
          refine w_adv (n := 1) (F' := (84, [(0, .ref 39), (1, .int (Int32.ofInt (n))), (2, .int (Int32.ofInt (y41_2))), (3, .int (Int32.ofInt (y41_3)))], [.ref 39], M105)) rfl ?_
          refine w_gf (v := .ref 26) hR106a rfl rfl rfl rfl ?_
          refine w_adv (n := 1) (F' := (88, [(0, .ref 39), (1, .int (Int32.ofInt (n))), (2, .int (Int32.ofInt (y41_2))), (3, .int (Int32.ofInt (y41_3)))], [.int (Int32.ofInt (y41_2)), .ref 26], M105)) rfl ?_
          refine w_call (cm := 161) (as := [(0, .ref 26), (1, .int (Int32.ofInt (y41_2)))]) (rest := []) (o := some (8, 26)) rfl (w_fitR hR106a rfl) (c_Tnext (y41_2) hR106a (show 1 ≤ d by omega) ⟨by omega, by omega⟩) (fun r116 M117 q118 => ?_)
          rcases q118 with ⟨v119, e120, ⟨r121, r122⟩, e123, f124⟩
          rw [e120, e123]
          replace f124 : c_rd (A106a 31) y41_2 v119 := f124
          show w_W _ _ _ (91, [(0, .ref 39), (1, .int (Int32.ofInt (n))), (2, .int (Int32.ofInt (y41_2))), (3, .int (Int32.ofInt (y41_3)))], [.int (Int32.ofInt (v119))], M105) _
          refine w_adv (n := 1) (F' := (92, [(2, .int (Int32.ofInt (v119))), (0, .ref 39), (1, .int (Int32.ofInt (n))), (3, .int (Int32.ofInt (y41_3)))], [], M105)) rfl ?_
          refine w_inc (nL := 4) (a := y41_3) rfl rfl rfl (by decide) ?_
          refine w_adv (n := 1) (F' := (41, [(3, .int (Int32.ofInt (y41_3 + 1))), (2, .int (Int32.ofInt (v119))), (0, .ref 39), (1, .int (Int32.ofInt (n)))], [], M105)) rfl ?_
          refine w_ls (ls := [(0, .ref 39), (1, .int (Int32.ofInt (n))), (2, .int (Int32.ofInt (v119))), (3, .int (Int32.ofInt (y41_3 + 1)))]) (show List.Nodup [0, 1, 2, 3] by decide) (show List.Nodup [3, 2, 0, 1] by decide) (List.forall_mem_cons.mpr ⟨(List.Mem.tail _ (List.Mem.tail _ (List.Mem.head _))), (List.forall_mem_cons.mpr ⟨(List.Mem.tail _ (List.Mem.tail _ (List.Mem.tail _ (List.Mem.head _)))), (List.forall_mem_cons.mpr ⟨(List.Mem.tail _ (List.Mem.head _)), (List.forall_mem_cons.mpr ⟨(List.Mem.head _), (fun _ h => by cases h)⟩)⟩)⟩)⟩) ?_
          exact ih41  (v119) (y41_3 + 1) I106a A106a B106a C106a M105 hR106a ⟨by omega, by omega⟩ ⟨by omega, by omega⟩ (show c_bz I A I106a A106a 0 0 (I 2503) by exact bx115) (show (I106a 2503) = (I 2503) ∧ (0 ≤ (I106a 1035) ∧ (I106a 1035) ≤ 10000) ∧ (I106a 200) = (I 200) ∧ (I106a 202) = (I 202) by (repeat' apply And.intro) <;> first | assumption | omega) (show 0 ≤ (y41_3 + 1) ∧ (y41_3 + 1) ≤ 1500 by omega) (show 1500 - (y41_3 + 1) < (fu41 : Int) by omega)
  refine w_ls (ls := [(0, .ref 39), (1, .int (Int32.ofInt (n))), (2, .int (Int32.ofInt (v46))), (3, .int (Int32.ofInt (0)))]) (show List.Nodup [0, 1, 2, 3] by decide) (show List.Nodup [3, 2, 0, 1] by decide) (List.forall_mem_cons.mpr ⟨(List.Mem.tail _ (List.Mem.tail _ (List.Mem.head _))), (List.forall_mem_cons.mpr ⟨(List.Mem.tail _ (List.Mem.tail _ (List.Mem.tail _ (List.Mem.head _)))), (List.forall_mem_cons.mpr ⟨(List.Mem.tail _ (List.Mem.head _)), (List.forall_mem_cons.mpr ⟨(List.Mem.head _), (fun _ h => by cases h)⟩)⟩)⟩)⟩) ?_
  exact lp41 ((1500 - 0 : Int).toNat + 1)  (v46) (0) I33a A33a B33a C33a M32 hR33a ⟨by omega, by omega⟩ ⟨by omega, by omega⟩ (show c_bz I A I33a A33a 0 0 (I 2503) by exact bx42) (show (I33a 2503) = (I 2503) ∧ (0 ≤ (I33a 1035) ∧ (I33a 1035) ≤ 10000) ∧ (I33a 200) = (I 200) ∧ (I33a 202) = (I 202) by (repeat' apply And.intro) <;> first | assumption | omega) (show 0 ≤ (0 : Int) ∧ (0 : Int) ≤ 1500 by omega) (show 1500 - 0 < (((1500 - 0 : Int).toNat + 1 : Nat) : Int) by omega)
def c_noMatch_Q (fr : Nat → Bool) (X : Nat → Option (q_C (Nat → Int32))) (u l : Nat) (I : Nat → Int) (A : Nat → Int → Int) (B C : Nat → Nat) (M : w_M) : w_X → w_M → Prop := fun r M' => (∃ v : Int, ∃ (I' : Nat → Int) (A' : Nat → Int → Int) (B' C' : Nat → Nat), (r = .inl (some v)) ∧ (w_in v) ∧ (w_Rep w_TC fr X u l I' A' B' C' M') ∧ (c_bz I A I' A' 0 0 (I 2503)) ∧ ((I' 2503) = (I 2503) ∧ (0 ≤ (I' 1035) ∧ (I' 1035) ≤ 10000) ∧ (I' 200) = (I 200) ∧ (I' 202) = (I 202)))
set_option maxHeartbeats 100000000 in
set_option maxRecDepth 100000 in
theorem c_noMatch {L : Nat} {xs : Nat → Int32} {d : Nat} {fr : Nat → Bool} {X : Nat → Option (q_C (Nat → Int32))} {u l : Nat} {I : Nat → Int} {A : Nat → Int → Int} {B C : Nat → Nat} {M : w_M} (hR : w_Rep w_TC fr X u l I A B C M) (hd : 4 ≤ d) (hKI : 0 ≤ (I 1035) ∧ (I 1035) ≤ 10000) (hW0 : 0 ≤ (I 2503)) : w_W (z_P L xs) d 187 (0, [(0, .ref 39)], [], M) (c_noMatch_Q fr X u l I A B C M) := by
  obtain ⟨d, rfl⟩ : ∃ d0, d = d0 + 1 := ⟨d - 1, by omega⟩
  refine w_adv (n := 1) (F' := (1, [(0, .ref 39)], [.ref 39], M)) rfl ?_
  refine w_gf (v := .ref 16) hR rfl rfl rfl rfl ?_
  refine w_adv (n := 1) (F' := (5, [(0, .ref 39)], [.int (Int32.ofInt ((-1))), .ref 16], M)) rfl ?_
  refine w_call (cm := 31) (as := [(0, .ref 16), (1, .int (Int32.ofInt ((-1))))]) (rest := []) (o := some (2, 16)) rfl (w_fitR hR rfl) (c_kmv ((-1)) hR (show 2 ≤ d by omega) ⟨by omega, by omega⟩ (show 0 ≤ (I 1035) ∧ (I 1035) ≤ 10000 by (repeat' apply And.intro) <;> first | assumption | omega) (show 0 ≤ (I 2503) by omega)) (fun r1 M2 q3 => ?_)
  rcases q3 with ⟨v4, I3a, A3a, B3a, C3a, e5, ⟨r6, r7⟩, hR3a, f8, f9⟩
  rw [e5]
  replace hR3a : w_Rep w_TC fr X u l I3a A3a B3a C3a M2 := hR3a
  replace f8 : c_bz I A I3a A3a 0 0 (I 2503) := f8
  replace f9 : (I3a 2503) = (I 2503) ∧ (0 ≤ (I3a 1035) ∧ (I3a 1035) ≤ 10000) ∧ (I3a 200) = (I 200) ∧ (I3a 202) = (I 202) := f9
  obtain ⟨n10, ⟨n11, n12⟩, n13, n14⟩ := id f9
  clear f9
  have bx15 : c_bz I A I3a A3a 0 0 (I 2503) := c_bz_trans (show c_bz I A I A 0 0 (I 2503) from c_bz_refl) f8 (Int.le_refl _) (Int.le_refl _) (show 0 ≤ 0 ∨ 0 ≤ 0 by omega) (show 0 ≤ 0 ∨ 0 ≤ 0 by omega) (Int.le_refl _) (show (I 2503) ≤ (I 2503) by omega)
  show w_W _ _ _ (8, [(0, .ref 39)], [.int (Int32.ofInt (v4))], M2) _
  refine w_adv (n := 2) (F' := (10, [(1, .int (Int32.ofInt (v4))), (0, .ref 39)], [.ref 39], M2)) rfl ?_
  refine w_gf (v := .ref 16) hR3a rfl rfl rfl rfl ?_
  refine w_adv (n := 4) (F' := (17, [(1, .int (Int32.ofInt (v4))), (0, .ref 39)], [.int (Int32.ofInt ((-1))), .int (Int32.ofInt (4)), .int (Int32.ofInt (v4)), .int (Int32.ofInt (5)), .ref 16], M2)) rfl ?_
  refine w_call (cm := 149) (as := [(0, .ref 16), (1, .int (Int32.ofInt (5))), (2, .int (Int32.ofInt (v4))), (3, .int (Int32.ofInt (4))), (4, .int (Int32.ofInt ((-1))))]) (rest := []) (o := some (2, 16)) rfl (w_fitR hR3a rfl) (c_kmk (5) (v4) (4) ((-1)) hR3a (show 2 ≤ d by omega) ⟨by omega, by omega⟩ ⟨by omega, by omega⟩ ⟨by omega, by omega⟩ ⟨by omega, by omega⟩ (show 0 ≤ (I3a 1035) ∧ (I3a 1035) ≤ 10000 by (repeat' apply And.intro) <;> first | assumption | omega) (show 0 ≤ (I3a 2503) by omega)) (fun r16 M17 q18 => ?_)
  rcases q18 with ⟨v19, I18a, A18a, B18a, C18a, e20, ⟨r21, r22⟩, hR18a, f23, f24⟩
  rw [e20]
  replace hR18a : w_Rep w_TC fr X u l I18a A18a B18a C18a M17 := hR18a
  replace f23 : c_bz I3a A3a I18a A18a 0 0 (I3a 2503) := f23
  replace f24 : (I18a 2503) = (I3a 2503) ∧ (0 ≤ (I18a 1035) ∧ (I18a 1035) ≤ 10000) ∧ (I18a 200) = (I3a 200) ∧ (I18a 202) = (I3a 202) := f24
  obtain ⟨n25, ⟨n26, n27⟩, n28, n29⟩ := id f24
  clear f24
  have bx30 : c_bz I A I18a A18a 0 0 (I 2503) := c_bz_trans (show c_bz I A I3a A3a 0 0 (I 2503) from bx15) f23 (Int.le_refl _) (Int.le_refl _) (show 0 ≤ 0 ∨ 0 ≤ 0 by omega) (show 0 ≤ 0 ∨ 0 ≤ 0 by omega) (Int.le_refl _) (show (I 2503) ≤ (I3a 2503) by omega)
  show w_W _ _ _ (20, [(1, .int (Int32.ofInt (v4))), (0, .ref 39)], [.int (Int32.ofInt (v19))], M17) _
  refine w_adv (n := 2) (F' := (22, [(2, .int (Int32.ofInt (v19))), (1, .int (Int32.ofInt (v4))), (0, .ref 39)], [.ref 39], M17)) rfl ?_
  refine w_gf (v := .ref 16) hR18a rfl rfl rfl rfl ?_
  refine w_adv (n := 2) (F' := (27, [(2, .int (Int32.ofInt (v19))), (1, .int (Int32.ofInt (v4))), (0, .ref 39)], [.ref 39, .int (Int32.ofInt (v19)), .ref 16], M17)) rfl ?_
  refine w_gf (v := .ref 16) hR18a rfl rfl rfl rfl ?_
  refine w_adv (n := 4) (F' := (35, [(2, .int (Int32.ofInt (v19))), (1, .int (Int32.ofInt (v4))), (0, .ref 39)], [.int (Int32.ofInt ((-1))), .int (Int32.ofInt ((-1))), .int (Int32.ofInt (v4)), .int (Int32.ofInt (16)), .ref 16, .int (Int32.ofInt (v19)), .ref 16], M17)) rfl ?_
  refine w_call (cm := 149) (as := [(0, .ref 16), (1, .int (Int32.ofInt (16))), (2, .int (Int32.ofInt (v4))), (3, .int (Int32.ofInt ((-1)))), (4, .int (Int32.ofInt ((-1))))]) (rest := [.int (Int32.ofInt (v19)), .ref 16]) (o := some (2, 16)) rfl (w_fitR hR18a rfl) (c_kmk (16) (v4) ((-1)) ((-1)) hR18a (show 2 ≤ d by omega) ⟨by omega, by omega⟩ ⟨by omega, by omega⟩ ⟨by omega, by omega⟩ ⟨by omega, by omega⟩ (show 0 ≤ (I18a 1035) ∧ (I18a 1035) ≤ 10000 by (repeat' apply And.intro) <;> first | assumption | omega) (show 0 ≤ (I18a 2503) by omega)) (fun r31 M32 q33 => ?_)
  rcases q33 with ⟨v34, I33a, A33a, B33a, C33a, e35, ⟨r36, r37⟩, hR33a, f38, f39⟩
  rw [e35]
  replace hR33a : w_Rep w_TC fr X u l I33a A33a B33a C33a M32 := hR33a
  replace f38 : c_bz I18a A18a I33a A33a 0 0 (I18a 2503) := f38
  replace f39 : (I33a 2503) = (I18a 2503) ∧ (0 ≤ (I33a 1035) ∧ (I33a 1035) ≤ 10000) ∧ (I33a 200) = (I18a 200) ∧ (I33a 202) = (I18a 202) := f39
  obtain ⟨n40, ⟨n41, n42⟩, n43, n44⟩ := id f39
  clear f39
  have bx45 : c_bz I A I33a A33a 0 0 (I 2503) := c_bz_trans (show c_bz I A I18a A18a 0 0 (I 2503) from bx30) f38 (Int.le_refl _) (Int.le_refl _) (show 0 ≤ 0 ∨ 0 ≤ 0 by omega) (show 0 ≤ 0 ∨ 0 ≤ 0 by omega) (Int.le_refl _) (show (I 2503) ≤ (I18a 2503) by omega)
  show w_W _ _ _ (38, [(2, .int (Int32.ofInt (v19))), (1, .int (Int32.ofInt (v4))), (0, .ref 39)], [.int (Int32.ofInt (v34)), .int (Int32.ofInt (v19)), .ref 16], M32) _
  refine w_call (cm := 151) (as := [(0, .ref 16), (1, .int (Int32.ofInt (v19))), (2, .int (Int32.ofInt (v34)))]) (rest := []) (o := some (2, 16)) rfl (w_fitR hR33a rfl) (c_klk (v19) (v34) hR33a (show 2 ≤ d by omega) ⟨by omega, by omega⟩ ⟨by omega, by omega⟩ (show 0 ≤ (I33a 1035) ∧ (I33a 1035) ≤ 10000 by (repeat' apply And.intro) <;> first | assumption | omega) (show 0 ≤ (I33a 2503) by omega)) (fun r46 M47 q48 => ?_)
  rcases q48 with ⟨I48a, A48a, B48a, C48a, e49, hR48a, f50, f51⟩
  rw [e49]
  replace hR48a : w_Rep w_TC fr X u l I48a A48a B48a C48a M47 := hR48a
  replace f50 : c_bz I33a A33a I48a A48a 0 0 (I33a 2503) := f50
  replace f51 : (I48a 2503) = (I33a 2503) ∧ (0 ≤ (I48a 1035) ∧ (I48a 1035) ≤ 10000) ∧ (I48a 200) = (I33a 200) ∧ (I48a 202) = (I33a 202) := f51
  obtain ⟨n52, ⟨n53, n54⟩, n55, n56⟩ := id f51
  clear f51
  have bx57 : c_bz I A I48a A48a 0 0 (I 2503) := c_bz_trans (show c_bz I A I33a A33a 0 0 (I 2503) from bx45) f50 (Int.le_refl _) (Int.le_refl _) (show 0 ≤ 0 ∨ 0 ≤ 0 by omega) (show 0 ≤ 0 ∨ 0 ≤ 0 by omega) (Int.le_refl _) (show (I 2503) ≤ (I33a 2503) by omega)
  show w_W _ _ _ (41, [(2, .int (Int32.ofInt (v19))), (1, .int (Int32.ofInt (v4))), (0, .ref 39)], [], M47) _
  refine w_adv (n := 1) (F' := (42, [(2, .int (Int32.ofInt (v19))), (1, .int (Int32.ofInt (v4))), (0, .ref 39)], [.ref 39], M47)) rfl ?_
  refine w_gf (v := .ref 16) hR48a rfl rfl rfl rfl ?_
  refine w_adv (n := 4) (F' := (49, [(2, .int (Int32.ofInt (v19))), (1, .int (Int32.ofInt (v4))), (0, .ref 39)], [.int (Int32.ofInt ((-1))), .int (Int32.ofInt (v19)), .int (Int32.ofInt ((-1))), .int (Int32.ofInt (2)), .ref 16], M47)) rfl ?_
  refine w_call (cm := 149) (as := [(0, .ref 16), (1, .int (Int32.ofInt (2))), (2, .int (Int32.ofInt ((-1)))), (3, .int (Int32.ofInt (v19))), (4, .int (Int32.ofInt ((-1))))]) (rest := []) (o := some (2, 16)) rfl (w_fitR hR48a rfl) (c_kmk (2) ((-1)) (v19) ((-1)) hR48a (show 2 ≤ d by omega) ⟨by omega, by omega⟩ ⟨by omega, by omega⟩ ⟨by omega, by omega⟩ ⟨by omega, by omega⟩ (show 0 ≤ (I48a 1035) ∧ (I48a 1035) ≤ 10000 by (repeat' apply And.intro) <;> first | assumption | omega) (show 0 ≤ (I48a 2503) by omega)) (fun r58 M59 q60 => ?_)
  rcases q60 with ⟨v61, I60a, A60a, B60a, C60a, e62, ⟨r63, r64⟩, hR60a, f65, f66⟩
  rw [e62]
  replace hR60a : w_Rep w_TC fr X u l I60a A60a B60a C60a M59 := hR60a
  replace f65 : c_bz I48a A48a I60a A60a 0 0 (I48a 2503) := f65
  replace f66 : (I60a 2503) = (I48a 2503) ∧ (0 ≤ (I60a 1035) ∧ (I60a 1035) ≤ 10000) ∧ (I60a 200) = (I48a 200) ∧ (I60a 202) = (I48a 202) := f66
  obtain ⟨n67, ⟨n68, n69⟩, n70, n71⟩ := id f66
  clear f66
  have bx72 : c_bz I A I60a A60a 0 0 (I 2503) := c_bz_trans (show c_bz I A I48a A48a 0 0 (I 2503) from bx57) f65 (Int.le_refl _) (Int.le_refl _) (show 0 ≤ 0 ∨ 0 ≤ 0 by omega) (show 0 ≤ 0 ∨ 0 ≤ 0 by omega) (Int.le_refl _) (show (I 2503) ≤ (I48a 2503) by omega)
  show w_W _ _ _ (52, [(2, .int (Int32.ofInt (v19))), (1, .int (Int32.ofInt (v4))), (0, .ref 39)], [.int (Int32.ofInt (v61))], M59) _
  refine w_adv (n := 2) (F' := (54, [(3, .int (Int32.ofInt (v61))), (2, .int (Int32.ofInt (v19))), (1, .int (Int32.ofInt (v4))), (0, .ref 39)], [.ref 39], M59)) rfl ?_
  refine w_gf (v := .ref 16) hR60a rfl rfl rfl rfl ?_
  refine w_adv (n := 1) (F' := (58, [(3, .int (Int32.ofInt (v61))), (2, .int (Int32.ofInt (v19))), (1, .int (Int32.ofInt (v4))), (0, .ref 39)], [.int (Int32.ofInt (v4)), .ref 16], M59)) rfl ?_
  refine w_call (cm := 164) (as := [(0, .ref 16), (1, .int (Int32.ofInt (v4)))]) (rest := []) (o := some (2, 16)) rfl (w_fitR hR60a rfl) (c_kad (v4) hR60a (show 1 ≤ d by omega) ⟨by omega, by omega⟩ (show 0 ≤ (I60a 1035) ∧ (I60a 1035) ≤ 10000 by (repeat' apply And.intro) <;> first | assumption | omega) (show 0 ≤ (I60a 2503) by omega)) (fun r73 M74 q75 => ?_)
  rcases q75 with ⟨I75a, A75a, B75a, C75a, e76, hR75a, f77, f78⟩
  rw [e76]
  replace hR75a : w_Rep w_TC fr X u l I75a A75a B75a C75a M74 := hR75a
  replace f77 : c_bz I60a A60a I75a A75a 0 0 (I60a 2503) := f77
  replace f78 : (I75a 2503) = (I60a 2503) ∧ (0 ≤ (I75a 1035) ∧ (I75a 1035) ≤ 10000) ∧ (I75a 200) = (I60a 200) ∧ (I75a 202) = (I60a 202) := f78
  obtain ⟨n79, ⟨n80, n81⟩, n82, n83⟩ := id f78
  clear f78
  have bx84 : c_bz I A I75a A75a 0 0 (I 2503) := c_bz_trans (show c_bz I A I60a A60a 0 0 (I 2503) from bx72) f77 (Int.le_refl _) (Int.le_refl _) (show 0 ≤ 0 ∨ 0 ≤ 0 by omega) (show 0 ≤ 0 ∨ 0 ≤ 0 by omega) (Int.le_refl _) (show (I 2503) ≤ (I60a 2503) by omega)
  show w_W _ _ _ (61, [(3, .int (Int32.ofInt (v61))), (2, .int (Int32.ofInt (v19))), (1, .int (Int32.ofInt (v4))), (0, .ref 39)], [], M74) _
  refine w_adv (n := 1) (F' := (62, [(3, .int (Int32.ofInt (v61))), (2, .int (Int32.ofInt (v19))), (1, .int (Int32.ofInt (v4))), (0, .ref 39)], [.int (Int32.ofInt (v61))], M74)) rfl ?_
  refine w_fin (r := .inl (some (v61))) (M' := M74) rfl ?_
  exact ⟨v61, I75a, A75a, B75a, C75a, rfl, ⟨by omega, by omega⟩, hR75a, (show c_bz I A I75a A75a 0 0 (I 2503) by exact bx84), (show (I75a 2503) = (I 2503) ∧ (0 ≤ (I75a 1035) ∧ (I75a 1035) ≤ 10000) ∧ (I75a 200) = (I 200) ∧ (I75a 202) = (I 202) by (repeat' apply And.intro) <;> first | assumption | omega)⟩
def c_operate_Q (fr : Nat → Bool) (X : Nat → Option (q_C (Nat → Int32))) (u l : Nat) (I : Nat → Int) (A : Nat → Int → Int) (B C : Nat → Nat) (M : w_M) (n : Int) : w_X → w_M → Prop := fun r M' => (∃ (I' : Nat → Int) (A' : Nat → Int → Int) (B' C' : Nat → Nat), (r = .inl none) ∧ (w_Rep w_TC fr X u l I' A' B' C' M') ∧ (c_bz I A I' A' 0 0 (I 2503)) ∧ ((I' 2503) = (I 2503) ∧ (0 ≤ (I' 1035) ∧ (I' 1035) ≤ 10000) ∧ (I' 200) = (I 200) ∧ (I' 202) = (I 202)))
set_option maxHeartbeats 100000000 in
set_option maxRecDepth 100000 in
theorem c_operate {L : Nat} {xs : Nat → Int32} {d : Nat} {fr : Nat → Bool} {X : Nat → Option (q_C (Nat → Int32))} {u l : Nat} {I : Nat → Int} {A : Nat → Int → Int} {B C : Nat → Nat} {M : w_M} (n : Int) (hR : w_Rep w_TC fr X u l I A B C M) (hd : 5 ≤ d) (r_n : w_in n) (hKI : 0 ≤ (I 1035) ∧ (I 1035) ≤ 10000) (hW0 : 0 ≤ (I 2503)) : w_W (z_P L xs) d 173 (0, [(0, .ref 39), (1, .int (Int32.ofInt (n)))], [], M) (c_operate_Q fr X u l I A B C M n) := by
  obtain ⟨ra_n, rb_n⟩ := r_n
  obtain ⟨d, rfl⟩ : ∃ d0, d = d0 + 1 := ⟨d - 1, by omega⟩
  refine w_adv (n := 1) (F' := (1, [(0, .ref 39), (1, .int (Int32.ofInt (n)))], [.ref 39], M)) rfl ?_
  refine w_gf (v := .ref 26) hR rfl rfl rfl rfl ?_
  refine w_adv (n := 1) (F' := (5, [(0, .ref 39), (1, .int (Int32.ofInt (n)))], [.int (Int32.ofInt (n)), .ref 26], M)) rfl ?_
  refine w_call (cm := 162) (as := [(0, .ref 26), (1, .int (Int32.ofInt (n)))]) (rest := []) (o := some (8, 26)) rfl (w_fitR hR rfl) (c_Tree_variable (n) hR (show 2 ≤ d by omega) ⟨by omega, by omega⟩) (fun r1 M2 q3 => ?_)
  rcases q3 with ⟨v4, e5, ⟨r6, r7⟩, e8⟩
  rw [e5, e8]
  show w_W _ _ _ (8, [(0, .ref 39), (1, .int (Int32.ofInt (n)))], [.int (Int32.ofInt (v4))], M) _
  refine w_adv (n := 2) (F' := (10, [(2, .int (Int32.ofInt (v4))), (0, .ref 39), (1, .int (Int32.ofInt (n)))], [.ref 39], M)) rfl ?_
  refine w_gf (v := .ref 26) hR rfl rfl rfl rfl ?_
  refine w_adv (n := 1) (F' := (14, [(2, .int (Int32.ofInt (v4))), (0, .ref 39), (1, .int (Int32.ofInt (n)))], [.ref 39, .ref 26], M)) rfl ?_
  refine w_gf (v := .ref 26) hR rfl rfl rfl rfl ?_
  refine w_adv (n := 1) (F' := (18, [(2, .int (Int32.ofInt (v4))), (0, .ref 39), (1, .int (Int32.ofInt (n)))], [.int (Int32.ofInt (n)), .ref 26, .ref 26], M)) rfl ?_
  refine w_call (cm := 145) (as := [(0, .ref 26), (1, .int (Int32.ofInt (n)))]) (rest := [.ref 26]) (o := some (8, 26)) rfl (w_fitR hR rfl) (c_Ta (n) hR (show 1 ≤ d by omega) ⟨by omega, by omega⟩) (fun r9 M10 q11 => ?_)
  rcases q11 with ⟨v12, e13, ⟨r14, r15⟩, e16, f17⟩
  rw [e13, e16]
  replace f17 : c_rd (A 28) n v12 := f17
  show w_W _ _ _ (21, [(2, .int (Int32.ofInt (v4))), (0, .ref 39), (1, .int (Int32.ofInt (n)))], [.int (Int32.ofInt (v12)), .ref 26], M) _
  refine w_call (cm := 162) (as := [(0, .ref 26), (1, .int (Int32.ofInt (v12)))]) (rest := []) (o := some (8, 26)) rfl (w_fitR hR rfl) (c_Tree_variable (v12) hR (show 2 ≤ d by omega) ⟨by omega, by omega⟩) (fun r18 M19 q20 => ?_)
  rcases q20 with ⟨v21, e22, ⟨r23, r24⟩, e25⟩
  rw [e22, e25]
  show w_W _ _ _ (24, [(2, .int (Int32.ofInt (v4))), (0, .ref 39), (1, .int (Int32.ofInt (n)))], [.int (Int32.ofInt (v21))], M) _
  refine w_adv (n := 2) (F' := (26, [(3, .int (Int32.ofInt (v21))), (2, .int (Int32.ofInt (v4))), (0, .ref 39), (1, .int (Int32.ofInt (n)))], [.ref 39], M)) rfl ?_
  refine w_gf (v := .ref 26) hR rfl rfl rfl rfl ?_
  refine w_adv (n := 1) (F' := (30, [(3, .int (Int32.ofInt (v21))), (2, .int (Int32.ofInt (v4))), (0, .ref 39), (1, .int (Int32.ofInt (n)))], [.int (Int32.ofInt (n)), .ref 26], M)) rfl ?_
  refine w_call (cm := 135) (as := [(0, .ref 26), (1, .int (Int32.ofInt (n)))]) (rest := []) (o := some (8, 26)) rfl (w_fitR hR rfl) (c_Tkind (n) hR (show 1 ≤ d by omega) ⟨by omega, by omega⟩) (fun r26 M27 q28 => ?_)
  rcases q28 with ⟨v29, e30, ⟨r31, r32⟩, e33, f34⟩
  rw [e30, e33]
  replace f34 : c_rd (A 27) n v29 := f34
  show w_W _ _ _ (33, [(3, .int (Int32.ofInt (v21))), (2, .int (Int32.ofInt (v4))), (0, .ref 39), (1, .int (Int32.ofInt (n)))], [.int (Int32.ofInt (v29))], M) _
  refine w_adv (n := 1) (F' := (35, [(3, .int (Int32.ofInt (v21))), (2, .int (Int32.ofInt (v4))), (0, .ref 39), (1, .int (Int32.ofInt (n)))], [.int (Int32.ofInt (9)), .int (Int32.ofInt (v29))], M)) rfl ?_
  refine w_br2 (a := v29) (b := 9) rfl rfl ⟨by omega, by omega⟩ ⟨by omega, by omega⟩ (fun h35 => ?_) (fun h35 => ?_)
  · have h35 : ¬ v29 = 9 := h35
    show w_W _ _ _ (55, [(3, .int (Int32.ofInt (v21))), (2, .int (Int32.ofInt (v4))), (0, .ref 39), (1, .int (Int32.ofInt (n)))], [], M) _
    refine w_adv (n := 1) (F' := (56, [(3, .int (Int32.ofInt (v21))), (2, .int (Int32.ofInt (v4))), (0, .ref 39), (1, .int (Int32.ofInt (n)))], [.ref 39], M)) rfl ?_
    refine w_gf (v := .ref 26) hR rfl rfl rfl rfl ?_
    refine w_adv (n := 1) (F' := (60, [(3, .int (Int32.ofInt (v21))), (2, .int (Int32.ofInt (v4))), (0, .ref 39), (1, .int (Int32.ofInt (n)))], [.int (Int32.ofInt (n)), .ref 26], M)) rfl ?_
    refine w_call (cm := 174) (as := [(0, .ref 26), (1, .int (Int32.ofInt (n)))]) (rest := []) (o := some (8, 26)) rfl (w_fitR hR rfl) (c_Tc (n) hR (show 1 ≤ d by omega) ⟨by omega, by omega⟩) (fun r36 M37 q38 => ?_)
    rcases q38 with ⟨v39, e40, ⟨r41, r42⟩, e43, f44⟩
    rw [e40, e43]
    replace f44 : c_rd (A 30) n v39 := f44
    show w_W _ _ _ (63, [(3, .int (Int32.ofInt (v21))), (2, .int (Int32.ofInt (v4))), (0, .ref 39), (1, .int (Int32.ofInt (n)))], [.int (Int32.ofInt (v39))], M) _
    refine w_adv (n := 1) (F' := (65, [(3, .int (Int32.ofInt (v21))), (2, .int (Int32.ofInt (v4))), (0, .ref 39), (1, .int (Int32.ofInt (n)))], [.int (Int32.ofInt (7)), .int (Int32.ofInt (v39))], M)) rfl ?_
    refine w_br2 (a := v39) (b := 7) rfl rfl ⟨by omega, by omega⟩ ⟨by omega, by omega⟩ (fun h45 => ?_) (fun h45 => ?_)
    · have h45 : ¬ v39 = 7 := h45
      show w_W _ _ _ (80, [(3, .int (Int32.ofInt (v21))), (2, .int (Int32.ofInt (v4))), (0, .ref 39), (1, .int (Int32.ofInt (n)))], [], M) _
      refine w_adv (n := 4) (F' := (85, [(3, .int (Int32.ofInt (v21))), (2, .int (Int32.ofInt (v4))), (0, .ref 39), (1, .int (Int32.ofInt (n)))], [.ref 39, .int (Int32.ofInt (v4)), .int (Int32.ofInt (8)), .ref 39], M)) rfl ?_
      refine w_gf (v := .ref 26) hR rfl rfl rfl rfl ?_
      refine w_adv (n := 1) (F' := (89, [(3, .int (Int32.ofInt (v21))), (2, .int (Int32.ofInt (v4))), (0, .ref 39), (1, .int (Int32.ofInt (n)))], [.int (Int32.ofInt (n)), .ref 26, .int (Int32.ofInt (v4)), .int (Int32.ofInt (8)), .ref 39], M)) rfl ?_
      refine w_call (cm := 174) (as := [(0, .ref 26), (1, .int (Int32.ofInt (n)))]) (rest := [.int (Int32.ofInt (v4)), .int (Int32.ofInt (8)), .ref 39]) (o := some (8, 26)) rfl (w_fitR hR rfl) (c_Tc (n) hR (show 1 ≤ d by omega) ⟨by omega, by omega⟩) (fun r46 M47 q48 => ?_)
      rcases q48 with ⟨v49, e50, ⟨r51, r52⟩, e53, f54⟩
      rw [e50, e53]
      replace f54 : c_rd (A 30) n v49 := f54
      show w_W _ _ _ (92, [(3, .int (Int32.ofInt (v21))), (2, .int (Int32.ofInt (v4))), (0, .ref 39), (1, .int (Int32.ofInt (n)))], [.int (Int32.ofInt (v49)), .int (Int32.ofInt (v4)), .int (Int32.ofInt (8)), .ref 39], M) _
      refine w_adv (n := 1) (F' := (93, [(3, .int (Int32.ofInt (v21))), (2, .int (Int32.ofInt (v4))), (0, .ref 39), (1, .int (Int32.ofInt (n)))], [.int (Int32.ofInt ((-1))), .int (Int32.ofInt (v49)), .int (Int32.ofInt (v4)), .int (Int32.ofInt (8)), .ref 39], M)) rfl ?_
      refine w_call (cm := 148) (as := [(0, .ref 39), (1, .int (Int32.ofInt (8))), (2, .int (Int32.ofInt (v4))), (3, .int (Int32.ofInt (v49))), (4, .int (Int32.ofInt ((-1))))]) (rest := []) (o := some (1, 39)) rfl (w_fitR hR rfl) (c_emit (8) (v4) (v49) ((-1)) hR (show 4 ≤ d by omega) ⟨by omega, by omega⟩ ⟨by omega, by omega⟩ ⟨by omega, by omega⟩ ⟨by omega, by omega⟩ (show 0 ≤ (I 1035) ∧ (I 1035) ≤ 10000 by (repeat' apply And.intro) <;> first | assumption | omega) (show 0 ≤ (I 2503) by omega)) (fun r55 M56 q57 => ?_)
      rcases q57 with ⟨I57a, A57a, B57a, C57a, e58, hR57a, f59, f60⟩
      rw [e58]
      replace hR57a : w_Rep w_TC fr X u l I57a A57a B57a C57a M56 := hR57a
      replace f59 : c_bz I A I57a A57a 0 0 (I 2503) := f59
      replace f60 : (I57a 2503) = (I 2503) ∧ (0 ≤ (I57a 1035) ∧ (I57a 1035) ≤ 10000) ∧ (I57a 200) = (I 200) ∧ (I57a 202) = (I 202) := f60
      obtain ⟨n61, ⟨n62, n63⟩, n64, n65⟩ := id f60
      clear f60
      have bx66 : c_bz I A I57a A57a 0 0 (I 2503) := c_bz_trans (show c_bz I A I A 0 0 (I 2503) from c_bz_refl) f59 (Int.le_refl _) (Int.le_refl _) (show 0 ≤ 0 ∨ 0 ≤ 0 by omega) (show 0 ≤ 0 ∨ 0 ≤ 0 by omega) (Int.le_refl _) (show (I 2503) ≤ (I 2503) by omega)
      show w_W _ _ _ (96, [(3, .int (Int32.ofInt (v21))), (2, .int (Int32.ofInt (v4))), (0, .ref 39), (1, .int (Int32.ofInt (n)))], [], M56) _
      refine w_adv (n := 1) (F' := (97, [(3, .int (Int32.ofInt (v21))), (2, .int (Int32.ofInt (v4))), (0, .ref 39), (1, .int (Int32.ofInt (n)))], [.ref 39], M56)) rfl ?_
      refine w_gf (v := .ref 16) hR57a rfl rfl rfl rfl ?_
      refine w_adv (n := 1) (F' := (101, [(3, .int (Int32.ofInt (v21))), (2, .int (Int32.ofInt (v4))), (0, .ref 39), (1, .int (Int32.ofInt (n)))], [.int (Int32.ofInt (v21)), .ref 16], M56)) rfl ?_
      refine w_call (cm := 164) (as := [(0, .ref 16), (1, .int (Int32.ofInt (v21)))]) (rest := []) (o := some (2, 16)) rfl (w_fitR hR57a rfl) (c_kad (v21) hR57a (show 1 ≤ d by omega) ⟨by omega, by omega⟩ (show 0 ≤ (I57a 1035) ∧ (I57a 1035) ≤ 10000 by (repeat' apply And.intro) <;> first | assumption | omega) (show 0 ≤ (I57a 2503) by omega)) (fun r67 M68 q69 => ?_)
      rcases q69 with ⟨I69a, A69a, B69a, C69a, e70, hR69a, f71, f72⟩
      rw [e70]
      replace hR69a : w_Rep w_TC fr X u l I69a A69a B69a C69a M68 := hR69a
      replace f71 : c_bz I57a A57a I69a A69a 0 0 (I57a 2503) := f71
      replace f72 : (I69a 2503) = (I57a 2503) ∧ (0 ≤ (I69a 1035) ∧ (I69a 1035) ≤ 10000) ∧ (I69a 200) = (I57a 200) ∧ (I69a 202) = (I57a 202) := f72
      obtain ⟨n73, ⟨n74, n75⟩, n76, n77⟩ := id f72
      clear f72
      have bx78 : c_bz I A I69a A69a 0 0 (I 2503) := c_bz_trans (show c_bz I A I57a A57a 0 0 (I 2503) from bx66) f71 (Int.le_refl _) (Int.le_refl _) (show 0 ≤ 0 ∨ 0 ≤ 0 by omega) (show 0 ≤ 0 ∨ 0 ≤ 0 by omega) (Int.le_refl _) (show (I 2503) ≤ (I57a 2503) by omega)
      show w_W _ _ _ (104, [(3, .int (Int32.ofInt (v21))), (2, .int (Int32.ofInt (v4))), (0, .ref 39), (1, .int (Int32.ofInt (n)))], [], M68) _
      refine w_adv (n := 1) (F' := (105, [(3, .int (Int32.ofInt (v21))), (2, .int (Int32.ofInt (v4))), (0, .ref 39), (1, .int (Int32.ofInt (n)))], [.ref 39], M68)) rfl ?_
      refine w_gf (v := .ref 16) hR69a rfl rfl rfl rfl ?_
      refine w_adv (n := 1) (F' := (109, [(3, .int (Int32.ofInt (v21))), (2, .int (Int32.ofInt (v4))), (0, .ref 39), (1, .int (Int32.ofInt (n)))], [.ref 39, .ref 16], M68)) rfl ?_
      refine w_gf (v := .ref 26) hR69a rfl rfl rfl rfl ?_
      refine w_adv (n := 1) (F' := (113, [(3, .int (Int32.ofInt (v21))), (2, .int (Int32.ofInt (v4))), (0, .ref 39), (1, .int (Int32.ofInt (n)))], [.ref 39, .ref 26, .ref 16], M68)) rfl ?_
      refine w_gf (v := .ref 26) hR69a rfl rfl rfl rfl ?_
      refine w_adv (n := 1) (F' := (117, [(3, .int (Int32.ofInt (v21))), (2, .int (Int32.ofInt (v4))), (0, .ref 39), (1, .int (Int32.ofInt (n)))], [.int (Int32.ofInt (n)), .ref 26, .ref 26, .ref 16], M68)) rfl ?_
      refine w_call (cm := 152) (as := [(0, .ref 26), (1, .int (Int32.ofInt (n)))]) (rest := [.ref 26, .ref 16]) (o := some (8, 26)) rfl (w_fitR hR69a rfl) (c_Tb (n) hR69a (show 1 ≤ d by omega) ⟨by omega, by omega⟩) (fun r79 M80 q81 => ?_)
      rcases q81 with ⟨v82, e83, ⟨r84, r85⟩, e86, f87⟩
      rw [e83, e86]
      replace f87 : c_rd (A69a 29) n v82 := f87
      show w_W _ _ _ (120, [(3, .int (Int32.ofInt (v21))), (2, .int (Int32.ofInt (v4))), (0, .ref 39), (1, .int (Int32.ofInt (n)))], [.int (Int32.ofInt (v82)), .ref 26, .ref 16], M68) _
      refine w_call (cm := 162) (as := [(0, .ref 26), (1, .int (Int32.ofInt (v82)))]) (rest := [.ref 16]) (o := some (8, 26)) rfl (w_fitR hR69a rfl) (c_Tree_variable (v82) hR69a (show 2 ≤ d by omega) ⟨by omega, by omega⟩) (fun r88 M89 q90 => ?_)
      rcases q90 with ⟨v91, e92, ⟨r93, r94⟩, e95⟩
      rw [e92, e95]
      show w_W _ _ _ (123, [(3, .int (Int32.ofInt (v21))), (2, .int (Int32.ofInt (v4))), (0, .ref 39), (1, .int (Int32.ofInt (n)))], [.int (Int32.ofInt (v91)), .ref 16], M68) _
      refine w_call (cm := 164) (as := [(0, .ref 16), (1, .int (Int32.ofInt (v91)))]) (rest := []) (o := some (2, 16)) rfl (w_fitR hR69a rfl) (c_kad (v91) hR69a (show 1 ≤ d by omega) ⟨by omega, by omega⟩ (show 0 ≤ (I69a 1035) ∧ (I69a 1035) ≤ 10000 by (repeat' apply And.intro) <;> first | assumption | omega) (show 0 ≤ (I69a 2503) by omega)) (fun r96 M97 q98 => ?_)
      rcases q98 with ⟨I98a, A98a, B98a, C98a, e99, hR98a, f100, f101⟩
      rw [e99]
      replace hR98a : w_Rep w_TC fr X u l I98a A98a B98a C98a M97 := hR98a
      replace f100 : c_bz I69a A69a I98a A98a 0 0 (I69a 2503) := f100
      replace f101 : (I98a 2503) = (I69a 2503) ∧ (0 ≤ (I98a 1035) ∧ (I98a 1035) ≤ 10000) ∧ (I98a 200) = (I69a 200) ∧ (I98a 202) = (I69a 202) := f101
      obtain ⟨n102, ⟨n103, n104⟩, n105, n106⟩ := id f101
      clear f101
      have bx107 : c_bz I A I98a A98a 0 0 (I 2503) := c_bz_trans (show c_bz I A I69a A69a 0 0 (I 2503) from bx78) f100 (Int.le_refl _) (Int.le_refl _) (show 0 ≤ 0 ∨ 0 ≤ 0 by omega) (show 0 ≤ 0 ∨ 0 ≤ 0 by omega) (Int.le_refl _) (show (I 2503) ≤ (I69a 2503) by omega)
      show w_W _ _ _ (126, [(3, .int (Int32.ofInt (v21))), (2, .int (Int32.ofInt (v4))), (0, .ref 39), (1, .int (Int32.ofInt (n)))], [], M97) _
      refine w_fin (r := .inl none) (M' := M97) rfl ?_
      exact ⟨I98a, A98a, B98a, C98a, rfl, hR98a, (show c_bz I A I98a A98a 0 0 (I 2503) by exact bx107), (show (I98a 2503) = (I 2503) ∧ (0 ≤ (I98a 1035) ∧ (I98a 1035) ≤ 10000) ∧ (I98a 200) = (I 200) ∧ (I98a 202) = (I 202) by (repeat' apply And.intro) <;> first | assumption | omega)⟩
    · have h45 : ¬ (¬ v39 = 7) := h45
      show w_W _ _ _ (68, [(3, .int (Int32.ofInt (v21))), (2, .int (Int32.ofInt (v4))), (0, .ref 39), (1, .int (Int32.ofInt (n)))], [], M) _
      refine w_adv (n := 5) (F' := (74, [(3, .int (Int32.ofInt (v21))), (2, .int (Int32.ofInt (v4))), (0, .ref 39), (1, .int (Int32.ofInt (n)))], [.int (Int32.ofInt ((-1))), .int (Int32.ofInt ((-1))), .int (Int32.ofInt (v4)), .int (Int32.ofInt (9)), .ref 39], M)) rfl ?_
      refine w_call (cm := 148) (as := [(0, .ref 39), (1, .int (Int32.ofInt (9))), (2, .int (Int32.ofInt (v4))), (3, .int (Int32.ofInt ((-1)))), (4, .int (Int32.ofInt ((-1))))]) (rest := []) (o := some (1, 39)) rfl (w_fitR hR rfl) (c_emit (9) (v4) ((-1)) ((-1)) hR (show 4 ≤ d by omega) ⟨by omega, by omega⟩ ⟨by omega, by omega⟩ ⟨by omega, by omega⟩ ⟨by omega, by omega⟩ (show 0 ≤ (I 1035) ∧ (I 1035) ≤ 10000 by (repeat' apply And.intro) <;> first | assumption | omega) (show 0 ≤ (I 2503) by omega)) (fun r108 M109 q110 => ?_)
      rcases q110 with ⟨I110a, A110a, B110a, C110a, e111, hR110a, f112, f113⟩
      rw [e111]
      replace hR110a : w_Rep w_TC fr X u l I110a A110a B110a C110a M109 := hR110a
      replace f112 : c_bz I A I110a A110a 0 0 (I 2503) := f112
      replace f113 : (I110a 2503) = (I 2503) ∧ (0 ≤ (I110a 1035) ∧ (I110a 1035) ≤ 10000) ∧ (I110a 200) = (I 200) ∧ (I110a 202) = (I 202) := f113
      obtain ⟨n114, ⟨n115, n116⟩, n117, n118⟩ := id f113
      clear f113
      have bx119 : c_bz I A I110a A110a 0 0 (I 2503) := c_bz_trans (show c_bz I A I A 0 0 (I 2503) from c_bz_refl) f112 (Int.le_refl _) (Int.le_refl _) (show 0 ≤ 0 ∨ 0 ≤ 0 by omega) (show 0 ≤ 0 ∨ 0 ≤ 0 by omega) (Int.le_refl _) (show (I 2503) ≤ (I 2503) by omega)
      show w_W _ _ _ (77, [(3, .int (Int32.ofInt (v21))), (2, .int (Int32.ofInt (v4))), (0, .ref 39), (1, .int (Int32.ofInt (n)))], [], M109) _
      refine w_adv (n := 2) (F' := (97, [(3, .int (Int32.ofInt (v21))), (2, .int (Int32.ofInt (v4))), (0, .ref 39), (1, .int (Int32.ofInt (n)))], [.ref 39], M109)) rfl ?_
      refine w_gf (v := .ref 16) hR110a rfl rfl rfl rfl ?_
      refine w_adv (n := 1) (F' := (101, [(3, .int (Int32.ofInt (v21))), (2, .int (Int32.ofInt (v4))), (0, .ref 39), (1, .int (Int32.ofInt (n)))], [.int (Int32.ofInt (v21)), .ref 16], M109)) rfl ?_
      refine w_call (cm := 164) (as := [(0, .ref 16), (1, .int (Int32.ofInt (v21)))]) (rest := []) (o := some (2, 16)) rfl (w_fitR hR110a rfl) (c_kad (v21) hR110a (show 1 ≤ d by omega) ⟨by omega, by omega⟩ (show 0 ≤ (I110a 1035) ∧ (I110a 1035) ≤ 10000 by (repeat' apply And.intro) <;> first | assumption | omega) (show 0 ≤ (I110a 2503) by omega)) (fun r120 M121 q122 => ?_)
      rcases q122 with ⟨I122a, A122a, B122a, C122a, e123, hR122a, f124, f125⟩
      rw [e123]
      replace hR122a : w_Rep w_TC fr X u l I122a A122a B122a C122a M121 := hR122a
      replace f124 : c_bz I110a A110a I122a A122a 0 0 (I110a 2503) := f124
      replace f125 : (I122a 2503) = (I110a 2503) ∧ (0 ≤ (I122a 1035) ∧ (I122a 1035) ≤ 10000) ∧ (I122a 200) = (I110a 200) ∧ (I122a 202) = (I110a 202) := f125
      obtain ⟨n126, ⟨n127, n128⟩, n129, n130⟩ := id f125
      clear f125
      have bx131 : c_bz I A I122a A122a 0 0 (I 2503) := c_bz_trans (show c_bz I A I110a A110a 0 0 (I 2503) from bx119) f124 (Int.le_refl _) (Int.le_refl _) (show 0 ≤ 0 ∨ 0 ≤ 0 by omega) (show 0 ≤ 0 ∨ 0 ≤ 0 by omega) (Int.le_refl _) (show (I 2503) ≤ (I110a 2503) by omega)
      show w_W _ _ _ (104, [(3, .int (Int32.ofInt (v21))), (2, .int (Int32.ofInt (v4))), (0, .ref 39), (1, .int (Int32.ofInt (n)))], [], M121) _
      refine w_adv (n := 1) (F' := (105, [(3, .int (Int32.ofInt (v21))), (2, .int (Int32.ofInt (v4))), (0, .ref 39), (1, .int (Int32.ofInt (n)))], [.ref 39], M121)) rfl ?_
      refine w_gf (v := .ref 16) hR122a rfl rfl rfl rfl ?_
      refine w_adv (n := 1) (F' := (109, [(3, .int (Int32.ofInt (v21))), (2, .int (Int32.ofInt (v4))), (0, .ref 39), (1, .int (Int32.ofInt (n)))], [.ref 39, .ref 16], M121)) rfl ?_
      refine w_gf (v := .ref 26) hR122a rfl rfl rfl rfl ?_
      refine w_adv (n := 1) (F' := (113, [(3, .int (Int32.ofInt (v21))), (2, .int (Int32.ofInt (v4))), (0, .ref 39), (1, .int (Int32.ofInt (n)))], [.ref 39, .ref 26, .ref 16], M121)) rfl ?_
      refine w_gf (v := .ref 26) hR122a rfl rfl rfl rfl ?_
      refine w_adv (n := 1) (F' := (117, [(3, .int (Int32.ofInt (v21))), (2, .int (Int32.ofInt (v4))), (0, .ref 39), (1, .int (Int32.ofInt (n)))], [.int (Int32.ofInt (n)), .ref 26, .ref 26, .ref 16], M121)) rfl ?_
      refine w_call (cm := 152) (as := [(0, .ref 26), (1, .int (Int32.ofInt (n)))]) (rest := [.ref 26, .ref 16]) (o := some (8, 26)) rfl (w_fitR hR122a rfl) (c_Tb (n) hR122a (show 1 ≤ d by omega) ⟨by omega, by omega⟩) (fun r132 M133 q134 => ?_)
      rcases q134 with ⟨v135, e136, ⟨r137, r138⟩, e139, f140⟩
      rw [e136, e139]
      replace f140 : c_rd (A122a 29) n v135 := f140
      show w_W _ _ _ (120, [(3, .int (Int32.ofInt (v21))), (2, .int (Int32.ofInt (v4))), (0, .ref 39), (1, .int (Int32.ofInt (n)))], [.int (Int32.ofInt (v135)), .ref 26, .ref 16], M121) _
      refine w_call (cm := 162) (as := [(0, .ref 26), (1, .int (Int32.ofInt (v135)))]) (rest := [.ref 16]) (o := some (8, 26)) rfl (w_fitR hR122a rfl) (c_Tree_variable (v135) hR122a (show 2 ≤ d by omega) ⟨by omega, by omega⟩) (fun r141 M142 q143 => ?_)
      rcases q143 with ⟨v144, e145, ⟨r146, r147⟩, e148⟩
      rw [e145, e148]
      show w_W _ _ _ (123, [(3, .int (Int32.ofInt (v21))), (2, .int (Int32.ofInt (v4))), (0, .ref 39), (1, .int (Int32.ofInt (n)))], [.int (Int32.ofInt (v144)), .ref 16], M121) _
      refine w_call (cm := 164) (as := [(0, .ref 16), (1, .int (Int32.ofInt (v144)))]) (rest := []) (o := some (2, 16)) rfl (w_fitR hR122a rfl) (c_kad (v144) hR122a (show 1 ≤ d by omega) ⟨by omega, by omega⟩ (show 0 ≤ (I122a 1035) ∧ (I122a 1035) ≤ 10000 by (repeat' apply And.intro) <;> first | assumption | omega) (show 0 ≤ (I122a 2503) by omega)) (fun r149 M150 q151 => ?_)
      rcases q151 with ⟨I151a, A151a, B151a, C151a, e152, hR151a, f153, f154⟩
      rw [e152]
      replace hR151a : w_Rep w_TC fr X u l I151a A151a B151a C151a M150 := hR151a
      replace f153 : c_bz I122a A122a I151a A151a 0 0 (I122a 2503) := f153
      replace f154 : (I151a 2503) = (I122a 2503) ∧ (0 ≤ (I151a 1035) ∧ (I151a 1035) ≤ 10000) ∧ (I151a 200) = (I122a 200) ∧ (I151a 202) = (I122a 202) := f154
      obtain ⟨n155, ⟨n156, n157⟩, n158, n159⟩ := id f154
      clear f154
      have bx160 : c_bz I A I151a A151a 0 0 (I 2503) := c_bz_trans (show c_bz I A I122a A122a 0 0 (I 2503) from bx131) f153 (Int.le_refl _) (Int.le_refl _) (show 0 ≤ 0 ∨ 0 ≤ 0 by omega) (show 0 ≤ 0 ∨ 0 ≤ 0 by omega) (Int.le_refl _) (show (I 2503) ≤ (I122a 2503) by omega)
      show w_W _ _ _ (126, [(3, .int (Int32.ofInt (v21))), (2, .int (Int32.ofInt (v4))), (0, .ref 39), (1, .int (Int32.ofInt (n)))], [], M150) _
      refine w_fin (r := .inl none) (M' := M150) rfl ?_
      exact ⟨I151a, A151a, B151a, C151a, rfl, hR151a, (show c_bz I A I151a A151a 0 0 (I 2503) by exact bx160), (show (I151a 2503) = (I 2503) ∧ (0 ≤ (I151a 1035) ∧ (I151a 1035) ≤ 10000) ∧ (I151a 200) = (I 200) ∧ (I151a 202) = (I 202) by (repeat' apply And.intro) <;> first | assumption | omega)⟩
  · have h35 : ¬ (¬ v29 = 9) := h35
    show w_W _ _ _ (38, [(3, .int (Int32.ofInt (v21))), (2, .int (Int32.ofInt (v4))), (0, .ref 39), (1, .int (Int32.ofInt (n)))], [], M) _
    refine w_adv (n := 5) (F' := (44, [(3, .int (Int32.ofInt (v21))), (2, .int (Int32.ofInt (v4))), (0, .ref 39), (1, .int (Int32.ofInt (n)))], [.ref 39, .int (Int32.ofInt (v21)), .int (Int32.ofInt (v4)), .int (Int32.ofInt (10)), .ref 39], M)) rfl ?_
    refine w_gf (v := .ref 26) hR rfl rfl rfl rfl ?_
    refine w_adv (n := 1) (F' := (48, [(3, .int (Int32.ofInt (v21))), (2, .int (Int32.ofInt (v4))), (0, .ref 39), (1, .int (Int32.ofInt (n)))], [.int (Int32.ofInt (n)), .ref 26, .int (Int32.ofInt (v21)), .int (Int32.ofInt (v4)), .int (Int32.ofInt (10)), .ref 39], M)) rfl ?_
    refine w_call (cm := 152) (as := [(0, .ref 26), (1, .int (Int32.ofInt (n)))]) (rest := [.int (Int32.ofInt (v21)), .int (Int32.ofInt (v4)), .int (Int32.ofInt (10)), .ref 39]) (o := some (8, 26)) rfl (w_fitR hR rfl) (c_Tb (n) hR (show 1 ≤ d by omega) ⟨by omega, by omega⟩) (fun r161 M162 q163 => ?_)
    rcases q163 with ⟨v164, e165, ⟨r166, r167⟩, e168, f169⟩
    rw [e165, e168]
    replace f169 : c_rd (A 29) n v164 := f169
    show w_W _ _ _ (51, [(3, .int (Int32.ofInt (v21))), (2, .int (Int32.ofInt (v4))), (0, .ref 39), (1, .int (Int32.ofInt (n)))], [.int (Int32.ofInt (v164)), .int (Int32.ofInt (v21)), .int (Int32.ofInt (v4)), .int (Int32.ofInt (10)), .ref 39], M) _
    refine w_call (cm := 148) (as := [(0, .ref 39), (1, .int (Int32.ofInt (10))), (2, .int (Int32.ofInt (v4))), (3, .int (Int32.ofInt (v21))), (4, .int (Int32.ofInt (v164)))]) (rest := []) (o := some (1, 39)) rfl (w_fitR hR rfl) (c_emit (10) (v4) (v21) (v164) hR (show 4 ≤ d by omega) ⟨by omega, by omega⟩ ⟨by omega, by omega⟩ ⟨by omega, by omega⟩ ⟨by omega, by omega⟩ (show 0 ≤ (I 1035) ∧ (I 1035) ≤ 10000 by (repeat' apply And.intro) <;> first | assumption | omega) (show 0 ≤ (I 2503) by omega)) (fun r170 M171 q172 => ?_)
    rcases q172 with ⟨I172a, A172a, B172a, C172a, e173, hR172a, f174, f175⟩
    rw [e173]
    replace hR172a : w_Rep w_TC fr X u l I172a A172a B172a C172a M171 := hR172a
    replace f174 : c_bz I A I172a A172a 0 0 (I 2503) := f174
    replace f175 : (I172a 2503) = (I 2503) ∧ (0 ≤ (I172a 1035) ∧ (I172a 1035) ≤ 10000) ∧ (I172a 200) = (I 200) ∧ (I172a 202) = (I 202) := f175
    obtain ⟨n176, ⟨n177, n178⟩, n179, n180⟩ := id f175
    clear f175
    have bx181 : c_bz I A I172a A172a 0 0 (I 2503) := c_bz_trans (show c_bz I A I A 0 0 (I 2503) from c_bz_refl) f174 (Int.le_refl _) (Int.le_refl _) (show 0 ≤ 0 ∨ 0 ≤ 0 by omega) (show 0 ≤ 0 ∨ 0 ≤ 0 by omega) (Int.le_refl _) (show (I 2503) ≤ (I 2503) by omega)
    show w_W _ _ _ (54, [(3, .int (Int32.ofInt (v21))), (2, .int (Int32.ofInt (v4))), (0, .ref 39), (1, .int (Int32.ofInt (n)))], [], M171) _
    refine w_fin (r := .inl none) (M' := M171) rfl ?_
    exact ⟨I172a, A172a, B172a, C172a, rfl, hR172a, (show c_bz I A I172a A172a 0 0 (I 2503) by exact bx181), (show (I172a 2503) = (I 2503) ∧ (0 ≤ (I172a 1035) ∧ (I172a 1035) ≤ 10000) ∧ (I172a 200) = (I 200) ∧ (I172a 202) = (I 202) by (repeat' apply And.intro) <;> first | assumption | omega)⟩
