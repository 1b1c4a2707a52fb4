/-! BUILDER of the class: patterns. -/
def c_addPattern_Q (fr : Nat → Bool) (X : Nat → Option (q_C (Nat → Int32))) (u l : Nat) (I : Nat → Int) (A : Nat → Int → Int) (B C : Nat → Nat) (M : w_M) (n : Int) : w_X → w_M → Prop := fun r M' => (∃ (I' : Nat → Int) (A' : Nat → Int → Int) (B' C' : Nat → Nat), (r = .inl none) ∧ (w_Rep w_TC fr X u l I' A' B' C' M') ∧ (c_bz I A I' A' 0 0 (I 2503)) ∧ ((I' 2503) = (I 2503) ∧ (0 ≤ (I' 1035) ∧ (I' 1035) ≤ 10000) ∧ (I' 200) = (I 200) ∧ (I' 202) = (I 202)))
set_option maxHeartbeats 100000000 in
set_option maxRecDepth 100000 in
theorem c_addPattern {L : Nat} {xs : Nat → Int32} {d : Nat} {fr : Nat → Bool} {X : Nat → Option (q_C (Nat → Int32))} {u l : Nat} {I : Nat → Int} {A : Nat → Int → Int} {B C : Nat → Nat} {M : w_M} (n : Int) (hR : w_Rep w_TC fr X u l I A B C M) (hd : 6 ≤ d) (r_n : w_in n) (hKI : 0 ≤ (I 1035) ∧ (I 1035) ≤ 10000) (hKS : c_ks A) (hNM : 36 ≤ (I 200) ∧ (I 200) ≤ 419 ∧ 0 ≤ (I 202) ∧ (I 202) ≤ 24) (hLN : ∀ i, (A 5) i ≤ 24) (hW0 : 0 ≤ (I 2503)) : w_W (z_P L xs) d 188 (0, [(0, .ref 39), (1, .int (Int32.ofInt (n)))], [], M) (c_addPattern_Q fr X u l I A B C M n) := by
  obtain ⟨ra_n, rb_n⟩ := r_n
  obtain ⟨d, rfl⟩ : ∃ d0, d = d0 + 1 := ⟨d - 1, by omega⟩
  refine w_adv (n := 1) (F' := (1, [(0, .ref 39), (1, .int (Int32.ofInt (n)))], [.ref 39], M)) rfl ?_
  refine w_gf (v := .ref 16) hR rfl rfl rfl rfl ?_
  refine w_adv (n := 1) (F' := (5, [(0, .ref 39), (1, .int (Int32.ofInt (n)))], [.ref 39, .ref 16], M)) rfl ?_
  refine w_gf (v := .ref 26) hR rfl rfl rfl rfl ?_
  refine w_adv (n := 1) (F' := (9, [(0, .ref 39), (1, .int (Int32.ofInt (n)))], [.int (Int32.ofInt (n)), .ref 26, .ref 16], M)) rfl ?_
  refine w_call (cm := 145) (as := [(0, .ref 26), (1, .int (Int32.ofInt (n)))]) (rest := [.ref 16]) (o := some (8, 26)) rfl (w_fitR hR rfl) (c_Ta (n) hR (show 1 ≤ d by omega) ⟨by omega, by omega⟩) (fun r1 M2 q3 => ?_)
  rcases q3 with ⟨v4, e5, ⟨r6, r7⟩, e8, f9⟩
  rw [e5, e8]
  replace f9 : c_rd (A 28) n v4 := f9
  show w_W _ _ _ (12, [(0, .ref 39), (1, .int (Int32.ofInt (n)))], [.int (Int32.ofInt (v4)), .ref 16], M) _
  refine w_call (cm := 164) (as := [(0, .ref 16), (1, .int (Int32.ofInt (v4)))]) (rest := []) (o := some (2, 16)) rfl (w_fitR hR rfl) (c_kad (v4) hR (show 1 ≤ d by omega) ⟨by omega, by omega⟩ (show 0 ≤ (I 1035) ∧ (I 1035) ≤ 10000 by (repeat' apply And.intro) <;> first | assumption | omega) (show 0 ≤ (I 2503) by omega)) (fun r10 M11 q12 => ?_)
  rcases q12 with ⟨I12a, A12a, B12a, C12a, e13, hR12a, f14, f15, f16⟩
  rw [e13]
  replace hR12a : w_Rep w_TC fr X u l I12a A12a B12a C12a M11 := hR12a
  replace f14 : c_bz I A I12a A12a 0 0 (I 2503) := f14
  replace f15 : (I12a 2503) = (I 2503) ∧ (0 ≤ (I12a 1035) ∧ (I12a 1035) ≤ 10000) ∧ (I12a 200) = (I 200) ∧ (I12a 202) = (I 202) := f15
  obtain ⟨n17, ⟨n18, n19⟩, n20, n21⟩ := id f15
  clear f15
  replace f16 : (I12a 2502) = (I 2502) := f16
  have bx22 : c_bz I A I12a A12a 0 0 (I 2503) := c_bz_trans (show c_bz I A I A 0 0 (I 2503) from c_bz_refl) f14 (Int.le_refl _) (Int.le_refl _) (show 0 ≤ 0 ∨ 0 ≤ 0 by omega) (show 0 ≤ 0 ∨ 0 ≤ 0 by omega) (Int.le_refl _) (show (I 2503) ≤ (I 2503) by omega)
  show w_W _ _ _ (15, [(0, .ref 39), (1, .int (Int32.ofInt (n)))], [], M11) _
  refine w_adv (n := 1) (F' := (16, [(0, .ref 39), (1, .int (Int32.ofInt (n)))], [.ref 39], M11)) rfl ?_
  refine w_gf (v := .ref 16) hR12a rfl rfl rfl rfl ?_
  refine w_adv (n := 1) (F' := (20, [(0, .ref 39), (1, .int (Int32.ofInt (n)))], [.ref 39, .ref 16], M11)) rfl ?_
  refine w_gf (v := .ref 26) hR12a rfl rfl rfl rfl ?_
  refine w_adv (n := 1) (F' := (24, [(0, .ref 39), (1, .int (Int32.ofInt (n)))], [.int (Int32.ofInt (n)), .ref 26, .ref 16], M11)) rfl ?_
  refine w_call (cm := 152) (as := [(0, .ref 26), (1, .int (Int32.ofInt (n)))]) (rest := [.ref 16]) (o := some (8, 26)) rfl (w_fitR hR12a rfl) (c_Tb (n) hR12a (show 1 ≤ d by omega) ⟨by omega, by omega⟩) (fun r23 M24 q25 => ?_)
  rcases q25 with ⟨v26, e27, ⟨r28, r29⟩, e30, f31⟩
  rw [e27, e30]
  replace f31 : c_rd (A12a 29) n v26 := f31
  show w_W _ _ _ (27, [(0, .ref 39), (1, .int (Int32.ofInt (n)))], [.int (Int32.ofInt (v26)), .ref 16], M11) _
  refine w_call (cm := 164) (as := [(0, .ref 16), (1, .int (Int32.ofInt (v26)))]) (rest := []) (o := some (2, 16)) rfl (w_fitR hR12a rfl) (c_kad (v26) hR12a (show 1 ≤ d by omega) ⟨by omega, by omega⟩ (show 0 ≤ (I12a 1035) ∧ (I12a 1035) ≤ 10000 by (repeat' apply And.intro) <;> first | assumption | omega) (show 0 ≤ (I12a 2503) by omega)) (fun r32 M33 q34 => ?_)
  rcases q34 with ⟨I34a, A34a, B34a, C34a, e35, hR34a, f36, f37, f38⟩
  rw [e35]
  replace hR34a : w_Rep w_TC fr X u l I34a A34a B34a C34a M33 := hR34a
  replace f36 : c_bz I12a A12a I34a A34a 0 0 (I12a 2503) := f36
  replace f37 : (I34a 2503) = (I12a 2503) ∧ (0 ≤ (I34a 1035) ∧ (I34a 1035) ≤ 10000) ∧ (I34a 200) = (I12a 200) ∧ (I34a 202) = (I12a 202) := f37
  obtain ⟨n39, ⟨n40, n41⟩, n42, n43⟩ := id f37
  clear f37
  replace f38 : (I34a 2502) = (I12a 2502) := f38
  have bx44 : c_bz I A I34a A34a 0 0 (I 2503) := c_bz_trans (show c_bz I A I12a A12a 0 0 (I 2503) from bx22) f36 (Int.le_refl _) (Int.le_refl _) (show 0 ≤ 0 ∨ 0 ≤ 0 by omega) (show 0 ≤ 0 ∨ 0 ≤ 0 by omega) (Int.le_refl _) (show (I 2503) ≤ (I12a 2503) by omega)
  show w_W _ _ _ (30, [(0, .ref 39), (1, .int (Int32.ofInt (n)))], [], M33) _
  refine w_adv (n := 1) (F' := (31, [(0, .ref 39), (1, .int (Int32.ofInt (n)))], [.ref 39], M33)) rfl ?_
  refine w_gf (v := .ref 26) hR34a rfl rfl rfl rfl ?_
  refine w_adv (n := 1) (F' := (35, [(0, .ref 39), (1, .int (Int32.ofInt (n)))], [.int (Int32.ofInt (n)), .ref 26], M33)) rfl ?_
  refine w_call (cm := 174) (as := [(0, .ref 26), (1, .int (Int32.ofInt (n)))]) (rest := []) (o := some (8, 26)) rfl (w_fitR hR34a rfl) (c_Tc (n) hR34a (show 1 ≤ d by omega) ⟨by omega, by omega⟩) (fun r45 M46 q47 => ?_)
  rcases q47 with ⟨v48, e49, ⟨r50, r51⟩, e52, f53⟩
  rw [e49, e52]
  replace f53 : c_rd (A34a 30) n v48 := f53
  show w_W _ _ _ (38, [(0, .ref 39), (1, .int (Int32.ofInt (n)))], [.int (Int32.ofInt (v48))], M33) _
  refine w_adv (n := 3) (F' := (41, [(3, .int (Int32.ofInt (0))), (2, .int (Int32.ofInt (v48))), (0, .ref 39), (1, .int (Int32.ofInt (n)))], [], M33)) rfl ?_
  have lp41 : ∀ fu41 : Nat, ∀ (y41_2 : Int) (y41_3 : Int) (I_41 : Nat → Int) (A_41 : Nat → Int → Int) (B_41 C_41 : Nat → Nat) (M_41 : w_M) (hR_41 : w_Rep w_TC fr X u l I_41 A_41 B_41 C_41 M_41), w_in y41_2 → w_in y41_3 → c_bz I A I_41 A_41 0 0 (I 2503) → (I_41 2503) = (I 2503) ∧ (0 ≤ (I_41 1035) ∧ (I_41 1035) ≤ 10000) ∧ (I_41 200) = (I 200) ∧ (I_41 202) = (I 202) → 0 ≤ y41_3 ∧ y41_3 ≤ 1500 → 1500 - y41_3 < (fu41 : Int) → w_W (z_P L xs) (d + 1) 188 (41, [(0, .ref 39), (1, .int (Int32.ofInt (n))), (2, .int (Int32.ofInt (y41_2))), (3, .int (Int32.ofInt (y41_3)))], [], M_41) (c_addPattern_Q fr X u l I A B C M n) := by
    intro fu41
    induction fu41 with
    | zero =>
      intro y41_2 y41_3 I_41 A_41 B_41 C_41 M_41 hR_41 ⟨ra_y41_2, rb_y41_2⟩ ⟨ra_y41_3, rb_y41_3⟩ hi41_0 hi41_1 hi41_2 hn41
      exfalso
      omega
    | succ fu41 ih41 =>
      intro y41_2 y41_3 I_41 A_41 B_41 C_41 M_41 hR_41 ⟨ra_y41_2, rb_y41_2⟩ ⟨ra_y41_3, rb_y41_3⟩ hi41_0 hi41_1 hi41_2 hn41
      refine w_adv (n := 2) (F' := (45, [(0, .ref 39), (1, .int (Int32.ofInt (n))), (2, .int (Int32.ofInt (y41_2))), (3, .int (Int32.ofInt (y41_3)))], [.int (Int32.ofInt (1500)), .int (Int32.ofInt (y41_3))], M_41)) rfl ?_
      refine w_br2 (a := y41_3) (b := 1500) rfl rfl ⟨by omega, by omega⟩ ⟨by omega, by omega⟩ (fun h54 => ?_) (fun h54 => ?_)
      · have h54 : y41_3 ≥ 1500 := h54
        show w_W _ _ _ (98, [(0, .ref 39), (1, .int (Int32.ofInt (n))), (2, .int (Int32.ofInt (y41_2))), (3, .int (Int32.ofInt (y41_3)))], [], M_41) _
        refine w_adv (n := 1) (F' := (99, [(0, .ref 39), (1, .int (Int32.ofInt (n))), (2, .int (Int32.ofInt (y41_2))), (3, .int (Int32.ofInt (y41_3)))], [.ref 39], M_41)) rfl ?_
        refine w_gf (v := .ref 16) hR_41 rfl rfl rfl rfl ?_
        refine w_adv (n := 1) (F' := (103, [(0, .ref 39), (1, .int (Int32.ofInt (n))), (2, .int (Int32.ofInt (y41_2))), (3, .int (Int32.ofInt (y41_3)))], [.int (Int32.ofInt (2)), .ref 16], M_41)) rfl ?_
        refine w_call (cm := 165) (as := [(0, .ref 16), (1, .int (Int32.ofInt (2)))]) (rest := []) (o := some (2, 16)) rfl (w_fitR hR_41 rfl) (c_ksp (2) hR_41 (show 4 ≤ d by omega) ⟨by omega, by omega⟩ (show 0 ≤ (I_41 1035) ∧ (I_41 1035) ≤ 10000 by (repeat' apply And.intro) <;> first | assumption | omega) (show c_ks A_41 by exact (show c_bz I A I_41 A_41 0 0 (I 2503) from hi41_0).2.2.2.2 hKS) (show 36 ≤ (I_41 200) ∧ (I_41 200) ≤ 419 ∧ 0 ≤ (I_41 202) ∧ (I_41 202) ≤ 24 by (repeat' apply And.intro) <;> first | assumption | omega) (show ∀ i, (A_41 5) i ≤ 24 by rw [show (A_41 5) = (A 5) from (show c_bz I A I_41 A_41 0 0 (I 2503) from hi41_0).2.1 5 rfl]; exact hLN) (show 0 ≤ (I_41 2503) by omega) (show 0 ≤ 2 ∧ 2 ≤ 2 by first | assumption | omega)) (fun r55 M56 q57 => ?_)
        rcases q57 with ⟨I57a, A57a, B57a, C57a, e58, hR57a, f59, f60, f61⟩
        rw [e58]
        replace hR57a : w_Rep w_TC fr X u l I57a A57a B57a C57a M56 := hR57a
        replace f59 : c_bz I_41 A_41 I57a A57a 0 0 (I_41 2503) := f59
        replace f60 : (I57a 2503) = (I_41 2503) ∧ (0 ≤ (I57a 1035) ∧ (I57a 1035) ≤ 10000) ∧ (I57a 200) = (I_41 200) ∧ (I57a 202) = (I_41 202) := f60
        obtain ⟨n62, ⟨n63, n64⟩, n65, n66⟩ := id f60
        clear f60
        replace f61 : (I57a 2502) = (I_41 2502) := f61
        have bx67 : c_bz I A I57a A57a 0 0 (I 2503) := c_bz_trans (show c_bz I A I_41 A_41 0 0 (I 2503) from hi41_0) f59 (Int.le_refl _) (Int.le_refl _) (show 0 ≤ 0 ∨ 0 ≤ 0 by omega) (show 0 ≤ 0 ∨ 0 ≤ 0 by omega) (Int.le_refl _) (show (I 2503) ≤ (I_41 2503) by omega)
        show w_W _ _ _ (106, [(0, .ref 39), (1, .int (Int32.ofInt (n))), (2, .int (Int32.ofInt (y41_2))), (3, .int (Int32.ofInt (y41_3)))], [], M56) _
        refine w_fin (r := .inl none) (M' := M56) rfl ?_
        exact ⟨I57a, A57a, B57a, C57a, rfl, hR57a, (show c_bz I A I57a A57a 0 0 (I 2503) by exact bx67), (show (I57a 2503) = (I 2503) ∧ (0 ≤ (I57a 1035) ∧ (I57a 1035) ≤ 10000) ∧ (I57a 200) = (I 200) ∧ (I57a 202) = (I 202) by (repeat' apply And.intro) <;> first | assumption | omega)⟩
      · have h54 : ¬ (y41_3 ≥ 1500) := h54
        show w_W _ _ _ (48, [(0, .ref 39), (1, .int (Int32.ofInt (n))), (2, .int (Int32.ofInt (y41_2))), (3, .int (Int32.ofInt (y41_3)))], [], M_41) _
        refine w_adv (n := 2) (F' := (50, [(0, .ref 39), (1, .int (Int32.ofInt (n))), (2, .int (Int32.ofInt (y41_2))), (3, .int (Int32.ofInt (y41_3)))], [.int (Int32.ofInt ((-1))), .int (Int32.ofInt (y41_2))], M_41)) rfl ?_
        refine w_br2 (a := y41_2) (b := (-1)) rfl rfl ⟨by omega, by omega⟩ ⟨by omega, by omega⟩ (fun h68 => ?_) (fun h68 => ?_)
        · have h68 : y41_2 = (-1) := h68
          show w_W _ _ _ (98, [(0, .ref 39), (1, .int (Int32.ofInt (n))), (2, .int (Int32.ofInt (y41_2))), (3, .int (Int32.ofInt (y41_3)))], [], M_41) _
          refine w_adv (n := 1) (F' := (99, [(0, .ref 39), (1, .int (Int32.ofInt (n))), (2, .int (Int32.ofInt (y41_2))), (3, .int (Int32.ofInt (y41_3)))], [.ref 39], M_41)) rfl ?_
          refine w_gf (v := .ref 16) hR_41 rfl rfl rfl rfl ?_
          refine w_adv (n := 1) (F' := (103, [(0, .ref 39), (1, .int (Int32.ofInt (n))), (2, .int (Int32.ofInt (y41_2))), (3, .int (Int32.ofInt (y41_3)))], [.int (Int32.ofInt (2)), .ref 16], M_41)) rfl ?_
          refine w_call (cm := 165) (as := [(0, .ref 16), (1, .int (Int32.ofInt (2)))]) (rest := []) (o := some (2, 16)) rfl (w_fitR hR_41 rfl) (c_ksp (2) hR_41 (show 4 ≤ d by omega) ⟨by omega, by omega⟩ (show 0 ≤ (I_41 1035) ∧ (I_41 1035) ≤ 10000 by (repeat' apply And.intro) <;> first | assumption | omega) (show c_ks A_41 by exact (show c_bz I A I_41 A_41 0 0 (I 2503) from hi41_0).2.2.2.2 hKS) (show 36 ≤ (I_41 200) ∧ (I_41 200) ≤ 419 ∧ 0 ≤ (I_41 202) ∧ (I_41 202) ≤ 24 by (repeat' apply And.intro) <;> first | assumption | omega) (show ∀ i, (A_41 5) i ≤ 24 by rw [show (A_41 5) = (A 5) from (show c_bz I A I_41 A_41 0 0 (I 2503) from hi41_0).2.1 5 rfl]; exact hLN) (show 0 ≤ (I_41 2503) by omega) (show 0 ≤ 2 ∧ 2 ≤ 2 by first | assumption | omega)) (fun r69 M70 q71 => ?_)
          rcases q71 with ⟨I71a, A71a, B71a, C71a, e72, hR71a, f73, f74, f75⟩
          rw [e72]
          replace hR71a : w_Rep w_TC fr X u l I71a A71a B71a C71a M70 := hR71a
          replace f73 : c_bz I_41 A_41 I71a A71a 0 0 (I_41 2503) := f73
          replace f74 : (I71a 2503) = (I_41 2503) ∧ (0 ≤ (I71a 1035) ∧ (I71a 1035) ≤ 10000) ∧ (I71a 200) = (I_41 200) ∧ (I71a 202) = (I_41 202) := f74
          obtain ⟨n76, ⟨n77, n78⟩, n79, n80⟩ := id f74
          clear f74
          replace f75 : (I71a 2502) = (I_41 2502) := f75
          have bx81 : c_bz I A I71a A71a 0 0 (I 2503) := c_bz_trans (show c_bz I A I_41 A_41 0 0 (I 2503) from hi41_0) f73 (Int.le_refl _) (Int.le_refl _) (show 0 ≤ 0 ∨ 0 ≤ 0 by omega) (show 0 ≤ 0 ∨ 0 ≤ 0 by omega) (Int.le_refl _) (show (I 2503) ≤ (I_41 2503) by omega)
          show w_W _ _ _ (106, [(0, .ref 39), (1, .int (Int32.ofInt (n))), (2, .int (Int32.ofInt (y41_2))), (3, .int (Int32.ofInt (y41_3)))], [], M70) _
          refine w_fin (r := .inl none) (M' := M70) rfl ?_
          exact ⟨I71a, A71a, B71a, C71a, rfl, hR71a, (show c_bz I A I71a A71a 0 0 (I 2503) by exact bx81), (show (I71a 2503) = (I 2503) ∧ (0 ≤ (I71a 1035) ∧ (I71a 1035) ≤ 10000) ∧ (I71a 200) = (I 200) ∧ (I71a 202) = (I 202) by (repeat' apply And.intro) <;> first | assumption | omega)⟩
        · have h68 : ¬ (y41_2 = (-1)) := h68
          show w_W _ _ _ (53, [(0, .ref 39), (1, .int (Int32.ofInt (n))), (2, .int (Int32.ofInt (y41_2))), (3, .int (Int32.ofInt (y41_3)))], [], M_41) _
          refine w_adv (n := 1) (F' := (54, [(0, .ref 39), (1, .int (Int32.ofInt (n))), (2, .int (Int32.ofInt (y41_2))), (3, .int (Int32.ofInt (y41_3)))], [.ref 39], M_41)) rfl ?_
          refine w_gf (v := .ref 16) hR_41 rfl rfl rfl rfl ?_
          refine w_adv (n := 1) (F' := (58, [(0, .ref 39), (1, .int (Int32.ofInt (n))), (2, .int (Int32.ofInt (y41_2))), (3, .int (Int32.ofInt (y41_3)))], [.ref 39, .ref 16], M_41)) rfl ?_
          refine w_gf (v := .ref 26) hR_41 rfl rfl rfl rfl ?_
          refine w_adv (n := 1) (F' := (62, [(0, .ref 39), (1, .int (Int32.ofInt (n))), (2, .int (Int32.ofInt (y41_2))), (3, .int (Int32.ofInt (y41_3)))], [.int (Int32.ofInt (y41_2)), .ref 26, .ref 16], M_41)) rfl ?_
          refine w_call (cm := 145) (as := [(0, .ref 26), (1, .int (Int32.ofInt (y41_2)))]) (rest := [.ref 16]) (o := some (8, 26)) rfl (w_fitR hR_41 rfl) (c_Ta (y41_2) hR_41 (show 1 ≤ d by omega) ⟨by omega, by omega⟩) (fun r82 M83 q84 => ?_)
          rcases q84 with ⟨v85, e86, ⟨r87, r88⟩, e89, f90⟩
          rw [e86, e89]
          replace f90 : c_rd (A_41 28) y41_2 v85 := f90
          show w_W _ _ _ (65, [(0, .ref 39), (1, .int (Int32.ofInt (n))), (2, .int (Int32.ofInt (y41_2))), (3, .int (Int32.ofInt (y41_3)))], [.int (Int32.ofInt (v85)), .ref 16], M_41) _
          refine w_adv (n := 1) (F' := (66, [(0, .ref 39), (1, .int (Int32.ofInt (n))), (2, .int (Int32.ofInt (y41_2))), (3, .int (Int32.ofInt (y41_3)))], [.ref 39, .int (Int32.ofInt (v85)), .ref 16], M_41)) rfl ?_
          refine w_gf (v := .ref 33) hR_41 rfl rfl rfl rfl ?_
          refine w_adv (n := 1) (F' := (70, [(0, .ref 39), (1, .int (Int32.ofInt (n))), (2, .int (Int32.ofInt (y41_2))), (3, .int (Int32.ofInt (y41_3)))], [.ref 39, .ref 33, .int (Int32.ofInt (v85)), .ref 16], M_41)) rfl ?_
          refine w_gf (v := .ref 26) hR_41 rfl rfl rfl rfl ?_
          refine w_adv (n := 1) (F' := (74, [(0, .ref 39), (1, .int (Int32.ofInt (n))), (2, .int (Int32.ofInt (y41_2))), (3, .int (Int32.ofInt (y41_3)))], [.int (Int32.ofInt (y41_2)), .ref 26, .ref 33, .int (Int32.ofInt (v85)), .ref 16], M_41)) rfl ?_
          refine w_call (cm := 152) (as := [(0, .ref 26), (1, .int (Int32.ofInt (y41_2)))]) (rest := [.ref 33, .int (Int32.ofInt (v85)), .ref 16]) (o := some (8, 26)) rfl (w_fitR hR_41 rfl) (c_Tb (y41_2) hR_41 (show 1 ≤ d by omega) ⟨by omega, by omega⟩) (fun r91 M92 q93 => ?_)
          rcases q93 with ⟨v94, e95, ⟨r96, r97⟩, e98, f99⟩
          rw [e95, e98]
          replace f99 : c_rd (A_41 29) y41_2 v94 := f99
          show w_W _ _ _ (77, [(0, .ref 39), (1, .int (Int32.ofInt (n))), (2, .int (Int32.ofInt (y41_2))), (3, .int (Int32.ofInt (y41_3)))], [.int (Int32.ofInt (v94)), .ref 33, .int (Int32.ofInt (v85)), .ref 16], M_41) _
          refine w_call (cm := 155) (as := [(0, .ref 33), (1, .int (Int32.ofInt (v94)))]) (rest := [.int (Int32.ofInt (v85)), .ref 16]) (o := some (5, 33)) rfl (w_fitR hR_41 rfl) (c_Scope_variable (v94) hR_41 (show 2 ≤ d by omega) ⟨by omega, by omega⟩) (fun r100 M101 q102 => ?_)
          rcases q102 with ⟨v103, e104, ⟨r105, r106⟩, e107⟩
          rw [e104, e107]
          show w_W _ _ _ (80, [(0, .ref 39), (1, .int (Int32.ofInt (n))), (2, .int (Int32.ofInt (y41_2))), (3, .int (Int32.ofInt (y41_3)))], [.int (Int32.ofInt (v103)), .int (Int32.ofInt (v85)), .ref 16], M_41) _
          refine w_call (cm := 163) (as := [(0, .ref 16), (1, .int (Int32.ofInt (v85))), (2, .int (Int32.ofInt (v103)))]) (rest := []) (o := some (2, 16)) rfl (w_fitR hR_41 rfl) (c_kap (v85) (v103) hR_41 (show 2 ≤ d by omega) ⟨by omega, by omega⟩ ⟨by omega, by omega⟩ (show 0 ≤ (I_41 1035) ∧ (I_41 1035) ≤ 10000 by (repeat' apply And.intro) <;> first | assumption | omega) (show 0 ≤ (I_41 2503) by omega)) (fun r108 M109 q110 => ?_)
          rcases q110 with ⟨I110a, A110a, B110a, C110a, e111, hR110a, f112, f113, f114⟩
          rw [e111]
          replace hR110a : w_Rep w_TC fr X u l I110a A110a B110a C110a M109 := hR110a
          replace f112 : c_bz I_41 A_41 I110a A110a 0 0 (I_41 2503) := f112
          replace f113 : (I110a 2503) = (I_41 2503) ∧ (0 ≤ (I110a 1035) ∧ (I110a 1035) ≤ 10000) ∧ (I110a 200) = (I_41 200) ∧ (I110a 202) = (I_41 202) := f113
          obtain ⟨n115, ⟨n116, n117⟩, n118, n119⟩ := id f113
          clear f113
          replace f114 : (I110a 2502) = (I_41 2502) := f114
          have bx120 : c_bz I A I110a A110a 0 0 (I 2503) := c_bz_trans (show c_bz I A I_41 A_41 0 0 (I 2503) from hi41_0) f112 (Int.le_refl _) (Int.le_refl _) (show 0 ≤ 0 ∨ 0 ≤ 0 by omega) (show 0 ≤ 0 ∨ 0 ≤ 0 by omega) (Int.le_refl _) (show (I 2503) ≤ (I_41 2503) by omega)
          show w_W _ _ _ (83, [(0, .ref 39), (1, .int (Int32.ofInt (n))), (2, .int (Int32.ofInt (y41_2))), (3, .int (Int32.ofInt (y41_3)))], [], M109) _
          refine w_adv (n := 1) (F' := (84, [(0, .ref 39), (1, .int (Int32.ofInt (n))), (2, .int (Int32.ofInt (y41_2))), (3, .int (Int32.ofInt (y41_3)))], [.ref 39], M109)) rfl ?_
          refine w_gf (v := .ref 26) hR110a rfl rfl rfl rfl ?_
          refine w_adv (n := 1) (F' := (88, [(0, .ref 39), (1, .int (Int32.ofInt (n))), (2, .int (Int32.ofInt (y41_2))), (3, .int (Int32.ofInt (y41_3)))], [.int (Int32.ofInt (y41_2)), .ref 26], M109)) rfl ?_
          refine w_call (cm := 161) (as := [(0, .ref 26), (1, .int (Int32.ofInt (y41_2)))]) (rest := []) (o := some (8, 26)) rfl (w_fitR hR110a rfl) (c_Tnext (y41_2) hR110a (show 1 ≤ d by omega) ⟨by omega, by omega⟩) (fun r121 M122 q123 => ?_)
          rcases q123 with ⟨v124, e125, ⟨r126, r127⟩, e128, f129⟩
          rw [e125, e128]
          replace f129 : c_rd (A110a 31) y41_2 v124 := f129
          show w_W _ _ _ (91, [(0, .ref 39), (1, .int (Int32.ofInt (n))), (2, .int (Int32.ofInt (y41_2))), (3, .int (Int32.ofInt (y41_3)))], [.int (Int32.ofInt (v124))], M109) _
          refine w_adv (n := 1) (F' := (92, [(2, .int (Int32.ofInt (v124))), (0, .ref 39), (1, .int (Int32.ofInt (n))), (3, .int (Int32.ofInt (y41_3)))], [], M109)) rfl ?_
          refine w_inc (nL := 4) (a := y41_3) rfl rfl rfl (by decide) ?_
          refine w_adv (n := 1) (F' := (41, [(3, .int (Int32.ofInt (y41_3 + 1))), (2, .int (Int32.ofInt (v124))), (0, .ref 39), (1, .int (Int32.ofInt (n)))], [], M109)) rfl ?_
          refine w_ls (ls := [(0, .ref 39), (1, .int (Int32.ofInt (n))), (2, .int (Int32.ofInt (v124))), (3, .int (Int32.ofInt (y41_3 + 1)))]) (show List.Nodup [0, 1, 2, 3] by decide) (show List.Nodup [3, 2, 0, 1] by decide) (List.forall_mem_cons.mpr ⟨(List.Mem.tail _ (List.Mem.tail _ (List.Mem.head _))), (List.forall_mem_cons.mpr ⟨(List.Mem.tail _ (List.Mem.tail _ (List.Mem.tail _ (List.Mem.head _)))), (List.forall_mem_cons.mpr ⟨(List.Mem.tail _ (List.Mem.head _)), (List.forall_mem_cons.mpr ⟨(List.Mem.head _), (fun _ h => by cases h)⟩)⟩)⟩)⟩) ?_
          exact ih41  (v124) (y41_3 + 1) I110a A110a B110a C110a M109 hR110a ⟨by omega, by omega⟩ ⟨by omega, by omega⟩ (show c_bz I A I110a A110a 0 0 (I 2503) by exact bx120) (show (I110a 2503) = (I 2503) ∧ (0 ≤ (I110a 1035) ∧ (I110a 1035) ≤ 10000) ∧ (I110a 200) = (I 200) ∧ (I110a 202) = (I 202) by (repeat' apply And.intro) <;> first | assumption | omega) (show 0 ≤ (y41_3 + 1) ∧ (y41_3 + 1) ≤ 1500 by omega) (show 1500 - (y41_3 + 1) < (fu41 : Int) by omega)
  refine w_ls (ls := [(0, .ref 39), (1, .int (Int32.ofInt (n))), (2, .int (Int32.ofInt (v48))), (3, .int (Int32.ofInt (0)))]) (show List.Nodup [0, 1, 2, 3] by decide) (show List.Nodup [3, 2, 0, 1] by decide) (List.forall_mem_cons.mpr ⟨(List.Mem.tail _ (List.Mem.tail _ (List.Mem.head _))), (List.forall_mem_cons.mpr ⟨(List.Mem.tail _ (List.Mem.tail _ (List.Mem.tail _ (List.Mem.head _)))), (List.forall_mem_cons.mpr ⟨(List.Mem.tail _ (List.Mem.head _)), (List.forall_mem_cons.mpr ⟨(List.Mem.head _), (fun _ h => by cases h)⟩)⟩)⟩)⟩) ?_
  exact lp41 ((1500 - 0 : Int).toNat + 1)  (v48) (0) I34a A34a B34a C34a M33 hR34a ⟨by omega, by omega⟩ ⟨by omega, by omega⟩ (show c_bz I A I34a A34a 0 0 (I 2503) by exact bx44) (show (I34a 2503) = (I 2503) ∧ (0 ≤ (I34a 1035) ∧ (I34a 1035) ≤ 10000) ∧ (I34a 200) = (I 200) ∧ (I34a 202) = (I 202) by (repeat' apply And.intro) <;> first | assumption | omega) (show 0 ≤ (0 : Int) ∧ (0 : Int) ≤ 1500 by omega) (show 1500 - 0 < (((1500 - 0 : Int).toNat + 1 : Nat) : Int) by omega)
def c_noMatch_Q (fr : Nat → Bool) (X : Nat → Option (q_C (Nat → Int32))) (u l : Nat) (I : Nat → Int) (A : Nat → Int → Int) (B C : Nat → Nat) (M : w_M) : w_X → w_M → Prop := fun r M' => (∃ v : Int, ∃ (I' : Nat → Int) (A' : Nat → Int → Int) (B' C' : Nat → Nat), (r = .inl (some v)) ∧ (w_in v) ∧ (w_Rep w_TC fr X u l I' A' B' C' M') ∧ (c_bz I A I' A' 0 0 (I 2503)) ∧ ((I' 2503) = (I 2503) ∧ (0 ≤ (I' 1035) ∧ (I' 1035) ≤ 10000) ∧ (I' 200) = (I 200) ∧ (I' 202) = (I 202)))
set_option maxHeartbeats 100000000 in
set_option maxRecDepth 100000 in
theorem c_noMatch {L : Nat} {xs : Nat → Int32} {d : Nat} {fr : Nat → Bool} {X : Nat → Option (q_C (Nat → Int32))} {u l : Nat} {I : Nat → Int} {A : Nat → Int → Int} {B C : Nat → Nat} {M : w_M} (hR : w_Rep w_TC fr X u l I A B C M) (hd : 4 ≤ d) (hKI : 0 ≤ (I 1035) ∧ (I 1035) ≤ 10000) (hW0 : 0 ≤ (I 2503)) : w_W (z_P L xs) d 187 (0, [(0, .ref 39)], [], M) (c_noMatch_Q fr X u l I A B C M) := by
  obtain ⟨d, rfl⟩ : ∃ d0, d = d0 + 1 := ⟨d - 1, by omega⟩
  refine w_adv (n := 1) (F' := (1, [(0, .ref 39)], [.ref 39], M)) rfl ?_
  refine w_gf (v := .ref 16) hR rfl rfl rfl rfl ?_
  refine w_adv (n := 1) (F' := (5, [(0, .ref 39)], [.int (Int32.ofInt ((-1))), .ref 16], M)) rfl ?_
  refine w_call (cm := 31) (as := [(0, .ref 16), (1, .int (Int32.ofInt ((-1))))]) (rest := []) (o := some (2, 16)) rfl (w_fitR hR rfl) (c_kmv ((-1)) hR (show 2 ≤ d by omega) ⟨by omega, by omega⟩ (show 0 ≤ (I 1035) ∧ (I 1035) ≤ 10000 by (repeat' apply And.intro) <;> first | assumption | omega) (show 0 ≤ (I 2503) by omega)) (fun r1 M2 q3 => ?_)
  rcases q3 with ⟨v4, I3a, A3a, B3a, C3a, e5, ⟨r6, r7⟩, hR3a, f8, f9, f10⟩
  rw [e5]
  replace hR3a : w_Rep w_TC fr X u l I3a A3a B3a C3a M2 := hR3a
  replace f8 : c_bz I A I3a A3a 0 0 (I 2503) := f8
  replace f9 : (I3a 2503) = (I 2503) ∧ (0 ≤ (I3a 1035) ∧ (I3a 1035) ≤ 10000) ∧ (I3a 200) = (I 200) ∧ (I3a 202) = (I 202) := f9
  obtain ⟨n11, ⟨n12, n13⟩, n14, n15⟩ := id f9
  clear f9
  replace f10 : (I3a 2502) = (I 2502) := f10
  have bx16 : c_bz I A I3a A3a 0 0 (I 2503) := c_bz_trans (show c_bz I A I A 0 0 (I 2503) from c_bz_refl) f8 (Int.le_refl _) (Int.le_refl _) (show 0 ≤ 0 ∨ 0 ≤ 0 by omega) (show 0 ≤ 0 ∨ 0 ≤ 0 by omega) (Int.le_refl _) (show (I 2503) ≤ (I 2503) by omega)
  show w_W _ _ _ (8, [(0, .ref 39)], [.int (Int32.ofInt (v4))], M2) _
  refine w_adv (n := 2) (F' := (10, [(1, .int (Int32.ofInt (v4))), (0, .ref 39)], [.ref 39], M2)) rfl ?_
  refine w_gf (v := .ref 16) hR3a rfl rfl rfl rfl ?_
  refine w_adv (n := 4) (F' := (17, [(1, .int (Int32.ofInt (v4))), (0, .ref 39)], [.int (Int32.ofInt ((-1))), .int (Int32.ofInt (4)), .int (Int32.ofInt (v4)), .int (Int32.ofInt (5)), .ref 16], M2)) rfl ?_
  refine w_call (cm := 149) (as := [(0, .ref 16), (1, .int (Int32.ofInt (5))), (2, .int (Int32.ofInt (v4))), (3, .int (Int32.ofInt (4))), (4, .int (Int32.ofInt ((-1))))]) (rest := []) (o := some (2, 16)) rfl (w_fitR hR3a rfl) (c_kmk (5) (v4) (4) ((-1)) hR3a (show 2 ≤ d by omega) ⟨by omega, by omega⟩ ⟨by omega, by omega⟩ ⟨by omega, by omega⟩ ⟨by omega, by omega⟩ (show 0 ≤ (I3a 1035) ∧ (I3a 1035) ≤ 10000 by (repeat' apply And.intro) <;> first | assumption | omega) (show 0 ≤ (I3a 2503) by omega)) (fun r17 M18 q19 => ?_)
  rcases q19 with ⟨v20, I19a, A19a, B19a, C19a, e21, ⟨r22, r23⟩, hR19a, f24, f25, f26⟩
  rw [e21]
  replace hR19a : w_Rep w_TC fr X u l I19a A19a B19a C19a M18 := hR19a
  replace f24 : c_bz I3a A3a I19a A19a 0 0 (I3a 2503) := f24
  replace f25 : (I19a 2503) = (I3a 2503) ∧ (0 ≤ (I19a 1035) ∧ (I19a 1035) ≤ 10000) ∧ (I19a 200) = (I3a 200) ∧ (I19a 202) = (I3a 202) := f25
  obtain ⟨n27, ⟨n28, n29⟩, n30, n31⟩ := id f25
  clear f25
  replace f26 : (I19a 2502) = (I3a 2502) := f26
  have bx32 : c_bz I A I19a A19a 0 0 (I 2503) := c_bz_trans (show c_bz I A I3a A3a 0 0 (I 2503) from bx16) f24 (Int.le_refl _) (Int.le_refl _) (show 0 ≤ 0 ∨ 0 ≤ 0 by omega) (show 0 ≤ 0 ∨ 0 ≤ 0 by omega) (Int.le_refl _) (show (I 2503) ≤ (I3a 2503) by omega)
  show w_W _ _ _ (20, [(1, .int (Int32.ofInt (v4))), (0, .ref 39)], [.int (Int32.ofInt (v20))], M18) _
  refine w_adv (n := 2) (F' := (22, [(2, .int (Int32.ofInt (v20))), (1, .int (Int32.ofInt (v4))), (0, .ref 39)], [.ref 39], M18)) rfl ?_
  refine w_gf (v := .ref 16) hR19a rfl rfl rfl rfl ?_
  refine w_adv (n := 2) (F' := (27, [(2, .int (Int32.ofInt (v20))), (1, .int (Int32.ofInt (v4))), (0, .ref 39)], [.ref 39, .int (Int32.ofInt (v20)), .ref 16], M18)) rfl ?_
  refine w_gf (v := .ref 16) hR19a rfl rfl rfl rfl ?_
  refine w_adv (n := 4) (F' := (35, [(2, .int (Int32.ofInt (v20))), (1, .int (Int32.ofInt (v4))), (0, .ref 39)], [.int (Int32.ofInt ((-1))), .int (Int32.ofInt ((-1))), .int (Int32.ofInt (v4)), .int (Int32.ofInt (16)), .ref 16, .int (Int32.ofInt (v20)), .ref 16], M18)) rfl ?_
  refine w_call (cm := 149) (as := [(0, .ref 16), (1, .int (Int32.ofInt (16))), (2, .int (Int32.ofInt (v4))), (3, .int (Int32.ofInt ((-1)))), (4, .int (Int32.ofInt ((-1))))]) (rest := [.int (Int32.ofInt (v20)), .ref 16]) (o := some (2, 16)) rfl (w_fitR hR19a rfl) (c_kmk (16) (v4) ((-1)) ((-1)) hR19a (show 2 ≤ d by omega) ⟨by omega, by omega⟩ ⟨by omega, by omega⟩ ⟨by omega, by omega⟩ ⟨by omega, by omega⟩ (show 0 ≤ (I19a 1035) ∧ (I19a 1035) ≤ 10000 by (repeat' apply And.intro) <;> first | assumption | omega) (show 0 ≤ (I19a 2503) by omega)) (fun r33 M34 q35 => ?_)
  rcases q35 with ⟨v36, I35a, A35a, B35a, C35a, e37, ⟨r38, r39⟩, hR35a, f40, f41, f42⟩
  rw [e37]
  replace hR35a : w_Rep w_TC fr X u l I35a A35a B35a C35a M34 := hR35a
  replace f40 : c_bz I19a A19a I35a A35a 0 0 (I19a 2503) := f40
  replace f41 : (I35a 2503) = (I19a 2503) ∧ (0 ≤ (I35a 1035) ∧ (I35a 1035) ≤ 10000) ∧ (I35a 200) = (I19a 200) ∧ (I35a 202) = (I19a 202) := f41
  obtain ⟨n43, ⟨n44, n45⟩, n46, n47⟩ := id f41
  clear f41
  replace f42 : (I35a 2502) = (I19a 2502) := f42
  have bx48 : c_bz I A I35a A35a 0 0 (I 2503) := c_bz_trans (show c_bz I A I19a A19a 0 0 (I 2503) from bx32) f40 (Int.le_refl _) (Int.le_refl _) (show 0 ≤ 0 ∨ 0 ≤ 0 by omega) (show 0 ≤ 0 ∨ 0 ≤ 0 by omega) (Int.le_refl _) (show (I 2503) ≤ (I19a 2503) by omega)
  show w_W _ _ _ (38, [(2, .int (Int32.ofInt (v20))), (1, .int (Int32.ofInt (v4))), (0, .ref 39)], [.int (Int32.ofInt (v36)), .int (Int32.ofInt (v20)), .ref 16], M34) _
  refine w_call (cm := 151) (as := [(0, .ref 16), (1, .int (Int32.ofInt (v20))), (2, .int (Int32.ofInt (v36)))]) (rest := []) (o := some (2, 16)) rfl (w_fitR hR35a rfl) (c_klk (v20) (v36) hR35a (show 2 ≤ d by omega) ⟨by omega, by omega⟩ ⟨by omega, by omega⟩ (show 0 ≤ (I35a 1035) ∧ (I35a 1035) ≤ 10000 by (repeat' apply And.intro) <;> first | assumption | omega) (show 0 ≤ (I35a 2503) by omega)) (fun r49 M50 q51 => ?_)
  rcases q51 with ⟨I51a, A51a, B51a, C51a, e52, hR51a, f53, f54, f55⟩
  rw [e52]
  replace hR51a : w_Rep w_TC fr X u l I51a A51a B51a C51a M50 := hR51a
  replace f53 : c_bz I35a A35a I51a A51a 0 0 (I35a 2503) := f53
  replace f54 : (I51a 2503) = (I35a 2503) ∧ (0 ≤ (I51a 1035) ∧ (I51a 1035) ≤ 10000) ∧ (I51a 200) = (I35a 200) ∧ (I51a 202) = (I35a 202) := f54
  obtain ⟨n56, ⟨n57, n58⟩, n59, n60⟩ := id f54
  clear f54
  replace f55 : (I51a 2502) = (I35a 2502) := f55
  have bx61 : c_bz I A I51a A51a 0 0 (I 2503) := c_bz_trans (show c_bz I A I35a A35a 0 0 (I 2503) from bx48) f53 (Int.le_refl _) (Int.le_refl _) (show 0 ≤ 0 ∨ 0 ≤ 0 by omega) (show 0 ≤ 0 ∨ 0 ≤ 0 by omega) (Int.le_refl _) (show (I 2503) ≤ (I35a 2503) by omega)
  show w_W _ _ _ (41, [(2, .int (Int32.ofInt (v20))), (1, .int (Int32.ofInt (v4))), (0, .ref 39)], [], M50) _
  refine w_adv (n := 1) (F' := (42, [(2, .int (Int32.ofInt (v20))), (1, .int (Int32.ofInt (v4))), (0, .ref 39)], [.ref 39], M50)) rfl ?_
  refine w_gf (v := .ref 16) hR51a rfl rfl rfl rfl ?_
  refine w_adv (n := 4) (F' := (49, [(2, .int (Int32.ofInt (v20))), (1, .int (Int32.ofInt (v4))), (0, .ref 39)], [.int (Int32.ofInt ((-1))), .int (Int32.ofInt (v20)), .int (Int32.ofInt ((-1))), .int (Int32.ofInt (2)), .ref 16], M50)) rfl ?_
  refine w_call (cm := 149) (as := [(0, .ref 16), (1, .int (Int32.ofInt (2))), (2, .int (Int32.ofInt ((-1)))), (3, .int (Int32.ofInt (v20))), (4, .int (Int32.ofInt ((-1))))]) (rest := []) (o := some (2, 16)) rfl (w_fitR hR51a rfl) (c_kmk (2) ((-1)) (v20) ((-1)) hR51a (show 2 ≤ d by omega) ⟨by omega, by omega⟩ ⟨by omega, by omega⟩ ⟨by omega, by omega⟩ ⟨by omega, by omega⟩ (show 0 ≤ (I51a 1035) ∧ (I51a 1035) ≤ 10000 by (repeat' apply And.intro) <;> first | assumption | omega) (show 0 ≤ (I51a 2503) by omega)) (fun r62 M63 q64 => ?_)
  rcases q64 with ⟨v65, I64a, A64a, B64a, C64a, e66, ⟨r67, r68⟩, hR64a, f69, f70, f71⟩
  rw [e66]
  replace hR64a : w_Rep w_TC fr X u l I64a A64a B64a C64a M63 := hR64a
  replace f69 : c_bz I51a A51a I64a A64a 0 0 (I51a 2503) := f69
  replace f70 : (I64a 2503) = (I51a 2503) ∧ (0 ≤ (I64a 1035) ∧ (I64a 1035) ≤ 10000) ∧ (I64a 200) = (I51a 200) ∧ (I64a 202) = (I51a 202) := f70
  obtain ⟨n72, ⟨n73, n74⟩, n75, n76⟩ := id f70
  clear f70
  replace f71 : (I64a 2502) = (I51a 2502) := f71
  have bx77 : c_bz I A I64a A64a 0 0 (I 2503) := c_bz_trans (show c_bz I A I51a A51a 0 0 (I 2503) from bx61) f69 (Int.le_refl _) (Int.le_refl _) (show 0 ≤ 0 ∨ 0 ≤ 0 by omega) (show 0 ≤ 0 ∨ 0 ≤ 0 by omega) (Int.le_refl _) (show (I 2503) ≤ (I51a 2503) by omega)
  show w_W _ _ _ (52, [(2, .int (Int32.ofInt (v20))), (1, .int (Int32.ofInt (v4))), (0, .ref 39)], [.int (Int32.ofInt (v65))], M63) _
  refine w_adv (n := 2) (F' := (54, [(3, .int (Int32.ofInt (v65))), (2, .int (Int32.ofInt (v20))), (1, .int (Int32.ofInt (v4))), (0, .ref 39)], [.ref 39], M63)) rfl ?_
  refine w_gf (v := .ref 16) hR64a rfl rfl rfl rfl ?_
  refine w_adv (n := 1) (F' := (58, [(3, .int (Int32.ofInt (v65))), (2, .int (Int32.ofInt (v20))), (1, .int (Int32.ofInt (v4))), (0, .ref 39)], [.int (Int32.ofInt (v4)), .ref 16], M63)) rfl ?_
  refine w_call (cm := 164) (as := [(0, .ref 16), (1, .int (Int32.ofInt (v4)))]) (rest := []) (o := some (2, 16)) rfl (w_fitR hR64a rfl) (c_kad (v4) hR64a (show 1 ≤ d by omega) ⟨by omega, by omega⟩ (show 0 ≤ (I64a 1035) ∧ (I64a 1035) ≤ 10000 by (repeat' apply And.intro) <;> first | assumption | omega) (show 0 ≤ (I64a 2503) by omega)) (fun r78 M79 q80 => ?_)
  rcases q80 with ⟨I80a, A80a, B80a, C80a, e81, hR80a, f82, f83, f84⟩
  rw [e81]
  replace hR80a : w_Rep w_TC fr X u l I80a A80a B80a C80a M79 := hR80a
  replace f82 : c_bz I64a A64a I80a A80a 0 0 (I64a 2503) := f82
  replace f83 : (I80a 2503) = (I64a 2503) ∧ (0 ≤ (I80a 1035) ∧ (I80a 1035) ≤ 10000) ∧ (I80a 200) = (I64a 200) ∧ (I80a 202) = (I64a 202) := f83
  obtain ⟨n85, ⟨n86, n87⟩, n88, n89⟩ := id f83
  clear f83
  replace f84 : (I80a 2502) = (I64a 2502) := f84
  have bx90 : c_bz I A I80a A80a 0 0 (I 2503) := c_bz_trans (show c_bz I A I64a A64a 0 0 (I 2503) from bx77) f82 (Int.le_refl _) (Int.le_refl _) (show 0 ≤ 0 ∨ 0 ≤ 0 by omega) (show 0 ≤ 0 ∨ 0 ≤ 0 by omega) (Int.le_refl _) (show (I 2503) ≤ (I64a 2503) by omega)
  show w_W _ _ _ (61, [(3, .int (Int32.ofInt (v65))), (2, .int (Int32.ofInt (v20))), (1, .int (Int32.ofInt (v4))), (0, .ref 39)], [], M79) _
  refine w_adv (n := 1) (F' := (62, [(3, .int (Int32.ofInt (v65))), (2, .int (Int32.ofInt (v20))), (1, .int (Int32.ofInt (v4))), (0, .ref 39)], [.int (Int32.ofInt (v65))], M79)) rfl ?_
  refine w_fin (r := .inl (some (v65))) (M' := M79) rfl ?_
  exact ⟨v65, I80a, A80a, B80a, C80a, rfl, ⟨by omega, by omega⟩, hR80a, (show c_bz I A I80a A80a 0 0 (I 2503) by exact bx90), (show (I80a 2503) = (I 2503) ∧ (0 ≤ (I80a 1035) ∧ (I80a 1035) ≤ 10000) ∧ (I80a 200) = (I 200) ∧ (I80a 202) = (I 202) by (repeat' apply And.intro) <;> first | assumption | omega)⟩
def c_operate_Q (fr : Nat → Bool) (X : Nat → Option (q_C (Nat → Int32))) (u l : Nat) (I : Nat → Int) (A : Nat → Int → Int) (B C : Nat → Nat) (M : w_M) (n : Int) : w_X → w_M → Prop := fun r M' => (∃ (I' : Nat → Int) (A' : Nat → Int → Int) (B' C' : Nat → Nat), (r = .inl none) ∧ (w_Rep w_TC fr X u l I' A' B' C' M') ∧ (c_bz I A I' A' 0 0 (I 2503)) ∧ ((I' 2503) = (I 2503) ∧ (0 ≤ (I' 1035) ∧ (I' 1035) ≤ 10000) ∧ (I' 200) = (I 200) ∧ (I' 202) = (I 202)))
set_option maxHeartbeats 100000000 in
set_option maxRecDepth 100000 in
theorem c_operate {L : Nat} {xs : Nat → Int32} {d : Nat} {fr : Nat → Bool} {X : Nat → Option (q_C (Nat → Int32))} {u l : Nat} {I : Nat → Int} {A : Nat → Int → Int} {B C : Nat → Nat} {M : w_M} (n : Int) (hR : w_Rep w_TC fr X u l I A B C M) (hd : 5 ≤ d) (r_n : w_in n) (hKI : 0 ≤ (I 1035) ∧ (I 1035) ≤ 10000) (hW0 : 0 ≤ (I 2503)) : w_W (z_P L xs) d 173 (0, [(0, .ref 39), (1, .int (Int32.ofInt (n)))], [], M) (c_operate_Q fr X u l I A B C M n) := by
  obtain ⟨ra_n, rb_n⟩ := r_n
  obtain ⟨d, rfl⟩ : ∃ d0, d = d0 + 1 := ⟨d - 1, by omega⟩
  refine w_adv (n := 1) (F' := (1, [(0, .ref 39), (1, .int (Int32.ofInt (n)))], [.ref 39], M)) rfl ?_
  refine w_gf (v := .ref 26) hR rfl rfl rfl rfl ?_
  refine w_adv (n := 1) (F' := (5, [(0, .ref 39), (1, .int (Int32.ofInt (n)))], [.int (Int32.ofInt (n)), .ref 26], M)) rfl ?_
  refine w_call (cm := 162) (as := [(0, .ref 26), (1, .int (Int32.ofInt (n)))]) (rest := []) (o := some (8, 26)) rfl (w_fitR hR rfl) (c_Tree_variable (n) hR (show 2 ≤ d by omega) ⟨by omega, by omega⟩) (fun r1 M2 q3 => ?_)
  rcases q3 with ⟨v4, e5, ⟨r6, r7⟩, e8⟩
  rw [e5, e8]
  show w_W _ _ _ (8, [(0, .ref 39), (1, .int (Int32.ofInt (n)))], [.int (Int32.ofInt (v4))], M) _
  refine w_adv (n := 2) (F' := (10, [(2, .int (Int32.ofInt (v4))), (0, .ref 39), (1, .int (Int32.ofInt (n)))], [.ref 39], M)) rfl ?_
  refine w_gf (v := .ref 26) hR rfl rfl rfl rfl ?_
  refine w_adv (n := 1) (F' := (14, [(2, .int (Int32.ofInt (v4))), (0, .ref 39), (1, .int (Int32.ofInt (n)))], [.ref 39, .ref 26], M)) rfl ?_
  refine w_gf (v := .ref 26) hR rfl rfl rfl rfl ?_
  refine w_adv (n := 1) (F' := (18, [(2, .int (Int32.ofInt (v4))), (0, .ref 39), (1, .int (Int32.ofInt (n)))], [.int (Int32.ofInt (n)), .ref 26, .ref 26], M)) rfl ?_
  refine w_call (cm := 145) (as := [(0, .ref 26), (1, .int (Int32.ofInt (n)))]) (rest := [.ref 26]) (o := some (8, 26)) rfl (w_fitR hR rfl) (c_Ta (n) hR (show 1 ≤ d by omega) ⟨by omega, by omega⟩) (fun r9 M10 q11 => ?_)
  rcases q11 with ⟨v12, e13, ⟨r14, r15⟩, e16, f17⟩
  rw [e13, e16]
  replace f17 : c_rd (A 28) n v12 := f17
  show w_W _ _ _ (21, [(2, .int (Int32.ofInt (v4))), (0, .ref 39), (1, .int (Int32.ofInt (n)))], [.int (Int32.ofInt (v12)), .ref 26], M) _
  refine w_call (cm := 162) (as := [(0, .ref 26), (1, .int (Int32.ofInt (v12)))]) (rest := []) (o := some (8, 26)) rfl (w_fitR hR rfl) (c_Tree_variable (v12) hR (show 2 ≤ d by omega) ⟨by omega, by omega⟩) (fun r18 M19 q20 => ?_)
  rcases q20 with ⟨v21, e22, ⟨r23, r24⟩, e25⟩
  rw [e22, e25]
  show w_W _ _ _ (24, [(2, .int (Int32.ofInt (v4))), (0, .ref 39), (1, .int (Int32.ofInt (n)))], [.int (Int32.ofInt (v21))], M) _
  refine w_adv (n := 2) (F' := (26, [(3, .int (Int32.ofInt (v21))), (2, .int (Int32.ofInt (v4))), (0, .ref 39), (1, .int (Int32.ofInt (n)))], [.ref 39], M)) rfl ?_
  refine w_gf (v := .ref 26) hR rfl rfl rfl rfl ?_
  refine w_adv (n := 1) (F' := (30, [(3, .int (Int32.ofInt (v21))), (2, .int (Int32.ofInt (v4))), (0, .ref 39), (1, .int (Int32.ofInt (n)))], [.int (Int32.ofInt (n)), .ref 26], M)) rfl ?_
  refine w_call (cm := 135) (as := [(0, .ref 26), (1, .int (Int32.ofInt (n)))]) (rest := []) (o := some (8, 26)) rfl (w_fitR hR rfl) (c_Tkind (n) hR (show 1 ≤ d by omega) ⟨by omega, by omega⟩) (fun r26 M27 q28 => ?_)
  rcases q28 with ⟨v29, e30, ⟨r31, r32⟩, e33, f34⟩
  rw [e30, e33]
  replace f34 : c_rd (A 27) n v29 := f34
  show w_W _ _ _ (33, [(3, .int (Int32.ofInt (v21))), (2, .int (Int32.ofInt (v4))), (0, .ref 39), (1, .int (Int32.ofInt (n)))], [.int (Int32.ofInt (v29))], M) _
  refine w_adv (n := 1) (F' := (35, [(3, .int (Int32.ofInt (v21))), (2, .int (Int32.ofInt (v4))), (0, .ref 39), (1, .int (Int32.ofInt (n)))], [.int (Int32.ofInt (9)), .int (Int32.ofInt (v29))], M)) rfl ?_
  refine w_br2 (a := v29) (b := 9) rfl rfl ⟨by omega, by omega⟩ ⟨by omega, by omega⟩ (fun h35 => ?_) (fun h35 => ?_)
  · have h35 : ¬ v29 = 9 := h35
    show w_W _ _ _ (55, [(3, .int (Int32.ofInt (v21))), (2, .int (Int32.ofInt (v4))), (0, .ref 39), (1, .int (Int32.ofInt (n)))], [], M) _
    refine w_adv (n := 1) (F' := (56, [(3, .int (Int32.ofInt (v21))), (2, .int (Int32.ofInt (v4))), (0, .ref 39), (1, .int (Int32.ofInt (n)))], [.ref 39], M)) rfl ?_
    refine w_gf (v := .ref 26) hR rfl rfl rfl rfl ?_
    refine w_adv (n := 1) (F' := (60, [(3, .int (Int32.ofInt (v21))), (2, .int (Int32.ofInt (v4))), (0, .ref 39), (1, .int (Int32.ofInt (n)))], [.int (Int32.ofInt (n)), .ref 26], M)) rfl ?_
    refine w_call (cm := 174) (as := [(0, .ref 26), (1, .int (Int32.ofInt (n)))]) (rest := []) (o := some (8, 26)) rfl (w_fitR hR rfl) (c_Tc (n) hR (show 1 ≤ d by omega) ⟨by omega, by omega⟩) (fun r36 M37 q38 => ?_)
    rcases q38 with ⟨v39, e40, ⟨r41, r42⟩, e43, f44⟩
    rw [e40, e43]
    replace f44 : c_rd (A 30) n v39 := f44
    show w_W _ _ _ (63, [(3, .int (Int32.ofInt (v21))), (2, .int (Int32.ofInt (v4))), (0, .ref 39), (1, .int (Int32.ofInt (n)))], [.int (Int32.ofInt (v39))], M) _
    refine w_adv (n := 1) (F' := (65, [(3, .int (Int32.ofInt (v21))), (2, .int (Int32.ofInt (v4))), (0, .ref 39), (1, .int (Int32.ofInt (n)))], [.int (Int32.ofInt (7)), .int (Int32.ofInt (v39))], M)) rfl ?_
    refine w_br2 (a := v39) (b := 7) rfl rfl ⟨by omega, by omega⟩ ⟨by omega, by omega⟩ (fun h45 => ?_) (fun h45 => ?_)
    · have h45 : ¬ v39 = 7 := h45
      show w_W _ _ _ (80, [(3, .int (Int32.ofInt (v21))), (2, .int (Int32.ofInt (v4))), (0, .ref 39), (1, .int (Int32.ofInt (n)))], [], M) _
      refine w_adv (n := 4) (F' := (85, [(3, .int (Int32.ofInt (v21))), (2, .int (Int32.ofInt (v4))), (0, .ref 39), (1, .int (Int32.ofInt (n)))], [.ref 39, .int (Int32.ofInt (v4)), .int (Int32.ofInt (8)), .ref 39], M)) rfl ?_
      refine w_gf (v := .ref 26) hR rfl rfl rfl rfl ?_
      refine w_adv (n := 1) (F' := (89, [(3, .int (Int32.ofInt (v21))), (2, .int (Int32.ofInt (v4))), (0, .ref 39), (1, .int (Int32.ofInt (n)))], [.int (Int32.ofInt (n)), .ref 26, .int (Int32.ofInt (v4)), .int (Int32.ofInt (8)), .ref 39], M)) rfl ?_
      refine w_call (cm := 174) (as := [(0, .ref 26), (1, .int (Int32.ofInt (n)))]) (rest := [.int (Int32.ofInt (v4)), .int (Int32.ofInt (8)), .ref 39]) (o := some (8, 26)) rfl (w_fitR hR rfl) (c_Tc (n) hR (show 1 ≤ d by omega) ⟨by omega, by omega⟩) (fun r46 M47 q48 => ?_)
      rcases q48 with ⟨v49, e50, ⟨r51, r52⟩, e53, f54⟩
      rw [e50, e53]
      replace f54 : c_rd (A 30) n v49 := f54
      show w_W _ _ _ (92, [(3, .int (Int32.ofInt (v21))), (2, .int (Int32.ofInt (v4))), (0, .ref 39), (1, .int (Int32.ofInt (n)))], [.int (Int32.ofInt (v49)), .int (Int32.ofInt (v4)), .int (Int32.ofInt (8)), .ref 39], M) _
      refine w_adv (n := 1) (F' := (93, [(3, .int (Int32.ofInt (v21))), (2, .int (Int32.ofInt (v4))), (0, .ref 39), (1, .int (Int32.ofInt (n)))], [.int (Int32.ofInt ((-1))), .int (Int32.ofInt (v49)), .int (Int32.ofInt (v4)), .int (Int32.ofInt (8)), .ref 39], M)) rfl ?_
      refine w_call (cm := 148) (as := [(0, .ref 39), (1, .int (Int32.ofInt (8))), (2, .int (Int32.ofInt (v4))), (3, .int (Int32.ofInt (v49))), (4, .int (Int32.ofInt ((-1))))]) (rest := []) (o := some (1, 39)) rfl (w_fitR hR rfl) (c_emit (8) (v4) (v49) ((-1)) hR (show 4 ≤ d by omega) ⟨by omega, by omega⟩ ⟨by omega, by omega⟩ ⟨by omega, by omega⟩ ⟨by omega, by omega⟩ (show 0 ≤ (I 1035) ∧ (I 1035) ≤ 10000 by (repeat' apply And.intro) <;> first | assumption | omega) (show 0 ≤ (I 2503) by omega)) (fun r55 M56 q57 => ?_)
      rcases q57 with ⟨I57a, A57a, B57a, C57a, e58, hR57a, f59, f60⟩
      rw [e58]
      replace hR57a : w_Rep w_TC fr X u l I57a A57a B57a C57a M56 := hR57a
      replace f59 : c_bz I A I57a A57a 0 0 (I 2503) := f59
      replace f60 : (I57a 2503) = (I 2503) ∧ (0 ≤ (I57a 1035) ∧ (I57a 1035) ≤ 10000) ∧ (I57a 200) = (I 200) ∧ (I57a 202) = (I 202) := f60
      obtain ⟨n61, ⟨n62, n63⟩, n64, n65⟩ := id f60
      clear f60
      have bx66 : c_bz I A I57a A57a 0 0 (I 2503) := c_bz_trans (show c_bz I A I A 0 0 (I 2503) from c_bz_refl) f59 (Int.le_refl _) (Int.le_refl _) (show 0 ≤ 0 ∨ 0 ≤ 0 by omega) (show 0 ≤ 0 ∨ 0 ≤ 0 by omega) (Int.le_refl _) (show (I 2503) ≤ (I 2503) by omega)
      show w_W _ _ _ (96, [(3, .int (Int32.ofInt (v21))), (2, .int (Int32.ofInt (v4))), (0, .ref 39), (1, .int (Int32.ofInt (n)))], [], M56) _
      refine w_adv (n := 1) (F' := (97, [(3, .int (Int32.ofInt (v21))), (2, .int (Int32.ofInt (v4))), (0, .ref 39), (1, .int (Int32.ofInt (n)))], [.ref 39], M56)) rfl ?_
      refine w_gf (v := .ref 16) hR57a rfl rfl rfl rfl ?_
      refine w_adv (n := 1) (F' := (101, [(3, .int (Int32.ofInt (v21))), (2, .int (Int32.ofInt (v4))), (0, .ref 39), (1, .int (Int32.ofInt (n)))], [.int (Int32.ofInt (v21)), .ref 16], M56)) rfl ?_
      refine w_call (cm := 164) (as := [(0, .ref 16), (1, .int (Int32.ofInt (v21)))]) (rest := []) (o := some (2, 16)) rfl (w_fitR hR57a rfl) (c_kad (v21) hR57a (show 1 ≤ d by omega) ⟨by omega, by omega⟩ (show 0 ≤ (I57a 1035) ∧ (I57a 1035) ≤ 10000 by (repeat' apply And.intro) <;> first | assumption | omega) (show 0 ≤ (I57a 2503) by omega)) (fun r67 M68 q69 => ?_)
      rcases q69 with ⟨I69a, A69a, B69a, C69a, e70, hR69a, f71, f72, f73⟩
      rw [e70]
      replace hR69a : w_Rep w_TC fr X u l I69a A69a B69a C69a M68 := hR69a
      replace f71 : c_bz I57a A57a I69a A69a 0 0 (I57a 2503) := f71
      replace f72 : (I69a 2503) = (I57a 2503) ∧ (0 ≤ (I69a 1035) ∧ (I69a 1035) ≤ 10000) ∧ (I69a 200) = (I57a 200) ∧ (I69a 202) = (I57a 202) := f72
      obtain ⟨n74, ⟨n75, n76⟩, n77, n78⟩ := id f72
      clear f72
      replace f73 : (I69a 2502) = (I57a 2502) := f73
      have bx79 : c_bz I A I69a A69a 0 0 (I 2503) := c_bz_trans (show c_bz I A I57a A57a 0 0 (I 2503) from bx66) f71 (Int.le_refl _) (Int.le_refl _) (show 0 ≤ 0 ∨ 0 ≤ 0 by omega) (show 0 ≤ 0 ∨ 0 ≤ 0 by omega) (Int.le_refl _) (show (I 2503) ≤ (I57a 2503) by omega)
      show w_W _ _ _ (104, [(3, .int (Int32.ofInt (v21))), (2, .int (Int32.ofInt (v4))), (0, .ref 39), (1, .int (Int32.ofInt (n)))], [], M68) _
      refine w_adv (n := 1) (F' := (105, [(3, .int (Int32.ofInt (v21))), (2, .int (Int32.ofInt (v4))), (0, .ref 39), (1, .int (Int32.ofInt (n)))], [.ref 39], M68)) rfl ?_
      refine w_gf (v := .ref 16) hR69a rfl rfl rfl rfl ?_
      refine w_adv (n := 1) (F' := (109, [(3, .int (Int32.ofInt (v21))), (2, .int (Int32.ofInt (v4))), (0, .ref 39), (1, .int (Int32.ofInt (n)))], [.ref 39, .ref 16], M68)) rfl ?_
      refine w_gf (v := .ref 26) hR69a rfl rfl rfl rfl ?_
      refine w_adv (n := 1) (F' := (113, [(3, .int (Int32.ofInt (v21))), (2, .int (Int32.ofInt (v4))), (0, .ref 39), (1, .int (Int32.ofInt (n)))], [.ref 39, .ref 26, .ref 16], M68)) rfl ?_
      refine w_gf (v := .ref 26) hR69a rfl rfl rfl rfl ?_
      refine w_adv (n := 1) (F' := (117, [(3, .int (Int32.ofInt (v21))), (2, .int (Int32.ofInt (v4))), (0, .ref 39), (1, .int (Int32.ofInt (n)))], [.int (Int32.ofInt (n)), .ref 26, .ref 26, .ref 16], M68)) rfl ?_
      refine w_call (cm := 152) (as := [(0, .ref 26), (1, .int (Int32.ofInt (n)))]) (rest := [.ref 26, .ref 16]) (o := some (8, 26)) rfl (w_fitR hR69a rfl) (c_Tb (n) hR69a (show 1 ≤ d by omega) ⟨by omega, by omega⟩) (fun r80 M81 q82 => ?_)
      rcases q82 with ⟨v83, e84, ⟨r85, r86⟩, e87, f88⟩
      rw [e84, e87]
      replace f88 : c_rd (A69a 29) n v83 := f88
      show w_W _ _ _ (120, [(3, .int (Int32.ofInt (v21))), (2, .int (Int32.ofInt (v4))), (0, .ref 39), (1, .int (Int32.ofInt (n)))], [.int (Int32.ofInt (v83)), .ref 26, .ref 16], M68) _
      refine w_call (cm := 162) (as := [(0, .ref 26), (1, .int (Int32.ofInt (v83)))]) (rest := [.ref 16]) (o := some (8, 26)) rfl (w_fitR hR69a rfl) (c_Tree_variable (v83) hR69a (show 2 ≤ d by omega) ⟨by omega, by omega⟩) (fun r89 M90 q91 => ?_)
      rcases q91 with ⟨v92, e93, ⟨r94, r95⟩, e96⟩
      rw [e93, e96]
      show w_W _ _ _ (123, [(3, .int (Int32.ofInt (v21))), (2, .int (Int32.ofInt (v4))), (0, .ref 39), (1, .int (Int32.ofInt (n)))], [.int (Int32.ofInt (v92)), .ref 16], M68) _
      refine w_call (cm := 164) (as := [(0, .ref 16), (1, .int (Int32.ofInt (v92)))]) (rest := []) (o := some (2, 16)) rfl (w_fitR hR69a rfl) (c_kad (v92) hR69a (show 1 ≤ d by omega) ⟨by omega, by omega⟩ (show 0 ≤ (I69a 1035) ∧ (I69a 1035) ≤ 10000 by (repeat' apply And.intro) <;> first | assumption | omega) (show 0 ≤ (I69a 2503) by omega)) (fun r97 M98 q99 => ?_)
      rcases q99 with ⟨I99a, A99a, B99a, C99a, e100, hR99a, f101, f102, f103⟩
      rw [e100]
      replace hR99a : w_Rep w_TC fr X u l I99a A99a B99a C99a M98 := hR99a
      replace f101 : c_bz I69a A69a I99a A99a 0 0 (I69a 2503) := f101
      replace f102 : (I99a 2503) = (I69a 2503) ∧ (0 ≤ (I99a 1035) ∧ (I99a 1035) ≤ 10000) ∧ (I99a 200) = (I69a 200) ∧ (I99a 202) = (I69a 202) := f102
      obtain ⟨n104, ⟨n105, n106⟩, n107, n108⟩ := id f102
      clear f102
      replace f103 : (I99a 2502) = (I69a 2502) := f103
      have bx109 : c_bz I A I99a A99a 0 0 (I 2503) := c_bz_trans (show c_bz I A I69a A69a 0 0 (I 2503) from bx79) f101 (Int.le_refl _) (Int.le_refl _) (show 0 ≤ 0 ∨ 0 ≤ 0 by omega) (show 0 ≤ 0 ∨ 0 ≤ 0 by omega) (Int.le_refl _) (show (I 2503) ≤ (I69a 2503) by omega)
      show w_W _ _ _ (126, [(3, .int (Int32.ofInt (v21))), (2, .int (Int32.ofInt (v4))), (0, .ref 39), (1, .int (Int32.ofInt (n)))], [], M98) _
      refine w_fin (r := .inl none) (M' := M98) rfl ?_
      exact ⟨I99a, A99a, B99a, C99a, rfl, hR99a, (show c_bz I A I99a A99a 0 0 (I 2503) by exact bx109), (show (I99a 2503) = (I 2503) ∧ (0 ≤ (I99a 1035) ∧ (I99a 1035) ≤ 10000) ∧ (I99a 200) = (I 200) ∧ (I99a 202) = (I 202) by (repeat' apply And.intro) <;> first | assumption | omega)⟩
    · have h45 : ¬ (¬ v39 = 7) := h45
      show w_W _ _ _ (68, [(3, .int (Int32.ofInt (v21))), (2, .int (Int32.ofInt (v4))), (0, .ref 39), (1, .int (Int32.ofInt (n)))], [], M) _
      refine w_adv (n := 5) (F' := (74, [(3, .int (Int32.ofInt (v21))), (2, .int (Int32.ofInt (v4))), (0, .ref 39), (1, .int (Int32.ofInt (n)))], [.int (Int32.ofInt ((-1))), .int (Int32.ofInt ((-1))), .int (Int32.ofInt (v4)), .int (Int32.ofInt (9)), .ref 39], M)) rfl ?_
      refine w_call (cm := 148) (as := [(0, .ref 39), (1, .int (Int32.ofInt (9))), (2, .int (Int32.ofInt (v4))), (3, .int (Int32.ofInt ((-1)))), (4, .int (Int32.ofInt ((-1))))]) (rest := []) (o := some (1, 39)) rfl (w_fitR hR rfl) (c_emit (9) (v4) ((-1)) ((-1)) hR (show 4 ≤ d by omega) ⟨by omega, by omega⟩ ⟨by omega, by omega⟩ ⟨by omega, by omega⟩ ⟨by omega, by omega⟩ (show 0 ≤ (I 1035) ∧ (I 1035) ≤ 10000 by (repeat' apply And.intro) <;> first | assumption | omega) (show 0 ≤ (I 2503) by omega)) (fun r110 M111 q112 => ?_)
      rcases q112 with ⟨I112a, A112a, B112a, C112a, e113, hR112a, f114, f115⟩
      rw [e113]
      replace hR112a : w_Rep w_TC fr X u l I112a A112a B112a C112a M111 := hR112a
      replace f114 : c_bz I A I112a A112a 0 0 (I 2503) := f114
      replace f115 : (I112a 2503) = (I 2503) ∧ (0 ≤ (I112a 1035) ∧ (I112a 1035) ≤ 10000) ∧ (I112a 200) = (I 200) ∧ (I112a 202) = (I 202) := f115
      obtain ⟨n116, ⟨n117, n118⟩, n119, n120⟩ := id f115
      clear f115
      have bx121 : c_bz I A I112a A112a 0 0 (I 2503) := c_bz_trans (show c_bz I A I A 0 0 (I 2503) from c_bz_refl) f114 (Int.le_refl _) (Int.le_refl _) (show 0 ≤ 0 ∨ 0 ≤ 0 by omega) (show 0 ≤ 0 ∨ 0 ≤ 0 by omega) (Int.le_refl _) (show (I 2503) ≤ (I 2503) by omega)
      show w_W _ _ _ (77, [(3, .int (Int32.ofInt (v21))), (2, .int (Int32.ofInt (v4))), (0, .ref 39), (1, .int (Int32.ofInt (n)))], [], M111) _
      refine w_adv (n := 2) (F' := (97, [(3, .int (Int32.ofInt (v21))), (2, .int (Int32.ofInt (v4))), (0, .ref 39), (1, .int (Int32.ofInt (n)))], [.ref 39], M111)) rfl ?_
      refine w_gf (v := .ref 16) hR112a rfl rfl rfl rfl ?_
      refine w_adv (n := 1) (F' := (101, [(3, .int (Int32.ofInt (v21))), (2, .int (Int32.ofInt (v4))), (0, .ref 39), (1, .int (Int32.ofInt (n)))], [.int (Int32.ofInt (v21)), .ref 16], M111)) rfl ?_
      refine w_call (cm := 164) (as := [(0, .ref 16), (1, .int (Int32.ofInt (v21)))]) (rest := []) (o := some (2, 16)) rfl (w_fitR hR112a rfl) (c_kad (v21) hR112a (show 1 ≤ d by omega) ⟨by omega, by omega⟩ (show 0 ≤ (I112a 1035) ∧ (I112a 1035) ≤ 10000 by (repeat' apply And.intro) <;> first | assumption | omega) (show 0 ≤ (I112a 2503) by omega)) (fun r122 M123 q124 => ?_)
      rcases q124 with ⟨I124a, A124a, B124a, C124a, e125, hR124a, f126, f127, f128⟩
      rw [e125]
      replace hR124a : w_Rep w_TC fr X u l I124a A124a B124a C124a M123 := hR124a
      replace f126 : c_bz I112a A112a I124a A124a 0 0 (I112a 2503) := f126
      replace f127 : (I124a 2503) = (I112a 2503) ∧ (0 ≤ (I124a 1035) ∧ (I124a 1035) ≤ 10000) ∧ (I124a 200) = (I112a 200) ∧ (I124a 202) = (I112a 202) := f127
      obtain ⟨n129, ⟨n130, n131⟩, n132, n133⟩ := id f127
      clear f127
      replace f128 : (I124a 2502) = (I112a 2502) := f128
      have bx134 : c_bz I A I124a A124a 0 0 (I 2503) := c_bz_trans (show c_bz I A I112a A112a 0 0 (I 2503) from bx121) f126 (Int.le_refl _) (Int.le_refl _) (show 0 ≤ 0 ∨ 0 ≤ 0 by omega) (show 0 ≤ 0 ∨ 0 ≤ 0 by omega) (Int.le_refl _) (show (I 2503) ≤ (I112a 2503) by omega)
      show w_W _ _ _ (104, [(3, .int (Int32.ofInt (v21))), (2, .int (Int32.ofInt (v4))), (0, .ref 39), (1, .int (Int32.ofInt (n)))], [], M123) _
      refine w_adv (n := 1) (F' := (105, [(3, .int (Int32.ofInt (v21))), (2, .int (Int32.ofInt (v4))), (0, .ref 39), (1, .int (Int32.ofInt (n)))], [.ref 39], M123)) rfl ?_
      refine w_gf (v := .ref 16) hR124a rfl rfl rfl rfl ?_
      refine w_adv (n := 1) (F' := (109, [(3, .int (Int32.ofInt (v21))), (2, .int (Int32.ofInt (v4))), (0, .ref 39), (1, .int (Int32.ofInt (n)))], [.ref 39, .ref 16], M123)) rfl ?_
      refine w_gf (v := .ref 26) hR124a rfl rfl rfl rfl ?_
      refine w_adv (n := 1) (F' := (113, [(3, .int (Int32.ofInt (v21))), (2, .int (Int32.ofInt (v4))), (0, .ref 39), (1, .int (Int32.ofInt (n)))], [.ref 39, .ref 26, .ref 16], M123)) rfl ?_
      refine w_gf (v := .ref 26) hR124a rfl rfl rfl rfl ?_
      refine w_adv (n := 1) (F' := (117, [(3, .int (Int32.ofInt (v21))), (2, .int (Int32.ofInt (v4))), (0, .ref 39), (1, .int (Int32.ofInt (n)))], [.int (Int32.ofInt (n)), .ref 26, .ref 26, .ref 16], M123)) rfl ?_
      refine w_call (cm := 152) (as := [(0, .ref 26), (1, .int (Int32.ofInt (n)))]) (rest := [.ref 26, .ref 16]) (o := some (8, 26)) rfl (w_fitR hR124a rfl) (c_Tb (n) hR124a (show 1 ≤ d by omega) ⟨by omega, by omega⟩) (fun r135 M136 q137 => ?_)
      rcases q137 with ⟨v138, e139, ⟨r140, r141⟩, e142, f143⟩
      rw [e139, e142]
      replace f143 : c_rd (A124a 29) n v138 := f143
      show w_W _ _ _ (120, [(3, .int (Int32.ofInt (v21))), (2, .int (Int32.ofInt (v4))), (0, .ref 39), (1, .int (Int32.ofInt (n)))], [.int (Int32.ofInt (v138)), .ref 26, .ref 16], M123) _
      refine w_call (cm := 162) (as := [(0, .ref 26), (1, .int (Int32.ofInt (v138)))]) (rest := [.ref 16]) (o := some (8, 26)) rfl (w_fitR hR124a rfl) (c_Tree_variable (v138) hR124a (show 2 ≤ d by omega) ⟨by omega, by omega⟩) (fun r144 M145 q146 => ?_)
      rcases q146 with ⟨v147, e148, ⟨r149, r150⟩, e151⟩
      rw [e148, e151]
      show w_W _ _ _ (123, [(3, .int (Int32.ofInt (v21))), (2, .int (Int32.ofInt (v4))), (0, .ref 39), (1, .int (Int32.ofInt (n)))], [.int (Int32.ofInt (v147)), .ref 16], M123) _
      refine w_call (cm := 164) (as := [(0, .ref 16), (1, .int (Int32.ofInt (v147)))]) (rest := []) (o := some (2, 16)) rfl (w_fitR hR124a rfl) (c_kad (v147) hR124a (show 1 ≤ d by omega) ⟨by omega, by omega⟩ (show 0 ≤ (I124a 1035) ∧ (I124a 1035) ≤ 10000 by (repeat' apply And.intro) <;> first | assumption | omega) (show 0 ≤ (I124a 2503) by omega)) (fun r152 M153 q154 => ?_)
      rcases q154 with ⟨I154a, A154a, B154a, C154a, e155, hR154a, f156, f157, f158⟩
      rw [e155]
      replace hR154a : w_Rep w_TC fr X u l I154a A154a B154a C154a M153 := hR154a
      replace f156 : c_bz I124a A124a I154a A154a 0 0 (I124a 2503) := f156
      replace f157 : (I154a 2503) = (I124a 2503) ∧ (0 ≤ (I154a 1035) ∧ (I154a 1035) ≤ 10000) ∧ (I154a 200) = (I124a 200) ∧ (I154a 202) = (I124a 202) := f157
      obtain ⟨n159, ⟨n160, n161⟩, n162, n163⟩ := id f157
      clear f157
      replace f158 : (I154a 2502) = (I124a 2502) := f158
      have bx164 : c_bz I A I154a A154a 0 0 (I 2503) := c_bz_trans (show c_bz I A I124a A124a 0 0 (I 2503) from bx134) f156 (Int.le_refl _) (Int.le_refl _) (show 0 ≤ 0 ∨ 0 ≤ 0 by omega) (show 0 ≤ 0 ∨ 0 ≤ 0 by omega) (Int.le_refl _) (show (I 2503) ≤ (I124a 2503) by omega)
      show w_W _ _ _ (126, [(3, .int (Int32.ofInt (v21))), (2, .int (Int32.ofInt (v4))), (0, .ref 39), (1, .int (Int32.ofInt (n)))], [], M153) _
      refine w_fin (r := .inl none) (M' := M153) rfl ?_
      exact ⟨I154a, A154a, B154a, C154a, rfl, hR154a, (show c_bz I A I154a A154a 0 0 (I 2503) by exact bx164), (show (I154a 2503) = (I 2503) ∧ (0 ≤ (I154a 1035) ∧ (I154a 1035) ≤ 10000) ∧ (I154a 200) = (I 200) ∧ (I154a 202) = (I 202) by (repeat' apply And.intro) <;> first | assumption | omega)⟩
  · have h35 : ¬ (¬ v29 = 9) := h35
    show w_W _ _ _ (38, [(3, .int (Int32.ofInt (v21))), (2, .int (Int32.ofInt (v4))), (0, .ref 39), (1, .int (Int32.ofInt (n)))], [], M) _
    refine w_adv (n := 5) (F' := (44, [(3, .int (Int32.ofInt (v21))), (2, .int (Int32.ofInt (v4))), (0, .ref 39), (1, .int (Int32.ofInt (n)))], [.ref 39, .int (Int32.ofInt (v21)), .int (Int32.ofInt (v4)), .int (Int32.ofInt (10)), .ref 39], M)) rfl ?_
    refine w_gf (v := .ref 26) hR rfl rfl rfl rfl ?_
    refine w_adv (n := 1) (F' := (48, [(3, .int (Int32.ofInt (v21))), (2, .int (Int32.ofInt (v4))), (0, .ref 39), (1, .int (Int32.ofInt (n)))], [.int (Int32.ofInt (n)), .ref 26, .int (Int32.ofInt (v21)), .int (Int32.ofInt (v4)), .int (Int32.ofInt (10)), .ref 39], M)) rfl ?_
    refine w_call (cm := 152) (as := [(0, .ref 26), (1, .int (Int32.ofInt (n)))]) (rest := [.int (Int32.ofInt (v21)), .int (Int32.ofInt (v4)), .int (Int32.ofInt (10)), .ref 39]) (o := some (8, 26)) rfl (w_fitR hR rfl) (c_Tb (n) hR (show 1 ≤ d by omega) ⟨by omega, by omega⟩) (fun r165 M166 q167 => ?_)
    rcases q167 with ⟨v168, e169, ⟨r170, r171⟩, e172, f173⟩
    rw [e169, e172]
    replace f173 : c_rd (A 29) n v168 := f173
    show w_W _ _ _ (51, [(3, .int (Int32.ofInt (v21))), (2, .int (Int32.ofInt (v4))), (0, .ref 39), (1, .int (Int32.ofInt (n)))], [.int (Int32.ofInt (v168)), .int (Int32.ofInt (v21)), .int (Int32.ofInt (v4)), .int (Int32.ofInt (10)), .ref 39], M) _
    refine w_call (cm := 148) (as := [(0, .ref 39), (1, .int (Int32.ofInt (10))), (2, .int (Int32.ofInt (v4))), (3, .int (Int32.ofInt (v21))), (4, .int (Int32.ofInt (v168)))]) (rest := []) (o := some (1, 39)) rfl (w_fitR hR rfl) (c_emit (10) (v4) (v21) (v168) hR (show 4 ≤ d by omega) ⟨by omega, by omega⟩ ⟨by omega, by omega⟩ ⟨by omega, by omega⟩ ⟨by omega, by omega⟩ (show 0 ≤ (I 1035) ∧ (I 1035) ≤ 10000 by (repeat' apply And.intro) <;> first | assumption | omega) (show 0 ≤ (I 2503) by omega)) (fun r174 M175 q176 => ?_)
    rcases q176 with ⟨I176a, A176a, B176a, C176a, e177, hR176a, f178, f179⟩
    rw [e177]
    replace hR176a : w_Rep w_TC fr X u l I176a A176a B176a C176a M175 := hR176a
    replace f178 : c_bz I A I176a A176a 0 0 (I 2503) := f178
    replace f179 : (I176a 2503) = (I 2503) ∧ (0 ≤ (I176a 1035) ∧ (I176a 1035) ≤ 10000) ∧ (I176a 200) = (I 200) ∧ (I176a 202) = (I 202) := f179
    obtain ⟨n180, ⟨n181, n182⟩, n183, n184⟩ := id f179
    clear f179
    have bx185 : c_bz I A I176a A176a 0 0 (I 2503) := c_bz_trans (show c_bz I A I A 0 0 (I 2503) from c_bz_refl) f178 (Int.le_refl _) (Int.le_refl _) (show 0 ≤ 0 ∨ 0 ≤ 0 by omega) (show 0 ≤ 0 ∨ 0 ≤ 0 by omega) (Int.le_refl _) (show (I 2503) ≤ (I 2503) by omega)
    show w_W _ _ _ (54, [(3, .int (Int32.ofInt (v21))), (2, .int (Int32.ofInt (v4))), (0, .ref 39), (1, .int (Int32.ofInt (n)))], [], M175) _
    refine w_fin (r := .inl none) (M' := M175) rfl ?_
    exact ⟨I176a, A176a, B176a, C176a, rfl, hR176a, (show c_bz I A I176a A176a 0 0 (I 2503) by exact bx185), (show (I176a 2503) = (I 2503) ∧ (0 ≤ (I176a 1035) ∧ (I176a 1035) ≤ 10000) ∧ (I176a 200) = (I 200) ∧ (I176a 202) = (I 202) by (repeat' apply And.intro) <;> first | assumption | omega)⟩
