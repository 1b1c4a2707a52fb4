/-! TOKENS of the class: one token. -/
def c_name_Q (fr : Nat → Bool) (X : Nat → Option (q_C (Nat → Int32))) (u l : Nat) (I : Nat → Int) (A : Nat → Int → Int) (B C : Nat → Nat) (M : w_M) (p : Int) (kd : Int) : w_X → w_M → Prop := fun r M' => (∃ (I' : Nat → Int) (A' : Nat → Int → Int) (B' C' : Nat → Nat), (r = .inl none) ∧ (w_Rep w_TC fr X u l I' A' B' C' M') ∧ (c_fr c_ts c_ta I A I' A') ∧ (36 ≤ (I' 200) ∧ (I' 200) ≤ 419 ∧ 0 ≤ (I' 202) ∧ (I' 202) ≤ 24) ∧ (∀ i, (A' 5) i ≤ 24) ∧ ((I' 773) = (I 773) + 1 ∧ (I' 65) = (I 65)))
set_option maxHeartbeats 100000000 in
set_option maxRecDepth 100000 in
theorem c_name {L : Nat} {xs : Nat → Int32} {d : Nat} {fr : Nat → Bool} {X : Nat → Option (q_C (Nat → Int32))} {u l : Nat} {I : Nat → Int} {A : Nat → Int → Int} {B C : Nat → Nat} {M : w_M} (p : Int) (kd : Int) (hR : w_Rep w_TC fr X u l I A B C M) (hd : 5 ≤ d) (r_p : w_in p) (r_kd : w_in kd) (hT : 0 ≤ (I 773) ∧ (I 773) ≤ 1501) (hNM : 36 ≤ (I 200) ∧ (I 200) ≤ 419 ∧ 0 ≤ (I 202) ∧ (I 202) ≤ 24) (hLN : ∀ i, (A 5) i ≤ 24) : w_W (z_P L xs) d 48 (0, [(0, .ref 12), (1, .int (Int32.ofInt (p))), (2, .int (Int32.ofInt (kd)))], [], M) (c_name_Q fr X u l I A B C M p kd) := by
  obtain ⟨ra_p, rb_p⟩ := r_p
  obtain ⟨ra_kd, rb_kd⟩ := r_kd
  obtain ⟨d, rfl⟩ : ∃ d0, d = d0 + 1 := ⟨d - 1, by omega⟩
  refine w_adv (n := 3) (F' := (3, [(0, .ref 12), (1, .int (Int32.ofInt (p))), (2, .int (Int32.ofInt (kd)))], [.int (Int32.ofInt (p)), .ref 12, .ref 12], M)) rfl ?_
  refine w_call (cm := 49) (as := [(0, .ref 12), (1, .int (Int32.ofInt (p)))]) (rest := [.ref 12]) (o := some (7, 12)) rfl (w_fitR hR rfl) (c_pastName (p) hR (show 2 ≤ d by omega) ⟨by omega, by omega⟩) (fun r1 M2 q3 => ?_)
  rcases q3 with ⟨v4, e5, ⟨r6, r7⟩, e8⟩
  rw [e5, e8]
  show w_W _ _ _ (6, [(0, .ref 12), (1, .int (Int32.ofInt (p))), (2, .int (Int32.ofInt (kd)))], [.int (Int32.ofInt (v4)), .ref 12], M) _
  refine w_pf hR rfl rfl rfl rfl (show w_in (v4) from ⟨by omega, by omega⟩) (fun h => absurd h (by decide)) (fun M9 hR10 => ?_)
  replace hR10 : w_Rep w_TC fr X u l (w_up I 776 (v4)) A B C M9 := hR10
  refine w_adv (n := 1) (F' := (10, [(0, .ref 12), (1, .int (Int32.ofInt (p))), (2, .int (Int32.ofInt (kd)))], [.ref 12], M9)) rfl ?_
  refine w_gf (v := .int (Int32.ofInt (v4))) hR10 rfl rfl rfl rfl ?_
  obtain ⟨r11, r12⟩ : -2147483648 ≤ v4 ∧ v4 ≤ 2147483647 := hR10.ri 776
  refine w_adv (n := 1) (F' := (14, [(0, .ref 12), (1, .int (Int32.ofInt (p))), (2, .int (Int32.ofInt (kd)))], [.int (Int32.ofInt (p)), .int (Int32.ofInt (v4))], M9)) rfl ?_
  refine w_sub rfl ?_
  refine w_int (fun x13 r14 e15 => ?_)
  obtain ⟨r14a, r14b⟩ := r14
  clear e15
  refine w_adv (n := 1) (F' := (17, [(0, .ref 12), (1, .int (Int32.ofInt (p))), (2, .int (Int32.ofInt (kd)))], [.int (Int32.ofInt (24)), .int (Int32.ofInt (x13))], M9)) rfl ?_
  refine w_br2 (a := x13) (b := 24) rfl rfl ⟨by omega, by omega⟩ ⟨by omega, by omega⟩ (fun h16 => ?_) (fun h16 => ?_)
  · have h16 : x13 ≤ 24 := h16
    show w_W _ _ _ (33, [(0, .ref 12), (1, .int (Int32.ofInt (p))), (2, .int (Int32.ofInt (kd)))], [], M9) _
    refine w_adv (n := 1) (F' := (34, [(0, .ref 12), (1, .int (Int32.ofInt (p))), (2, .int (Int32.ofInt (kd)))], [.ref 12], M9)) rfl ?_
    refine w_gf (v := .ref 3) hR10 rfl rfl rfl rfl ?_
    refine w_call (cm := 7) (as := [(0, .ref 3)]) (rest := []) (o := some (3, 3)) rfl (w_fitR hR10 rfl) (c_Names_begin hR10) (fun r17 M18 q19 => ?_)
    rcases q19 with ⟨e20, hR19a⟩
    rw [e20]
    replace hR19a : w_Rep w_TC fr X u l (w_up (w_up I 776 (v4)) 202 (0)) A B C M18 := hR19a
    show w_W _ _ _ (40, [(0, .ref 12), (1, .int (Int32.ofInt (p))), (2, .int (Int32.ofInt (kd)))], [], M18) _
    refine w_adv (n := 2) (F' := (42, [(3, .int (Int32.ofInt (p))), (0, .ref 12), (1, .int (Int32.ofInt (p))), (2, .int (Int32.ofInt (kd)))], [], M18)) rfl ?_
    have lp42 : ∀ fu42 : Nat, ∀ (y42_3 : Int) (ga42_4 : Int → Int) (gi42_202 : Int) (M_42 : w_M) (hR_42 : w_Rep w_TC fr X u l (w_up (w_up I 776 (v4)) 202 (gi42_202)) (w_upF A 4 ga42_4) B C M_42), w_in y42_3 → 0 ≤ gi42_202 ∧ gi42_202 ≤ 24 → (if y42_3 < v4 then v4 - y42_3 else 0) < (fu42 : Int) → w_W (z_P L xs) (d + 1) 48 (42, [(0, .ref 12), (1, .int (Int32.ofInt (p))), (2, .int (Int32.ofInt (kd))), (3, .int (Int32.ofInt (y42_3)))], [], M_42) (c_name_Q fr X u l I A B C M p kd) := by
      intro fu42
      induction fu42 with
      | zero =>
        intro y42_3 ga42_4 gi42_202 M_42 hR_42 ⟨ra_y42_3, rb_y42_3⟩ hi42_0 hn42
        exfalso
        omega
      | succ fu42 ih42 =>
        intro y42_3 ga42_4 gi42_202 M_42 hR_42 ⟨ra_y42_3, rb_y42_3⟩ hi42_0 hn42
        refine w_adv (n := 2) (F' := (44, [(0, .ref 12), (1, .int (Int32.ofInt (p))), (2, .int (Int32.ofInt (kd))), (3, .int (Int32.ofInt (y42_3)))], [.ref 12, .int (Int32.ofInt (y42_3))], M_42)) rfl ?_
        refine w_gf (v := .int (Int32.ofInt (v4))) hR_42 rfl rfl rfl rfl ?_
        obtain ⟨r21, r22⟩ : -2147483648 ≤ v4 ∧ v4 ≤ 2147483647 := hR_42.ri 776
        refine w_br2 (a := y42_3) (b := v4) rfl rfl ⟨by omega, by omega⟩ ⟨by omega, by omega⟩ (fun h23 => ?_) (fun h23 => ?_)
        · have h23 : y42_3 ≥ v4 := h23
          show w_W _ _ _ (71, [(0, .ref 12), (1, .int (Int32.ofInt (p))), (2, .int (Int32.ofInt (kd))), (3, .int (Int32.ofInt (y42_3)))], [], M_42) _
          refine w_adv (n := 1) (F' := (72, [(0, .ref 12), (1, .int (Int32.ofInt (p))), (2, .int (Int32.ofInt (kd))), (3, .int (Int32.ofInt (y42_3)))], [.ref 12], M_42)) rfl ?_
          refine w_gf (v := .ref 3) hR_42 rfl rfl rfl rfl ?_
          refine w_adv (n := 1) (F' := (76, [(0, .ref 12), (1, .int (Int32.ofInt (p))), (2, .int (Int32.ofInt (kd))), (3, .int (Int32.ofInt (y42_3)))], [.int (Int32.ofInt (kd)), .ref 3], M_42)) rfl ?_
          refine w_call (cm := 19) (as := [(0, .ref 3), (1, .int (Int32.ofInt (kd)))]) (rest := []) (o := some (3, 3)) rfl (w_fitR hR_42 rfl) (c_settle (kd) hR_42 (show 3 ≤ d by omega) ⟨by omega, by omega⟩ (show 36 ≤ (I 200) ∧ (I 200) ≤ 419 ∧ 0 ≤ gi42_202 ∧ gi42_202 ≤ 24 by (repeat' apply And.intro) <;> first | assumption | omega) (show ∀ i, (A 5) i ≤ 24 by exact hLN)) (fun r24 M25 q26 => ?_)
          rcases q26 with ⟨v27, I26a, A26a, B26a, C26a, e28, ⟨r29, r30⟩, hR26a, f31, f32, f33, f34⟩
          rw [e28]
          replace hR26a : w_Rep w_TC fr X u l I26a A26a B26a C26a M25 := hR26a
          replace f31 : c_fr c_ts c_ta (w_up (w_up I 776 (v4)) 202 (gi42_202)) (w_upF A 4 ga42_4) I26a A26a := f31
          replace f32 : 36 ≤ (I26a 200) ∧ (I26a 200) ≤ 419 ∧ 0 ≤ (I26a 202) ∧ (I26a 202) ≤ 24 := f32
          obtain ⟨n35, n36, n37, n38⟩ := id f32
          clear f32
          replace f33 : ∀ i, (A26a 5) i ≤ 24 := f33
          replace f34 : (I26a 773) = (I 773) ∧ (I26a 65) = (I 65) := f34
          obtain ⟨n39, n40⟩ := id f34
          clear f34
          show w_W _ _ _ (79, [(0, .ref 12), (1, .int (Int32.ofInt (p))), (2, .int (Int32.ofInt (kd))), (3, .int (Int32.ofInt (y42_3)))], [.int (Int32.ofInt (v27))], M25) _
          refine w_adv (n := 3) (F' := (82, [(3, .int (Int32.ofInt (v27))), (0, .ref 12), (1, .int (Int32.ofInt (p))), (2, .int (Int32.ofInt (kd)))], [.int (Int32.ofInt ((-1))), .int (Int32.ofInt (v27))], M25)) rfl ?_
          refine w_br2 (a := v27) (b := (-1)) rfl rfl ⟨by omega, by omega⟩ ⟨by omega, by omega⟩ (fun h41 => ?_) (fun h41 => ?_)
          · have h41 : ¬ v27 = (-1) := h41
            show w_W _ _ _ (100, [(3, .int (Int32.ofInt (v27))), (0, .ref 12), (1, .int (Int32.ofInt (p))), (2, .int (Int32.ofInt (kd)))], [], M25) _
            refine w_adv (n := 2) (F' := (102, [(3, .int (Int32.ofInt (v27))), (0, .ref 12), (1, .int (Int32.ofInt (p))), (2, .int (Int32.ofInt (kd)))], [.ref 12, .ref 12], M25)) rfl ?_
            refine w_gf (v := .ref 3) hR26a rfl rfl rfl rfl ?_
            refine w_adv (n := 1) (F' := (106, [(3, .int (Int32.ofInt (v27))), (0, .ref 12), (1, .int (Int32.ofInt (p))), (2, .int (Int32.ofInt (kd)))], [.int (Int32.ofInt (v27)), .ref 3, .ref 12], M25)) rfl ?_
            refine w_call (cm := 53) (as := [(0, .ref 3), (1, .int (Int32.ofInt (v27)))]) (rest := [.ref 12]) (o := some (3, 3)) rfl (w_fitR hR26a rfl) (c_kindOf (v27) hR26a (show 1 ≤ d by omega) ⟨by omega, by omega⟩) (fun r42 M43 q44 => ?_)
            rcases q44 with ⟨v45, e46, ⟨r47, r48⟩, e49⟩
            rw [e46, e49]
            show w_W _ _ _ (109, [(3, .int (Int32.ofInt (v27))), (0, .ref 12), (1, .int (Int32.ofInt (p))), (2, .int (Int32.ofInt (kd)))], [.int (Int32.ofInt (v45)), .ref 12], M25) _
            refine w_adv (n := 3) (F' := (112, [(3, .int (Int32.ofInt (v27))), (0, .ref 12), (1, .int (Int32.ofInt (p))), (2, .int (Int32.ofInt (kd)))], [.int (Int32.ofInt (1)), .int (Int32.ofInt (kd)), .int (Int32.ofInt (p)), .int (Int32.ofInt (v45)), .ref 12], M25)) rfl ?_
            refine w_br2 (a := kd) (b := 1) rfl rfl ⟨by omega, by omega⟩ ⟨by omega, by omega⟩ (fun h50 => ?_) (fun h50 => ?_)
            · have h50 : ¬ kd = 1 := h50
              show w_W _ _ _ (126, [(3, .int (Int32.ofInt (v27))), (0, .ref 12), (1, .int (Int32.ofInt (p))), (2, .int (Int32.ofInt (kd)))], [.int (Int32.ofInt (p)), .int (Int32.ofInt (v45)), .ref 12], M25) _
              refine w_adv (n := 1) (F' := (127, [(3, .int (Int32.ofInt (v27))), (0, .ref 12), (1, .int (Int32.ofInt (p))), (2, .int (Int32.ofInt (kd)))], [.int (Int32.ofInt (v27)), .int (Int32.ofInt (p)), .int (Int32.ofInt (v45)), .ref 12], M25)) rfl ?_
              refine w_call (cm := 52) (as := [(0, .ref 12), (1, .int (Int32.ofInt (v45))), (2, .int (Int32.ofInt (p))), (3, .int (Int32.ofInt (v27)))]) (rest := []) (o := some (7, 12)) rfl (w_fitR hR26a rfl) (c_Tokens_add (v45) (p) (v27) hR26a (show 1 ≤ d by omega) ⟨by omega, by omega⟩ ⟨by omega, by omega⟩ ⟨by omega, by omega⟩ (show 0 ≤ (I26a 773) ∧ (I26a 773) ≤ 1501 by first | assumption | omega)) (fun r51 M52 q53 => ?_)
              rcases q53 with ⟨g1354, g1455, g1556, e57, hR53a⟩
              rw [e57]
              replace hR53a : w_Rep w_TC fr X u l (w_up I26a 773 ((I26a 773) + 1)) (w_upF (w_upF (w_upF A26a 13 g1354) 14 g1455) 15 g1556) B26a C26a M52 := hR53a
              show w_W _ _ _ (130, [(3, .int (Int32.ofInt (v27))), (0, .ref 12), (1, .int (Int32.ofInt (p))), (2, .int (Int32.ofInt (kd)))], [], M52) _
              refine w_fin (r := .inl none) (M' := M52) rfl ?_
              exact ⟨(w_up I26a 773 ((I26a 773) + 1)), (w_upF (w_upF (w_upF A26a 13 g1354) 14 g1455) 15 g1556), B26a, C26a, rfl, hR53a, (show c_fr c_ts c_ta I A (w_up I26a 773 ((I26a 773) + 1)) (w_upF (w_upF (w_upF A26a 13 g1354) 14 g1455) 15 g1556) by exact (c_fr_upF (c_fr_upF (c_fr_upF (c_fr_up (c_fr_trans (c_fr_upF (c_fr_up (c_fr_up c_fr_refl rfl) rfl) rfl) f31) rfl) rfl) rfl) rfl)), (show 36 ≤ (I26a 200) ∧ (I26a 200) ≤ 419 ∧ 0 ≤ (I26a 202) ∧ (I26a 202) ≤ 24 by (repeat' apply And.intro) <;> first | assumption | omega), (show ∀ i, (A26a 5) i ≤ 24 by exact f33), (show (I26a 773) + 1 = (I 773) + 1 ∧ (I26a 65) = (I 65) by (repeat' apply And.intro) <;> first | assumption | omega)⟩
            · have h50 : ¬ (¬ kd = 1) := h50
              show w_W _ _ _ (115, [(3, .int (Int32.ofInt (v27))), (0, .ref 12), (1, .int (Int32.ofInt (p))), (2, .int (Int32.ofInt (kd)))], [.int (Int32.ofInt (p)), .int (Int32.ofInt (v45)), .ref 12], M25) _
              refine w_adv (n := 1) (F' := (116, [(3, .int (Int32.ofInt (v27))), (0, .ref 12), (1, .int (Int32.ofInt (p))), (2, .int (Int32.ofInt (kd)))], [.ref 12, .int (Int32.ofInt (p)), .int (Int32.ofInt (v45)), .ref 12], M25)) rfl ?_
              refine w_gf (v := .ref 3) hR26a rfl rfl rfl rfl ?_
              refine w_adv (n := 1) (F' := (120, [(3, .int (Int32.ofInt (v27))), (0, .ref 12), (1, .int (Int32.ofInt (p))), (2, .int (Int32.ofInt (kd)))], [.int (Int32.ofInt (v27)), .ref 3, .int (Int32.ofInt (p)), .int (Int32.ofInt (v45)), .ref 12], M25)) rfl ?_
              refine w_call (cm := 54) (as := [(0, .ref 3), (1, .int (Int32.ofInt (v27)))]) (rest := [.int (Int32.ofInt (p)), .int (Int32.ofInt (v45)), .ref 12]) (o := some (3, 3)) rfl (w_fitR hR26a rfl) (c_atomOf (v27) hR26a (show 1 ≤ d by omega) ⟨by omega, by omega⟩) (fun r58 M59 q60 => ?_)
              rcases q60 with ⟨v61, e62, ⟨r63, r64⟩, e65⟩
              rw [e62, e65]
              show w_W _ _ _ (123, [(3, .int (Int32.ofInt (v27))), (0, .ref 12), (1, .int (Int32.ofInt (p))), (2, .int (Int32.ofInt (kd)))], [.int (Int32.ofInt (v61)), .int (Int32.ofInt (p)), .int (Int32.ofInt (v45)), .ref 12], M25) _
              refine w_adv (n := 1) (F' := (127, [(3, .int (Int32.ofInt (v27))), (0, .ref 12), (1, .int (Int32.ofInt (p))), (2, .int (Int32.ofInt (kd)))], [.int (Int32.ofInt (v61)), .int (Int32.ofInt (p)), .int (Int32.ofInt (v45)), .ref 12], M25)) rfl ?_
              refine w_call (cm := 52) (as := [(0, .ref 12), (1, .int (Int32.ofInt (v45))), (2, .int (Int32.ofInt (p))), (3, .int (Int32.ofInt (v61)))]) (rest := []) (o := some (7, 12)) rfl (w_fitR hR26a rfl) (c_Tokens_add (v45) (p) (v61) hR26a (show 1 ≤ d by omega) ⟨by omega, by omega⟩ ⟨by omega, by omega⟩ ⟨by omega, by omega⟩ (show 0 ≤ (I26a 773) ∧ (I26a 773) ≤ 1501 by first | assumption | omega)) (fun r66 M67 q68 => ?_)
              rcases q68 with ⟨g1369, g1470, g1571, e72, hR68a⟩
              rw [e72]
              replace hR68a : w_Rep w_TC fr X u l (w_up I26a 773 ((I26a 773) + 1)) (w_upF (w_upF (w_upF A26a 13 g1369) 14 g1470) 15 g1571) B26a C26a M67 := hR68a
              show w_W _ _ _ (130, [(3, .int (Int32.ofInt (v27))), (0, .ref 12), (1, .int (Int32.ofInt (p))), (2, .int (Int32.ofInt (kd)))], [], M67) _
              refine w_fin (r := .inl none) (M' := M67) rfl ?_
              exact ⟨(w_up I26a 773 ((I26a 773) + 1)), (w_upF (w_upF (w_upF A26a 13 g1369) 14 g1470) 15 g1571), B26a, C26a, rfl, hR68a, (show c_fr c_ts c_ta I A (w_up I26a 773 ((I26a 773) + 1)) (w_upF (w_upF (w_upF A26a 13 g1369) 14 g1470) 15 g1571) by exact (c_fr_upF (c_fr_upF (c_fr_upF (c_fr_up (c_fr_trans (c_fr_upF (c_fr_up (c_fr_up c_fr_refl rfl) rfl) rfl) f31) rfl) rfl) rfl) rfl)), (show 36 ≤ (I26a 200) ∧ (I26a 200) ≤ 419 ∧ 0 ≤ (I26a 202) ∧ (I26a 202) ≤ 24 by (repeat' apply And.intro) <;> first | assumption | omega), (show ∀ i, (A26a 5) i ≤ 24 by exact f33), (show (I26a 773) + 1 = (I 773) + 1 ∧ (I26a 65) = (I 65) by (repeat' apply And.intro) <;> first | assumption | omega)⟩
          · have h41 : ¬ (¬ v27 = (-1)) := h41
            show w_W _ _ _ (85, [(3, .int (Int32.ofInt (v27))), (0, .ref 12), (1, .int (Int32.ofInt (p))), (2, .int (Int32.ofInt (kd)))], [], M25) _
            refine w_adv (n := 2) (F' := (87, [(3, .int (Int32.ofInt (v27))), (0, .ref 12), (1, .int (Int32.ofInt (p))), (2, .int (Int32.ofInt (kd)))], [.int (Int32.ofInt (5)), .ref 12], M25)) rfl ?_
            refine w_pf hR26a rfl rfl rfl rfl (show w_in (5) from ⟨by omega, by omega⟩) (fun h => absurd h (by decide)) (fun M73 hR74 => ?_)
            replace hR74 : w_Rep w_TC fr X u l (w_up I26a 775 (5)) A26a B26a C26a M73 := hR74
            refine w_adv (n := 4) (F' := (94, [(3, .int (Int32.ofInt (v27))), (0, .ref 12), (1, .int (Int32.ofInt (p))), (2, .int (Int32.ofInt (kd)))], [.int (Int32.ofInt ((-1))), .int (Int32.ofInt (p)), .int (Int32.ofInt (kd)), .ref 12], M73)) rfl ?_
            refine w_call (cm := 52) (as := [(0, .ref 12), (1, .int (Int32.ofInt (kd))), (2, .int (Int32.ofInt (p))), (3, .int (Int32.ofInt ((-1))))]) (rest := []) (o := some (7, 12)) rfl (w_fitR hR74 rfl) (c_Tokens_add (kd) (p) ((-1)) hR74 (show 1 ≤ d by omega) ⟨by omega, by omega⟩ ⟨by omega, by omega⟩ ⟨by omega, by omega⟩ (show 0 ≤ (I26a 773) ∧ (I26a 773) ≤ 1501 by first | assumption | omega)) (fun r75 M76 q77 => ?_)
            rcases q77 with ⟨g1378, g1479, g1580, e81, hR77a⟩
            rw [e81]
            replace hR77a : w_Rep w_TC fr X u l (w_up (w_up I26a 775 (5)) 773 ((I26a 773) + 1)) (w_upF (w_upF (w_upF A26a 13 g1378) 14 g1479) 15 g1580) B26a C26a M76 := hR77a
            show w_W _ _ _ (97, [(3, .int (Int32.ofInt (v27))), (0, .ref 12), (1, .int (Int32.ofInt (p))), (2, .int (Int32.ofInt (kd)))], [], M76) _
            refine w_adv (n := 1) (F' := (130, [(3, .int (Int32.ofInt (v27))), (0, .ref 12), (1, .int (Int32.ofInt (p))), (2, .int (Int32.ofInt (kd)))], [], M76)) rfl ?_
            refine w_fin (r := .inl none) (M' := M76) rfl ?_
            exact ⟨(w_up (w_up I26a 775 (5)) 773 ((I26a 773) + 1)), (w_upF (w_upF (w_upF A26a 13 g1378) 14 g1479) 15 g1580), B26a, C26a, rfl, hR77a, (show c_fr c_ts c_ta I A (w_up (w_up I26a 775 (5)) 773 ((I26a 773) + 1)) (w_upF (w_upF (w_upF A26a 13 g1378) 14 g1479) 15 g1580) by exact (c_fr_upF (c_fr_upF (c_fr_upF (c_fr_up (c_fr_up (c_fr_trans (c_fr_upF (c_fr_up (c_fr_up c_fr_refl rfl) rfl) rfl) f31) rfl) rfl) rfl) rfl) rfl)), (show 36 ≤ (I26a 200) ∧ (I26a 200) ≤ 419 ∧ 0 ≤ (I26a 202) ∧ (I26a 202) ≤ 24 by (repeat' apply And.intro) <;> first | assumption | omega), (show ∀ i, (A26a 5) i ≤ 24 by exact f33), (show (I26a 773) + 1 = (I 773) + 1 ∧ (I26a 65) = (I 65) by (repeat' apply And.intro) <;> first | assumption | omega)⟩
        · have h23 : ¬ (y42_3 ≥ v4) := h23
          show w_W _ _ _ (50, [(0, .ref 12), (1, .int (Int32.ofInt (p))), (2, .int (Int32.ofInt (kd))), (3, .int (Int32.ofInt (y42_3)))], [], M_42) _
          refine w_adv (n := 1) (F' := (51, [(0, .ref 12), (1, .int (Int32.ofInt (p))), (2, .int (Int32.ofInt (kd))), (3, .int (Int32.ofInt (y42_3)))], [.ref 12], M_42)) rfl ?_
          refine w_gf (v := .ref 3) hR_42 rfl rfl rfl rfl ?_
          refine w_adv (n := 1) (F' := (55, [(0, .ref 12), (1, .int (Int32.ofInt (p))), (2, .int (Int32.ofInt (kd))), (3, .int (Int32.ofInt (y42_3)))], [.ref 12, .ref 3], M_42)) rfl ?_
          refine w_gf (v := .ref 1) hR_42 rfl rfl rfl rfl ?_
          refine w_adv (n := 1) (F' := (59, [(0, .ref 12), (1, .int (Int32.ofInt (p))), (2, .int (Int32.ofInt (kd))), (3, .int (Int32.ofInt (y42_3)))], [.int (Int32.ofInt (y42_3)), .ref 1, .ref 3], M_42)) rfl ?_
          refine w_call (cm := 46) (as := [(0, .ref 1), (1, .int (Int32.ofInt (y42_3)))]) (rest := [.ref 3]) (o := some (6, 1)) rfl (w_fitR hR_42 rfl) (c_byteAt (y42_3) hR_42 (show 1 ≤ d by omega) ⟨by omega, by omega⟩) (fun r82 M83 q84 => ?_)
          rcases q84 with ⟨v85, e86, ⟨r87, r88⟩, e89⟩
          rw [e86, e89]
          show w_W _ _ _ (62, [(0, .ref 12), (1, .int (Int32.ofInt (p))), (2, .int (Int32.ofInt (kd))), (3, .int (Int32.ofInt (y42_3)))], [.int (Int32.ofInt (v85)), .ref 3], M_42) _
          refine w_call (cm := 26) (as := [(0, .ref 3), (1, .int (Int32.ofInt (v85)))]) (rest := []) (o := some (3, 3)) rfl (w_fitR hR_42 rfl) (c_tryByte (v85) hR_42 ⟨by omega, by omega⟩ (show 36 ≤ (I 200) ∧ (I 200) ≤ 419 ∧ 0 ≤ gi42_202 ∧ gi42_202 ≤ 24 by (repeat' apply And.intro) <;> first | assumption | omega)) (fun r90 M91 q92 => ?_)
          rcases q92 with ⟨gb93, zt94, e95, hR92a, f96⟩
          rw [e95]
          replace hR92a : w_Rep w_TC fr X u l (w_up (w_up I 776 (v4)) 202 (zt94)) (w_upF (w_upF A 4 ga42_4) 4 gb93) B C M91 := w_Rep.up hR92a (show (w_up (w_up I 776 (v4)) 202 (zt94)) = _ from (funext fun s => if e0 : s = 202 then (by subst e0; rfl) else if e1 : s = 776 then (by subst e1; rfl) else (by simp only [w_up_ne e0, w_up_ne e1]))) rfl
          replace f96 : 0 ≤ zt94 ∧ zt94 ≤ 24 := f96
          obtain ⟨n97, n98⟩ := id f96
          clear f96
          show w_W _ _ _ (65, [(0, .ref 12), (1, .int (Int32.ofInt (p))), (2, .int (Int32.ofInt (kd))), (3, .int (Int32.ofInt (y42_3)))], [], M91) _
          refine w_inc (nL := 4) (a := y42_3) rfl rfl rfl (by decide) ?_
          refine w_adv (n := 1) (F' := (42, [(3, .int (Int32.ofInt (y42_3 + 1))), (0, .ref 12), (1, .int (Int32.ofInt (p))), (2, .int (Int32.ofInt (kd)))], [], M91)) rfl ?_
          refine w_ls (ls := [(0, .ref 12), (1, .int (Int32.ofInt (p))), (2, .int (Int32.ofInt (kd))), (3, .int (Int32.ofInt (y42_3 + 1)))]) (show List.Nodup [0, 1, 2, 3] by decide) (show List.Nodup [3, 0, 1, 2] by decide) (List.forall_mem_cons.mpr ⟨(List.Mem.tail _ (List.Mem.head _)), (List.forall_mem_cons.mpr ⟨(List.Mem.tail _ (List.Mem.tail _ (List.Mem.head _))), (List.forall_mem_cons.mpr ⟨(List.Mem.tail _ (List.Mem.tail _ (List.Mem.tail _ (List.Mem.head _)))), (List.forall_mem_cons.mpr ⟨(List.Mem.head _), (fun _ h => by cases h)⟩)⟩)⟩)⟩) ?_
          exact ih42  (y42_3 + 1) (gb93) (zt94) M91 (w_Rep.up hR92a (show (w_up (w_up I 776 (v4)) 202 (zt94)) = (w_up (w_up I 776 (v4)) 202 (zt94)) from rfl) (show (w_upF A 4 gb93) = (w_upF (w_upF A 4 ga42_4) 4 gb93) from (funext fun s => if e0 : s = 4 then (by subst e0; rfl) else (by simp only [w_upF_ne e0])))) ⟨by omega, by omega⟩ (show 0 ≤ zt94 ∧ zt94 ≤ 24 by omega) (show (if (y42_3 + 1) < v4 then v4 - (y42_3 + 1) else 0) < (fu42 : Int) by omega)
    refine w_ls (ls := [(0, .ref 12), (1, .int (Int32.ofInt (p))), (2, .int (Int32.ofInt (kd))), (3, .int (Int32.ofInt (p)))]) (show List.Nodup [0, 1, 2, 3] by decide) (show List.Nodup [3, 0, 1, 2] by decide) (List.forall_mem_cons.mpr ⟨(List.Mem.tail _ (List.Mem.head _)), (List.forall_mem_cons.mpr ⟨(List.Mem.tail _ (List.Mem.tail _ (List.Mem.head _))), (List.forall_mem_cons.mpr ⟨(List.Mem.tail _ (List.Mem.tail _ (List.Mem.tail _ (List.Mem.head _)))), (List.forall_mem_cons.mpr ⟨(List.Mem.head _), (fun _ h => by cases h)⟩)⟩)⟩)⟩) ?_
    exact lp42 (((if p < v4 then v4 - p else 0) : Int).toNat + 1)  (p) ((A 4)) (0) M18 (w_Rep.up hR19a (show (w_up (w_up I 776 (v4)) 202 (0)) = (w_up (w_up I 776 (v4)) 202 (0)) from rfl) (show (w_upF A 4 (A 4)) = A from (funext fun s => if e0 : s = 4 then (by subst e0; rfl) else (by simp only [w_upF_ne e0])))) ⟨by omega, by omega⟩ (show 0 ≤ 0 ∧ 0 ≤ 24 by omega) (show (if p < v4 then v4 - p else 0) < ((((if p < v4 then v4 - p else 0) : Int).toNat + 1 : Nat) : Int) by omega)
  · have h16 : ¬ (x13 ≤ 24) := h16
    show w_W _ _ _ (20, [(0, .ref 12), (1, .int (Int32.ofInt (p))), (2, .int (Int32.ofInt (kd)))], [], M9) _
    refine w_adv (n := 2) (F' := (22, [(0, .ref 12), (1, .int (Int32.ofInt (p))), (2, .int (Int32.ofInt (kd)))], [.int (Int32.ofInt (2)), .ref 12], M9)) rfl ?_
    refine w_pf hR10 rfl rfl rfl rfl (show w_in (2) from ⟨by omega, by omega⟩) (fun h => absurd h (by decide)) (fun M99 hR100 => ?_)
    replace hR100 : w_Rep w_TC fr X u l (w_up (w_up I 776 (v4)) 775 (2)) A B C M99 := hR100
    refine w_adv (n := 4) (F' := (29, [(0, .ref 12), (1, .int (Int32.ofInt (p))), (2, .int (Int32.ofInt (kd)))], [.int (Int32.ofInt ((-1))), .int (Int32.ofInt (p)), .int (Int32.ofInt (kd)), .ref 12], M99)) rfl ?_
    refine w_call (cm := 52) (as := [(0, .ref 12), (1, .int (Int32.ofInt (kd))), (2, .int (Int32.ofInt (p))), (3, .int (Int32.ofInt ((-1))))]) (rest := []) (o := some (7, 12)) rfl (w_fitR hR100 rfl) (c_Tokens_add (kd) (p) ((-1)) hR100 (show 1 ≤ d by omega) ⟨by omega, by omega⟩ ⟨by omega, by omega⟩ ⟨by omega, by omega⟩ (show 0 ≤ (I 773) ∧ (I 773) ≤ 1501 by first | assumption | omega)) (fun r101 M102 q103 => ?_)
    rcases q103 with ⟨g13104, g14105, g15106, e107, hR103a⟩
    rw [e107]
    replace hR103a : w_Rep w_TC fr X u l (w_up (w_up (w_up I 776 (v4)) 775 (2)) 773 ((I 773) + 1)) (w_upF (w_upF (w_upF A 13 g13104) 14 g14105) 15 g15106) B C M102 := hR103a
    show w_W _ _ _ (32, [(0, .ref 12), (1, .int (Int32.ofInt (p))), (2, .int (Int32.ofInt (kd)))], [], M102) _
    refine w_fin (r := .inl none) (M' := M102) rfl ?_
    exact ⟨(w_up (w_up (w_up I 776 (v4)) 775 (2)) 773 ((I 773) + 1)), (w_upF (w_upF (w_upF A 13 g13104) 14 g14105) 15 g15106), B, C, rfl, hR103a, (show c_fr c_ts c_ta I A (w_up (w_up (w_up I 776 (v4)) 775 (2)) 773 ((I 773) + 1)) (w_upF (w_upF (w_upF A 13 g13104) 14 g14105) 15 g15106) by exact (c_fr_upF (c_fr_upF (c_fr_upF (c_fr_up (c_fr_up (c_fr_up c_fr_refl rfl) rfl) rfl) rfl) rfl) rfl)), (show 36 ≤ (I 200) ∧ (I 200) ≤ 419 ∧ 0 ≤ (I 202) ∧ (I 202) ≤ 24 by (repeat' apply And.intro) <;> first | assumption | omega), (show ∀ i, (A 5) i ≤ 24 by exact hLN), (show (I 773) + 1 = (I 773) + 1 ∧ (I 65) = (I 65) by (repeat' apply And.intro) <;> first | assumption | omega)⟩
