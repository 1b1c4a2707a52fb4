/-! TOKENS of the class: one token. -/
def c_name_Q (fr : Nat → Bool) (X : Nat → Option (q_C (Nat → Int32))) (u l : Nat) (I : Nat → Int) (A : Nat → Int → Int) (B C : Nat → Nat) (M : w_M) (p : Int) (kd : Int) : w_X → w_M → Prop := fun r M' => (∃ (I' : Nat → Int) (A' : Nat → Int → Int) (B' C' : Nat → Nat), (r = .inl none) ∧ (w_Rep w_TC fr X u l I' A' B' C' M') ∧ (c_fr c_ts c_ta I A I' A') ∧ (36 ≤ (I' 200) ∧ (I' 200) ≤ 419 ∧ 0 ≤ (I' 202) ∧ (I' 202) ≤ 24) ∧ (∀ i, (A' 5) i ≤ 24) ∧ ((I' 773) = (I 773) + 1 ∧ (I' 65) = (I 65)))
set_option maxHeartbeats 100000000 in
set_option maxRecDepth 100000 in
theorem c_name {L : Nat} {xs : Nat → Int32} {d : Nat} {fr : Nat → Bool} {X : Nat → Option (q_C (Nat → Int32))} {u l : Nat} {I : Nat → Int} {A : Nat → Int → Int} {B C : Nat → Nat} {M : w_M} (p : Int) (kd : Int) (hR : w_Rep w_TC fr X u l I A B C M) (hd : 5 ≤ d) (r_p : w_in p) (r_kd : w_in kd) (hT : 0 ≤ (I 773) ∧ (I 773) ≤ 1501) (hNM : 36 ≤ (I 200) ∧ (I 200) ≤ 419 ∧ 0 ≤ (I 202) ∧ (I 202) ≤ 24) (hLN : ∀ i, (A 5) i ≤ 24) : w_W (z_P L xs) d 48 (0, [(0, .ref 12), (1, .int (Int32.ofInt (p))), (2, .int (Int32.ofInt (kd)))], [], M) (c_name_Q fr X u l I A B C M p kd) := by
  obtain ⟨ra_p, rb_p⟩ := r_p
  obtain ⟨ra_kd, rb_kd⟩ := r_kd
  obtain ⟨d, rfl⟩ : ∃ d0, d = d0 + 1 := ⟨d - 1, by omega⟩
  refine w_adv (n := 3) (F' := (3, [(0, .ref 12), (1, .int (Int32.ofInt (p))), (2, .int (Int32.ofInt (kd)))], [.int (Int32.ofInt (p)), .ref 12, .ref 12], M)) rfl ?_
  refine w_call (cm := 49) (as := [(0, .ref 12), (1, .int (Int32.ofInt (p)))]) (rest := [.ref 12]) (o := some (7, 12)) rfl (w_fitR hR rfl) (c_pastName (p) hR (show 2 ≤ d by omega) ⟨by omega, by omega⟩) (fun r1 M2 q3 => ?_)
  rcases q3 with ⟨v4, e5, ⟨r6, r7⟩, e8⟩
  rw [e5, e8]
  show w_W _ _ _ (6, [(0, .ref 12), (1, .int (Int32.ofInt (p))), (2, .int (Int32.ofInt (kd)))], [.int (Int32.ofInt (v4)), .ref 12], M) _
  refine w_pf hR rfl rfl rfl rfl (show w_in (v4) from ⟨by omega, by omega⟩) (fun h => absurd h (by decide)) (fun M9 hR10 => ?_)
  replace hR10 : w_Rep w_TC fr X u l (w_up I 776 (v4)) A B C M9 := hR10
  refine w_adv (n := 1) (F' := (10, [(0, .ref 12), (1, .int (Int32.ofInt (p))), (2, .int (Int32.ofInt (kd)))], [.ref 12], M9)) rfl ?_
  refine w_gf (v := .int (Int32.ofInt (v4))) hR10 rfl rfl rfl rfl ?_
  obtain ⟨r11, r12⟩ : -2147483648 ≤ v4 ∧ v4 ≤ 2147483647 := hR10.ri 776
  refine w_adv (n := 1) (F' := (14, [(0, .ref 12), (1, .int (Int32.ofInt (p))), (2, .int (Int32.ofInt (kd)))], [.int (Int32.ofInt (p)), .int (Int32.ofInt (v4))], M9)) rfl ?_
  refine w_sub rfl ?_
  refine w_int (fun x13 r14 e15 => ?_)
  obtain ⟨r14a, r14b⟩ := r14
  clear e15
  refine w_adv (n := 1) (F' := (17, [(0, .ref 12), (1, .int (Int32.ofInt (p))), (2, .int (Int32.ofInt (kd)))], [.int (Int32.ofInt (24)), .int (Int32.ofInt (x13))], M9)) rfl ?_
  refine w_br2 (a := x13) (b := 24) rfl rfl ⟨by omega, by omega⟩ ⟨by omega, by omega⟩ (fun h16 => ?_) (fun h16 => ?_)
  · have h16 : x13 ≤ 24 := h16
    show w_W _ _ _ (33, [(0, .ref 12), (1, .int (Int32.ofInt (p))), (2, .int (Int32.ofInt (kd)))], [], M9) _
    refine w_adv (n := 1) (F' := (34, [(0, .ref 12), (1, .int (Int32.ofInt (p))), (2, .int (Int32.ofInt (kd)))], [.ref 12], M9)) rfl ?_
    refine w_gf (v := .ref 3) hR10 rfl rfl rfl rfl ?_
    refine w_call (cm := 7) (as := [(0, .ref 3)]) (rest := []) (o := some (3, 3)) rfl (w_fitR hR10 rfl) (c_Names_begin hR10) (fun r17 M18 q19 => ?_)
    rcases q19 with ⟨e20, hR19a⟩
    rw [e20]
    replace hR19a : w_Rep w_TC fr X u l (w_up (w_up I 776 (v4)) 202 (0)) A B C M18 := hR19a
    show w_W _ _ _ (40, [(0, .ref 12), (1, .int (Int32.ofInt (p))), (2, .int (Int32.ofInt (kd)))], [], M18) _
    refine w_adv (n := 2) (F' := (42, [(3, .int (Int32.ofInt (p))), (0, .ref 12), (1, .int (Int32.ofInt (p))), (2, .int (Int32.ofInt (kd)))], [], M18)) rfl ?_
    have lp42 : ∀ fu42 : Nat, ∀ (y42_3 : Int) (ga42_4 : Int → Int) (gi42_202 : Int) (M_42 : w_M) (hR_42 : w_Rep w_TC fr X u l (w_up (w_up I 776 (v4)) 202 (gi42_202)) (w_upF A 4 ga42_4) B C M_42), w_in y42_3 → 0 ≤ gi42_202 ∧ gi42_202 ≤ 24 → (if y42_3 < v4 then v4 - y42_3 else 0) < (fu42 : Int) → w_W (z_P L xs) (d + 1) 48 (42, [(0, .ref 12), (1, .int (Int32.ofInt (p))), (2, .int (Int32.ofInt (kd))), (3, .int (Int32.ofInt (y42_3)))], [], M_42) (c_name_Q fr X u l I A B C M p kd) := by
      intro fu42
      induction fu42 with
      | zero =>
        intro y42_3 ga42_4 gi42_202 M_42 hR_42 ⟨ra_y42_3, rb_y42_3⟩ hi42_0 hn42
        exfalso
        omega
      | succ fu42 ih42 =>
        intro y42_3 ga42_4 gi42_202 M_42 hR_42 ⟨ra_y42_3, rb_y42_3⟩ hi42_0 hn42
        refine w_adv (n := 2) (F' := (44, [(0, .ref 12), (1, .int (Int32.ofInt (p))), (2, .int (Int32.ofInt (kd))), (3, .int (Int32.ofInt (y42_3)))], [.ref 12, .int (Int32.ofInt (y42_3))], M_42)) rfl ?_
        refine w_gf (v := .int (Int32.ofInt (v4))) hR_42 rfl rfl rfl rfl ?_
        obtain ⟨r21, r22⟩ : -2147483648 ≤ v4 ∧ v4 ≤ 2147483647 := hR_42.ri 776
        refine w_br2 (a := y42_3) (b := v4) rfl rfl ⟨by omega, by omega⟩ ⟨by omega, by omega⟩ (fun h23 => ?_) (fun h23 => ?_)
        · have h23 : y42_3 ≥ v4 := h23
          show w_W _ _ _ (71, [(0, .ref 12), (1, .int (Int32.ofInt (p))), (2, .int (Int32.ofInt (kd))), (3, .int (Int32.ofInt (y42_3)))], [], M_42) _
          refine w_adv (n := 1) (F' := (72, [(0, .ref 12), (1, .int (Int32.ofInt (p))), (2, .int (Int32.ofInt (kd))), (3, .int (Int32.ofInt (y42_3)))], [.ref 12], M_42)) rfl ?_
          refine w_gf (v := .ref 3) hR_42 rfl rfl rfl rfl ?_
          refine w_adv (n := 1) (F' := (76, [(0, .ref 12), (1, .int (Int32.ofInt (p))), (2, .int (Int32.ofInt (kd))), (3, .int (Int32.ofInt (y42_3)))], [.int (Int32.ofInt (kd)), .ref 3], M_42)) rfl ?_
          refine w_call (cm := 19) (as := [(0, .ref 3), (1, .int (Int32.ofInt (kd)))]) (rest := []) (o := some (3, 3)) rfl (w_fitR hR_42 rfl) (c_settle (kd) hR_42 (show 3 ≤ d by omega) ⟨by omega, by omega⟩ (show 36 ≤ (I 200) ∧ (I 200) ≤ 419 ∧ 0 ≤ gi42_202 ∧ gi42_202 ≤ 24 by (repeat' apply And.intro) <;> first | assumption | omega) (show ∀ i, (A 5) i ≤ 24 by exact hLN)) (fun r24 M25 q26 => ?_)
          rcases q26 with ⟨v27, I26a, A26a, B26a, C26a, e28, ⟨r29, r30⟩, hR26a, f31, f32, f33⟩
          rw [e28]
          replace hR26a : w_Rep w_TC fr X u l I26a A26a B26a C26a M25 := hR26a
          replace f31 : c_fr c_ts c_ta (w_up (w_up I 776 (v4)) 202 (gi42_202)) (w_upF A 4 ga42_4) I26a A26a := f31
          replace f32 : 36 ≤ (I26a 200) ∧ (I26a 200) ≤ 419 ∧ 0 ≤ (I26a 202) ∧ (I26a 202) ≤ 24 := f32
          obtain ⟨n34, n35, n36, n37⟩ := id f32
          clear f32
          replace f33 : ∀ i, (A26a 5) i ≤ 24 := f33
          show w_W _ _ _ (79, [(0, .ref 12), (1, .int (Int32.ofInt (p))), (2, .int (Int32.ofInt (kd))), (3, .int (Int32.ofInt (y42_3)))], [.int (Int32.ofInt (v27))], M25) _
          refine w_adv (n := 3) (F' := (82, [(3, .int (Int32.ofInt (v27))), (0, .ref 12), (1, .int (Int32.ofInt (p))), (2, .int (Int32.ofInt (kd)))], [.int (Int32.ofInt ((-1))), .int (Int32.ofInt (v27))], M25)) rfl ?_
          refine w_br2 (a := v27) (b := (-1)) rfl rfl ⟨by omega, by omega⟩ ⟨by omega, by omega⟩ (fun h38 => ?_) (fun h38 => ?_)
          · have h38 : ¬ v27 = (-1) := h38
            show w_W _ _ _ (100, [(3, .int (Int32.ofInt (v27))), (0, .ref 12), (1, .int (Int32.ofInt (p))), (2, .int (Int32.ofInt (kd)))], [], M25) _
            refine w_adv (n := 2) (F' := (102, [(3, .int (Int32.ofInt (v27))), (0, .ref 12), (1, .int (Int32.ofInt (p))), (2, .int (Int32.ofInt (kd)))], [.ref 12, .ref 12], M25)) rfl ?_
            refine w_gf (v := .ref 3) hR26a rfl rfl rfl rfl ?_
            refine w_adv (n := 1) (F' := (106, [(3, .int (Int32.ofInt (v27))), (0, .ref 12), (1, .int (Int32.ofInt (p))), (2, .int (Int32.ofInt (kd)))], [.int (Int32.ofInt (v27)), .ref 3, .ref 12], M25)) rfl ?_
            refine w_call (cm := 53) (as := [(0, .ref 3), (1, .int (Int32.ofInt (v27)))]) (rest := [.ref 12]) (o := some (3, 3)) rfl (w_fitR hR26a rfl) (c_kindOf (v27) hR26a (show 1 ≤ d by omega) ⟨by omega, by omega⟩) (fun r39 M40 q41 => ?_)
            rcases q41 with ⟨v42, e43, ⟨r44, r45⟩, e46⟩
            rw [e43, e46]
            show w_W _ _ _ (109, [(3, .int (Int32.ofInt (v27))), (0, .ref 12), (1, .int (Int32.ofInt (p))), (2, .int (Int32.ofInt (kd)))], [.int (Int32.ofInt (v42)), .ref 12], M25) _
            refine w_adv (n := 3) (F' := (112, [(3, .int (Int32.ofInt (v27))), (0, .ref 12), (1, .int (Int32.ofInt (p))), (2, .int (Int32.ofInt (kd)))], [.int (Int32.ofInt (1)), .int (Int32.ofInt (kd)), .int (Int32.ofInt (p)), .int (Int32.ofInt (v42)), .ref 12], M25)) rfl ?_
            refine w_br2 (a := kd) (b := 1) rfl rfl ⟨by omega, by omega⟩ ⟨by omega, by omega⟩ (fun h47 => ?_) (fun h47 => ?_)
            · have h47 : ¬ kd = 1 := h47
              show w_W _ _ _ (126, [(3, .int (Int32.ofInt (v27))), (0, .ref 12), (1, .int (Int32.ofInt (p))), (2, .int (Int32.ofInt (kd)))], [.int (Int32.ofInt (p)), .int (Int32.ofInt (v42)), .ref 12], M25) _
              refine w_adv (n := 1) (F' := (127, [(3, .int (Int32.ofInt (v27))), (0, .ref 12), (1, .int (Int32.ofInt (p))), (2, .int (Int32.ofInt (kd)))], [.int (Int32.ofInt (v27)), .int (Int32.ofInt (p)), .int (Int32.ofInt (v42)), .ref 12], M25)) rfl ?_
              refine w_call (cm := 52) (as := [(0, .ref 12), (1, .int (Int32.ofInt (v42))), (2, .int (Int32.ofInt (p))), (3, .int (Int32.ofInt (v27)))]) (rest := []) (o := some (7, 12)) rfl (w_fitR hR26a rfl) (c_Tokens_add (v42) (p) (v27) hR26a (show 1 ≤ d by omega) ⟨by omega, by omega⟩ ⟨by omega, by omega⟩ ⟨by omega, by omega⟩ (show 0 ≤ (I26a 773) ∧ (I26a 773) ≤ 1501 by first | assumption | omega)) (fun r48 M49 q50 => ?_)
              rcases q50 with ⟨g1351, g1452, g1553, e54, hR50a⟩
              rw [e54]
              replace hR50a : w_Rep w_TC fr X u l (w_up I26a 773 ((I26a 773) + 1)) (w_upF (w_upF (w_upF A26a 13 g1351) 14 g1452) 15 g1553) B26a C26a M49 := hR50a
              show w_W _ _ _ (130, [(3, .int (Int32.ofInt (v27))), (0, .ref 12), (1, .int (Int32.ofInt (p))), (2, .int (Int32.ofInt (kd)))], [], M49) _
              refine w_fin (r := .inl none) (M' := M49) rfl ?_
              exact ⟨(w_up I26a 773 ((I26a 773) + 1)), (w_upF (w_upF (w_upF A26a 13 g1351) 14 g1452) 15 g1553), B26a, C26a, rfl, hR50a, (show c_fr c_ts c_ta I A (w_up I26a 773 ((I26a 773) + 1)) (w_upF (w_upF (w_upF A26a 13 g1351) 14 g1452) 15 g1553) by exact (c_fr_upF (c_fr_upF (c_fr_upF (c_fr_up (c_fr_trans (c_fr_upF (c_fr_up (c_fr_up c_fr_refl rfl) rfl) rfl) f31) rfl) rfl) rfl) rfl)), (show 36 ≤ (I26a 200) ∧ (I26a 200) ≤ 419 ∧ 0 ≤ (I26a 202) ∧ (I26a 202) ≤ 24 by (repeat' apply And.intro) <;> first | assumption | omega), (show ∀ i, (A26a 5) i ≤ 24 by exact f33), (show (I26a 773) + 1 = (I 773) + 1 ∧ (I26a 65) = (I 65) by (repeat' apply And.intro) <;> first | assumption | omega)⟩
            · have h47 : ¬ (¬ kd = 1) := h47
              show w_W _ _ _ (115, [(3, .int (Int32.ofInt (v27))), (0, .ref 12), (1, .int (Int32.ofInt (p))), (2, .int (Int32.ofInt (kd)))], [.int (Int32.ofInt (p)), .int (Int32.ofInt (v42)), .ref 12], M25) _
              refine w_adv (n := 1) (F' := (116, [(3, .int (Int32.ofInt (v27))), (0, .ref 12), (1, .int (Int32.ofInt (p))), (2, .int (Int32.ofInt (kd)))], [.ref 12, .int (Int32.ofInt (p)), .int (Int32.ofInt (v42)), .ref 12], M25)) rfl ?_
              refine w_gf (v := .ref 3) hR26a rfl rfl rfl rfl ?_
              refine w_adv (n := 1) (F' := (120, [(3, .int (Int32.ofInt (v27))), (0, .ref 12), (1, .int (Int32.ofInt (p))), (2, .int (Int32.ofInt (kd)))], [.int (Int32.ofInt (v27)), .ref 3, .int (Int32.ofInt (p)), .int (Int32.ofInt (v42)), .ref 12], M25)) rfl ?_
              refine w_call (cm := 54) (as := [(0, .ref 3), (1, .int (Int32.ofInt (v27)))]) (rest := [.int (Int32.ofInt (p)), .int (Int32.ofInt (v42)), .ref 12]) (o := some (3, 3)) rfl (w_fitR hR26a rfl) (c_atomOf (v27) hR26a (show 1 ≤ d by omega) ⟨by omega, by omega⟩) (fun r55 M56 q57 => ?_)
              rcases q57 with ⟨v58, e59, ⟨r60, r61⟩, e62⟩
              rw [e59, e62]
              show w_W _ _ _ (123, [(3, .int (Int32.ofInt (v27))), (0, .ref 12), (1, .int (Int32.ofInt (p))), (2, .int (Int32.ofInt (kd)))], [.int (Int32.ofInt (v58)), .int (Int32.ofInt (p)), .int (Int32.ofInt (v42)), .ref 12], M25) _
              refine w_adv (n := 1) (F' := (127, [(3, .int (Int32.ofInt (v27))), (0, .ref 12), (1, .int (Int32.ofInt (p))), (2, .int (Int32.ofInt (kd)))], [.int (Int32.ofInt (v58)), .int (Int32.ofInt (p)), .int (Int32.ofInt (v42)), .ref 12], M25)) rfl ?_
              refine w_call (cm := 52) (as := [(0, .ref 12), (1, .int (Int32.ofInt (v42))), (2, .int (Int32.ofInt (p))), (3, .int (Int32.ofInt (v58)))]) (rest := []) (o := some (7, 12)) rfl (w_fitR hR26a rfl) (c_Tokens_add (v42) (p) (v58) hR26a (show 1 ≤ d by omega) ⟨by omega, by omega⟩ ⟨by omega, by omega⟩ ⟨by omega, by omega⟩ (show 0 ≤ (I26a 773) ∧ (I26a 773) ≤ 1501 by first | assumption | omega)) (fun r63 M64 q65 => ?_)
              rcases q65 with ⟨g1366, g1467, g1568, e69, hR65a⟩
              rw [e69]
              replace hR65a : w_Rep w_TC fr X u l (w_up I26a 773 ((I26a 773) + 1)) (w_upF (w_upF (w_upF A26a 13 g1366) 14 g1467) 15 g1568) B26a C26a M64 := hR65a
              show w_W _ _ _ (130, [(3, .int (Int32.ofInt (v27))), (0, .ref 12), (1, .int (Int32.ofInt (p))), (2, .int (Int32.ofInt (kd)))], [], M64) _
              refine w_fin (r := .inl none) (M' := M64) rfl ?_
              exact ⟨(w_up I26a 773 ((I26a 773) + 1)), (w_upF (w_upF (w_upF A26a 13 g1366) 14 g1467) 15 g1568), B26a, C26a, rfl, hR65a, (show c_fr c_ts c_ta I A (w_up I26a 773 ((I26a 773) + 1)) (w_upF (w_upF (w_upF A26a 13 g1366) 14 g1467) 15 g1568) by exact (c_fr_upF (c_fr_upF (c_fr_upF (c_fr_up (c_fr_trans (c_fr_upF (c_fr_up (c_fr_up c_fr_refl rfl) rfl) rfl) f31) rfl) rfl) rfl) rfl)), (show 36 ≤ (I26a 200) ∧ (I26a 200) ≤ 419 ∧ 0 ≤ (I26a 202) ∧ (I26a 202) ≤ 24 by (repeat' apply And.intro) <;> first | assumption | omega), (show ∀ i, (A26a 5) i ≤ 24 by exact f33), (show (I26a 773) + 1 = (I 773) + 1 ∧ (I26a 65) = (I 65) by (repeat' apply And.intro) <;> first | assumption | omega)⟩
          · have h38 : ¬ (¬ v27 = (-1)) := h38
            show w_W _ _ _ (85, [(3, .int (Int32.ofInt (v27))), (0, .ref 12), (1, .int (Int32.ofInt (p))), (2, .int (Int32.ofInt (kd)))], [], M25) _
            refine w_adv (n := 2) (F' := (87, [(3, .int (Int32.ofInt (v27))), (0, .ref 12), (1, .int (Int32.ofInt (p))), (2, .int (Int32.ofInt (kd)))], [.int (Int32.ofInt (5)), .ref 12], M25)) rfl ?_
            refine w_pf hR26a rfl rfl rfl rfl (show w_in (5) from ⟨by omega, by omega⟩) (fun h => absurd h (by decide)) (fun M70 hR71 => ?_)
            replace hR71 : w_Rep w_TC fr X u l (w_up I26a 775 (5)) A26a B26a C26a M70 := hR71
            refine w_adv (n := 4) (F' := (94, [(3, .int (Int32.ofInt (v27))), (0, .ref 12), (1, .int (Int32.ofInt (p))), (2, .int (Int32.ofInt (kd)))], [.int (Int32.ofInt ((-1))), .int (Int32.ofInt (p)), .int (Int32.ofInt (kd)), .ref 12], M70)) rfl ?_
            refine w_call (cm := 52) (as := [(0, .ref 12), (1, .int (Int32.ofInt (kd))), (2, .int (Int32.ofInt (p))), (3, .int (Int32.ofInt ((-1))))]) (rest := []) (o := some (7, 12)) rfl (w_fitR hR71 rfl) (c_Tokens_add (kd) (p) ((-1)) hR71 (show 1 ≤ d by omega) ⟨by omega, by omega⟩ ⟨by omega, by omega⟩ ⟨by omega, by omega⟩ (show 0 ≤ (I26a 773) ∧ (I26a 773) ≤ 1501 by first | assumption | omega)) (fun r72 M73 q74 => ?_)
            rcases q74 with ⟨g1375, g1476, g1577, e78, hR74a⟩
            rw [e78]
            replace hR74a : w_Rep w_TC fr X u l (w_up (w_up I26a 775 (5)) 773 ((I26a 773) + 1)) (w_upF (w_upF (w_upF A26a 13 g1375) 14 g1476) 15 g1577) B26a C26a M73 := hR74a
            show w_W _ _ _ (97, [(3, .int (Int32.ofInt (v27))), (0, .ref 12), (1, .int (Int32.ofInt (p))), (2, .int (Int32.ofInt (kd)))], [], M73) _
            refine w_adv (n := 1) (F' := (130, [(3, .int (Int32.ofInt (v27))), (0, .ref 12), (1, .int (Int32.ofInt (p))), (2, .int (Int32.ofInt (kd)))], [], M73)) rfl ?_
            refine w_fin (r := .inl none) (M' := M73) rfl ?_
            exact ⟨(w_up (w_up I26a 775 (5)) 773 ((I26a 773) + 1)), (w_upF (w_upF (w_upF A26a 13 g1375) 14 g1476) 15 g1577), B26a, C26a, rfl, hR74a, (show c_fr c_ts c_ta I A (w_up (w_up I26a 775 (5)) 773 ((I26a 773) + 1)) (w_upF (w_upF (w_upF A26a 13 g1375) 14 g1476) 15 g1577) by exact (c_fr_upF (c_fr_upF (c_fr_upF (c_fr_up (c_fr_up (c_fr_trans (c_fr_upF (c_fr_up (c_fr_up c_fr_refl rfl) rfl) rfl) f31) rfl) rfl) rfl) rfl) rfl)), (show 36 ≤ (I26a 200) ∧ (I26a 200) ≤ 419 ∧ 0 ≤ (I26a 202) ∧ (I26a 202) ≤ 24 by (repeat' apply And.intro) <;> first | assumption | omega), (show ∀ i, (A26a 5) i ≤ 24 by exact f33), (show (I26a 773) + 1 = (I 773) + 1 ∧ (I26a 65) = (I 65) by (repeat' apply And.intro) <;> first | assumption | omega)⟩
        · have h23 : ¬ (y42_3 ≥ v4) := h23
          show w_W _ _ _ (50, [(0, .ref 12), (1, .int (Int32.ofInt (p))), (2, .int (Int32.ofInt (kd))), (3, .int (Int32.ofInt (y42_3)))], [], M_42) _
          refine w_adv (n := 1) (F' := (51, [(0, .ref 12), (1, .int (Int32.ofInt (p))), (2, .int (Int32.ofInt (kd))), (3, .int (Int32.ofInt (y42_3)))], [.ref 12], M_42)) rfl ?_
          refine w_gf (v := .ref 3) hR_42 rfl rfl rfl rfl ?_
          refine w_adv (n := 1) (F' := (55, [(0, .ref 12), (1, .int (Int32.ofInt (p))), (2, .int (Int32.ofInt (kd))), (3, .int (Int32.ofInt (y42_3)))], [.ref 12, .ref 3], M_42)) rfl ?_
          refine w_gf (v := .ref 1) hR_42 rfl rfl rfl rfl ?_
          refine w_adv (n := 1) (F' := (59, [(0, .ref 12), (1, .int (Int32.ofInt (p))), (2, .int (Int32.ofInt (kd))), (3, .int (Int32.ofInt (y42_3)))], [.int (Int32.ofInt (y42_3)), .ref 1, .ref 3], M_42)) rfl ?_
          refine w_call (cm := 46) (as := [(0, .ref 1), (1, .int (Int32.ofInt (y42_3)))]) (rest := [.ref 3]) (o := some (6, 1)) rfl (w_fitR hR_42 rfl) (c_byteAt (y42_3) hR_42 (show 1 ≤ d by omega) ⟨by omega, by omega⟩) (fun r79 M80 q81 => ?_)
          rcases q81 with ⟨v82, e83, ⟨r84, r85⟩, e86⟩
          rw [e83, e86]
          show w_W _ _ _ (62, [(0, .ref 12), (1, .int (Int32.ofInt (p))), (2, .int (Int32.ofInt (kd))), (3, .int (Int32.ofInt (y42_3)))], [.int (Int32.ofInt (v82)), .ref 3], M_42) _
          refine w_call (cm := 26) (as := [(0, .ref 3), (1, .int (Int32.ofInt (v82)))]) (rest := []) (o := some (3, 3)) rfl (w_fitR hR_42 rfl) (c_tryByte (v82) hR_42 ⟨by omega, by omega⟩ (show 36 ≤ (I 200) ∧ (I 200) ≤ 419 ∧ 0 ≤ gi42_202 ∧ gi42_202 ≤ 24 by (repeat' apply And.intro) <;> first | assumption | omega)) (fun r87 M88 q89 => ?_)
          rcases q89 with ⟨gb90, zt91, e92, hR89a, f93⟩
          rw [e92]
          replace hR89a : w_Rep w_TC fr X u l (w_up (w_up I 776 (v4)) 202 (zt91)) (w_upF (w_upF A 4 ga42_4) 4 gb90) B C M88 := w_Rep.up hR89a (show (w_up (w_up I 776 (v4)) 202 (zt91)) = _ from (funext fun s => if e0 : s = 202 then (by subst e0; rfl) else if e1 : s = 776 then (by subst e1; rfl) else (by simp only [w_up_ne e0, w_up_ne e1]))) rfl
          replace f93 : 0 ≤ zt91 ∧ zt91 ≤ 24 := f93
          obtain ⟨n94, n95⟩ := id f93
          clear f93
          show w_W _ _ _ (65, [(0, .ref 12), (1, .int (Int32.ofInt (p))), (2, .int (Int32.ofInt (kd))), (3, .int (Int32.ofInt (y42_3)))], [], M88) _
          refine w_inc (nL := 4) (a := y42_3) rfl rfl rfl (by decide) ?_
          refine w_adv (n := 1) (F' := (42, [(3, .int (Int32.ofInt (y42_3 + 1))), (0, .ref 12), (1, .int (Int32.ofInt (p))), (2, .int (Int32.ofInt (kd)))], [], M88)) rfl ?_
          refine w_ls (ls := [(0, .ref 12), (1, .int (Int32.ofInt (p))), (2, .int (Int32.ofInt (kd))), (3, .int (Int32.ofInt (y42_3 + 1)))]) (show List.Nodup [0, 1, 2, 3] by decide) (show List.Nodup [3, 0, 1, 2] by decide) (List.forall_mem_cons.mpr ⟨(List.Mem.tail _ (List.Mem.head _)), (List.forall_mem_cons.mpr ⟨(List.Mem.tail _ (List.Mem.tail _ (List.Mem.head _))), (List.forall_mem_cons.mpr ⟨(List.Mem.tail _ (List.Mem.tail _ (List.Mem.tail _ (List.Mem.head _)))), (List.forall_mem_cons.mpr ⟨(List.Mem.head _), (fun _ h => by cases h)⟩)⟩)⟩)⟩) ?_
          exact ih42  (y42_3 + 1) (gb90) (zt91) M88 (w_Rep.up hR89a (show (w_up (w_up I 776 (v4)) 202 (zt91)) = (w_up (w_up I 776 (v4)) 202 (zt91)) from rfl) (show (w_upF A 4 gb90) = (w_upF (w_upF A 4 ga42_4) 4 gb90) from (funext fun s => if e0 : s = 4 then (by subst e0; rfl) else (by simp only [w_upF_ne e0])))) ⟨by omega, by omega⟩ (show 0 ≤ zt91 ∧ zt91 ≤ 24 by omega) (show (if (y42_3 + 1) < v4 then v4 - (y42_3 + 1) else 0) < (fu42 : Int) by omega)
    refine w_ls (ls := [(0, .ref 12), (1, .int (Int32.ofInt (p))), (2, .int (Int32.ofInt (kd))), (3, .int (Int32.ofInt (p)))]) (show List.Nodup [0, 1, 2, 3] by decide) (show List.Nodup [3, 0, 1, 2] by decide) (List.forall_mem_cons.mpr ⟨(List.Mem.tail _ (List.Mem.head _)), (List.forall_mem_cons.mpr ⟨(List.Mem.tail _ (List.Mem.tail _ (List.Mem.head _))), (List.forall_mem_cons.mpr ⟨(List.Mem.tail _ (List.Mem.tail _ (List.Mem.tail _ (List.Mem.head _)))), (List.forall_mem_cons.mpr ⟨(List.Mem.head _), (fun _ h => by cases h)⟩)⟩)⟩)⟩) ?_
    exact lp42 (((if p < v4 then v4 - p else 0) : Int).toNat + 1)  (p) ((A 4)) (0) M18 (w_Rep.up hR19a (show (w_up (w_up I 776 (v4)) 202 (0)) = (w_up (w_up I 776 (v4)) 202 (0)) from rfl) (show (w_upF A 4 (A 4)) = A from (funext fun s => if e0 : s = 4 then (by subst e0; rfl) else (by simp only [w_upF_ne e0])))) ⟨by omega, by omega⟩ (show 0 ≤ 0 ∧ 0 ≤ 24 by omega) (show (if p < v4 then v4 - p else 0) < ((((if p < v4 then v4 - p else 0) : Int).toNat + 1 : Nat) : Int) by omega)
  · have h16 : ¬ (x13 ≤ 24) := h16
    show w_W _ _ _ (20, [(0, .ref 12), (1, .int (Int32.ofInt (p))), (2, .int (Int32.ofInt (kd)))], [], M9) _
    refine w_adv (n := 2) (F' := (22, [(0, .ref 12), (1, .int (Int32.ofInt (p))), (2, .int (Int32.ofInt (kd)))], [.int (Int32.ofInt (2)), .ref 12], M9)) rfl ?_
    refine w_pf hR10 rfl rfl rfl rfl (show w_in (2) from ⟨by omega, by omega⟩) (fun h => absurd h (by decide)) (fun M96 hR97 => ?_)
    replace hR97 : w_Rep w_TC fr X u l (w_up (w_up I 776 (v4)) 775 (2)) A B C M96 := hR97
    refine w_adv (n := 4) (F' := (29, [(0, .ref 12), (1, .int (Int32.ofInt (p))), (2, .int (Int32.ofInt (kd)))], [.int (Int32.ofInt ((-1))), .int (Int32.ofInt (p)), .int (Int32.ofInt (kd)), .ref 12], M96)) rfl ?_
    refine w_call (cm := 52) (as := [(0, .ref 12), (1, .int (Int32.ofInt (kd))), (2, .int (Int32.ofInt (p))), (3, .int (Int32.ofInt ((-1))))]) (rest := []) (o := some (7, 12)) rfl (w_fitR hR97 rfl) (c_Tokens_add (kd) (p) ((-1)) hR97 (show 1 ≤ d by omega) ⟨by omega, by omega⟩ ⟨by omega, by omega⟩ ⟨by omega, by omega⟩ (show 0 ≤ (I 773) ∧ (I 773) ≤ 1501 by first | assumption | omega)) (fun r98 M99 q100 => ?_)
    rcases q100 with ⟨g13101, g14102, g15103, e104, hR100a⟩
    rw [e104]
    replace hR100a : w_Rep w_TC fr X u l (w_up (w_up (w_up I 776 (v4)) 775 (2)) 773 ((I 773) + 1)) (w_upF (w_upF (w_upF A 13 g13101) 14 g14102) 15 g15103) B C M99 := hR100a
    show w_W _ _ _ (32, [(0, .ref 12), (1, .int (Int32.ofInt (p))), (2, .int (Int32.ofInt (kd)))], [], M99) _
    refine w_fin (r := .inl none) (M' := M99) rfl ?_
    exact ⟨(w_up (w_up (w_up I 776 (v4)) 775 (2)) 773 ((I 773) + 1)), (w_upF (w_upF (w_upF A 13 g13101) 14 g14102) 15 g15103), B, C, rfl, hR100a, (show c_fr c_ts c_ta I A (w_up (w_up (w_up I 776 (v4)) 775 (2)) 773 ((I 773) + 1)) (w_upF (w_upF (w_upF A 13 g13101) 14 g14102) 15 g15103) by exact (c_fr_upF (c_fr_upF (c_fr_upF (c_fr_up (c_fr_up (c_fr_up c_fr_refl rfl) rfl) rfl) rfl) rfl) rfl)), (show 36 ≤ (I 200) ∧ (I 200) ≤ 419 ∧ 0 ≤ (I 202) ∧ (I 202) ≤ 24 by (repeat' apply And.intro) <;> first | assumption | omega), (show ∀ i, (A 5) i ≤ 24 by exact hLN), (show (I 773) + 1 = (I 773) + 1 ∧ (I 65) = (I 65) by (repeat' apply And.intro) <;> first | assumption | omega)⟩
