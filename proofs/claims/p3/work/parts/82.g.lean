/-! TOKENS of the class: signs, scan. -/
def c_sign_Q (fr : Nat → Bool) (X : Nat → Option (q_C (Nat → Int32))) (u l : Nat) (I : Nat → Int) (A : Nat → Int → Int) (B C : Nat → Nat) (M : w_M) (p : Int) : w_X → w_M → Prop := fun r M' => (∃ (I' : Nat → Int) (A' : Nat → Int → Int) (B' C' : Nat → Nat), (r = .inl none) ∧ (w_Rep w_TC fr X u l I' A' B' C' M') ∧ (c_fr c_ts c_ta I A I' A') ∧ (36 ≤ (I' 200) ∧ (I' 200) ≤ 419 ∧ 0 ≤ (I' 202) ∧ (I' 202) ≤ 24) ∧ (∀ i, (A' 5) i ≤ 24) ∧ ((I' 773) = (I 773) + 1 ∧ (I' 65) = (I 65)))
set_option maxHeartbeats 100000000 in
set_option maxRecDepth 100000 in
theorem c_sign {L : Nat} {xs : Nat → Int32} {d : Nat} {fr : Nat → Bool} {X : Nat → Option (q_C (Nat → Int32))} {u l : Nat} {I : Nat → Int} {A : Nat → Int → Int} {B C : Nat → Nat} {M : w_M} (p : Int) (hR : w_Rep w_TC fr X u l I A B C M) (hd : 6 ≤ d) (r_p : w_in p) (hT : 0 ≤ (I 773) ∧ (I 773) ≤ 1501) (hNM : 36 ≤ (I 200) ∧ (I 200) ≤ 419 ∧ 0 ≤ (I 202) ∧ (I 202) ≤ 24) (hLN : ∀ i, (A 5) i ≤ 24) : w_W (z_P L xs) d 57 (0, [(0, .ref 12), (1, .int (Int32.ofInt (p)))], [], M) (c_sign_Q fr X u l I A B C M p) := by
  obtain ⟨ra_p, rb_p⟩ := r_p
  obtain ⟨d, rfl⟩ : ∃ d0, d = d0 + 1 := ⟨d - 1, by omega⟩
  refine w_adv (n := 1) (F' := (1, [(0, .ref 12), (1, .int (Int32.ofInt (p)))], [.ref 12], M)) rfl ?_
  refine w_gf (v := .ref 1) hR rfl rfl rfl rfl ?_
  refine w_adv (n := 1) (F' := (5, [(0, .ref 12), (1, .int (Int32.ofInt (p)))], [.int (Int32.ofInt (p)), .ref 1], M)) rfl ?_
  refine w_call (cm := 46) (as := [(0, .ref 1), (1, .int (Int32.ofInt (p)))]) (rest := []) (o := some (6, 1)) rfl (w_fitR hR rfl) (c_byteAt (p) hR (show 1 ≤ d by omega) ⟨by omega, by omega⟩) (fun r1 M2 q3 => ?_)
  rcases q3 with ⟨v4, e5, ⟨r6, r7⟩, e8⟩
  rw [e5, e8]
  show w_W _ _ _ (8, [(0, .ref 12), (1, .int (Int32.ofInt (p)))], [.int (Int32.ofInt (v4))], M) _
  refine w_adv (n := 2) (F' := (10, [(2, .int (Int32.ofInt (v4))), (0, .ref 12), (1, .int (Int32.ofInt (p)))], [.ref 12], M)) rfl ?_
  refine w_gf (v := .ref 1) hR rfl rfl rfl rfl ?_
  refine w_adv (n := 2) (F' := (15, [(2, .int (Int32.ofInt (v4))), (0, .ref 12), (1, .int (Int32.ofInt (p)))], [.int (Int32.ofInt (1)), .int (Int32.ofInt (p)), .ref 1], M)) rfl ?_
  refine w_add rfl ?_
  refine w_int (fun x9 r10 e11 => ?_)
  obtain ⟨r10a, r10b⟩ := r10
  clear e11
  refine w_call (cm := 46) (as := [(0, .ref 1), (1, .int (Int32.ofInt (x9)))]) (rest := []) (o := some (6, 1)) rfl (w_fitR hR rfl) (c_byteAt (x9) hR (show 1 ≤ d by omega) ⟨by omega, by omega⟩) (fun r12 M13 q14 => ?_)
  rcases q14 with ⟨v15, e16, ⟨r17, r18⟩, e19⟩
  rw [e16, e19]
  show w_W _ _ _ (19, [(2, .int (Int32.ofInt (v4))), (0, .ref 12), (1, .int (Int32.ofInt (p)))], [.int (Int32.ofInt (v15))], M) _
  refine w_adv (n := 4) (F' := (24, [(3, .int (Int32.ofInt (v15))), (2, .int (Int32.ofInt (v4))), (0, .ref 12), (1, .int (Int32.ofInt (p)))], [.int (((Int32.ofInt (v4)).toUInt32 % 65536).toInt32), .ref 1000006], M)) rfl ?_
  refine w_int (fun x20 r21 e22 => ?_)
  obtain ⟨r21a, r21b⟩ := r21
  refine w_callT (cm := 58) (as := [(0, .ref 1000006), (1, .int (Int32.ofInt (x20)))]) (rest := []) rfl (c_idx (by omega) (x20) ⟨by omega, by omega⟩) (fun r23 M24 q25 => ?_)
  obtain ⟨v26, e27, e28, ⟨r29, r30⟩, f31⟩ := q25
  rw [e27, e28]
  show w_W _ _ _ (27, [(3, .int (Int32.ofInt (v15))), (2, .int (Int32.ofInt (v4))), (0, .ref 12), (1, .int (Int32.ofInt (p)))], [.int (Int32.ofInt (v26))], M) _
  refine w_adv (n := 2) (F' := (31, [(4, .int (Int32.ofInt (v26))), (3, .int (Int32.ofInt (v15))), (2, .int (Int32.ofInt (v4))), (0, .ref 12), (1, .int (Int32.ofInt (p)))], [.int (Int32.ofInt (v26))], M)) rfl ?_
  refine w_br1 (a := v26) rfl rfl ⟨by omega, by omega⟩ (fun h32 => ?_) (fun h32 => ?_)
  · have h32 : v26 ≥ 0 := h32
    show w_W _ _ _ (49, [(4, .int (Int32.ofInt (v26))), (3, .int (Int32.ofInt (v15))), (2, .int (Int32.ofInt (v4))), (0, .ref 12), (1, .int (Int32.ofInt (p)))], [], M) _
    refine w_adv (n := 2) (F' := (52, [(4, .int (Int32.ofInt (v26))), (3, .int (Int32.ofInt (v15))), (2, .int (Int32.ofInt (v4))), (0, .ref 12), (1, .int (Int32.ofInt (p)))], [.int (Int32.ofInt (61)), .int (Int32.ofInt (v4))], M)) rfl ?_
    refine w_br2 (a := v4) (b := 61) rfl rfl ⟨by omega, by omega⟩ ⟨by omega, by omega⟩ (fun h33 => ?_) (fun h33 => ?_)
    · have h33 : ¬ v4 = 61 := h33
      show w_W _ _ _ (96, [(4, .int (Int32.ofInt (v26))), (3, .int (Int32.ofInt (v15))), (2, .int (Int32.ofInt (v4))), (0, .ref 12), (1, .int (Int32.ofInt (p)))], [], M) _
      refine w_adv (n := 3) (F' := (100, [(4, .int (Int32.ofInt (v26))), (3, .int (Int32.ofInt (v15))), (2, .int (Int32.ofInt (v4))), (0, .ref 12), (1, .int (Int32.ofInt (p)))], [.int (Int32.ofInt (v26)), .int (Int32.ofInt (5)), .ref 12], M)) rfl ?_
      refine w_add rfl ?_
      refine w_adv (n := 2) (F' := (103, [(4, .int (Int32.ofInt (v26))), (3, .int (Int32.ofInt (v15))), (2, .int (Int32.ofInt (v4))), (0, .ref 12), (1, .int (Int32.ofInt (p)))], [.int (Int32.ofInt ((-1))), .int (Int32.ofInt (p)), .int (Int32.ofInt (5 + v26)), .ref 12], M)) rfl ?_
      refine w_call (cm := 52) (as := [(0, .ref 12), (1, .int (Int32.ofInt (5 + v26))), (2, .int (Int32.ofInt (p))), (3, .int (Int32.ofInt ((-1))))]) (rest := []) (o := some (7, 12)) rfl (w_fitR hR rfl) (c_Tokens_add (5 + v26) (p) ((-1)) hR (show 1 ≤ d by omega) ⟨by omega, by omega⟩ ⟨by omega, by omega⟩ ⟨by omega, by omega⟩ (show 0 ≤ (I 773) ∧ (I 773) ≤ 1501 by first | assumption | omega)) (fun r34 M35 q36 => ?_)
      rcases q36 with ⟨g1337, g1438, g1539, e40, hR36a⟩
      rw [e40]
      replace hR36a : w_Rep w_TC fr X u l (w_up I 773 ((I 773) + 1)) (w_upF (w_upF (w_upF A 13 g1337) 14 g1438) 15 g1539) B C M35 := hR36a
      show w_W _ _ _ (106, [(4, .int (Int32.ofInt (v26))), (3, .int (Int32.ofInt (v15))), (2, .int (Int32.ofInt (v4))), (0, .ref 12), (1, .int (Int32.ofInt (p)))], [], M35) _
      refine w_fin (r := .inl none) (M' := M35) rfl ?_
      exact ⟨(w_up I 773 ((I 773) + 1)), (w_upF (w_upF (w_upF A 13 g1337) 14 g1438) 15 g1539), B, C, rfl, hR36a, (show c_fr c_ts c_ta I A (w_up I 773 ((I 773) + 1)) (w_upF (w_upF (w_upF A 13 g1337) 14 g1438) 15 g1539) by exact (c_fr_upF (c_fr_upF (c_fr_upF (c_fr_up c_fr_refl rfl) rfl) rfl) rfl)), (show 36 ≤ (I 200) ∧ (I 200) ≤ 419 ∧ 0 ≤ (I 202) ∧ (I 202) ≤ 24 by (repeat' apply And.intro) <;> first | assumption | omega), (show ∀ i, (A 5) i ≤ 24 by exact hLN), (show (I 773) + 1 = (I 773) + 1 ∧ (I 65) = (I 65) by (repeat' apply And.intro) <;> first | assumption | omega)⟩
    · have h33 : ¬ (¬ v4 = 61) := h33
      show w_W _ _ _ (55, [(4, .int (Int32.ofInt (v26))), (3, .int (Int32.ofInt (v15))), (2, .int (Int32.ofInt (v4))), (0, .ref 12), (1, .int (Int32.ofInt (p)))], [], M) _
      refine w_adv (n := 2) (F' := (58, [(4, .int (Int32.ofInt (v26))), (3, .int (Int32.ofInt (v15))), (2, .int (Int32.ofInt (v4))), (0, .ref 12), (1, .int (Int32.ofInt (p)))], [.int (Int32.ofInt (61)), .int (Int32.ofInt (v15))], M)) rfl ?_
      refine w_br2 (a := v15) (b := 61) rfl rfl ⟨by omega, by omega⟩ ⟨by omega, by omega⟩ (fun h41 => ?_) (fun h41 => ?_)
      · have h41 : v15 = 61 := h41
        show w_W _ _ _ (67, [(4, .int (Int32.ofInt (v26))), (3, .int (Int32.ofInt (v15))), (2, .int (Int32.ofInt (v4))), (0, .ref 12), (1, .int (Int32.ofInt (p)))], [], M) _
        refine w_adv (n := 3) (F' := (70, [(4, .int (Int32.ofInt (v26))), (3, .int (Int32.ofInt (v15))), (2, .int (Int32.ofInt (v4))), (0, .ref 12), (1, .int (Int32.ofInt (p)))], [.int (Int32.ofInt (2)), .int (Int32.ofInt (p)), .ref 12], M)) rfl ?_
        refine w_add rfl ?_
        refine w_int (fun x42 r43 e44 => ?_)
        obtain ⟨r43a, r43b⟩ := r43
        clear e44
        refine w_pf hR rfl rfl rfl rfl (show w_in (x42) from ⟨by omega, by omega⟩) (fun h => absurd h (by decide)) (fun M45 hR46 => ?_)
        replace hR46 : w_Rep w_TC fr X u l (w_up I 776 (x42)) A B C M45 := hR46
        refine w_adv (n := 3) (F' := (78, [(4, .int (Int32.ofInt (v26))), (3, .int (Int32.ofInt (v15))), (2, .int (Int32.ofInt (v4))), (0, .ref 12), (1, .int (Int32.ofInt (p)))], [.int (Int32.ofInt (61)), .int (Int32.ofInt (v15)), .ref 12], M45)) rfl ?_
        refine w_br2 (a := v15) (b := 61) rfl rfl ⟨by omega, by omega⟩ ⟨by omega, by omega⟩ (fun h47 => ?_) (fun h47 => ?_)
        · have h47 : ¬ v15 = 61 := h47
          show w_W _ _ _ (86, [(4, .int (Int32.ofInt (v26))), (3, .int (Int32.ofInt (v15))), (2, .int (Int32.ofInt (v4))), (0, .ref 12), (1, .int (Int32.ofInt (p)))], [.ref 12], M45) _
          refine w_adv (n := 3) (F' := (90, [(4, .int (Int32.ofInt (v26))), (3, .int (Int32.ofInt (v15))), (2, .int (Int32.ofInt (v4))), (0, .ref 12), (1, .int (Int32.ofInt (p)))], [.int (Int32.ofInt ((-1))), .int (Int32.ofInt (p)), .int (Int32.ofInt (20)), .ref 12], M45)) rfl ?_
          refine w_call (cm := 52) (as := [(0, .ref 12), (1, .int (Int32.ofInt (20))), (2, .int (Int32.ofInt (p))), (3, .int (Int32.ofInt ((-1))))]) (rest := []) (o := some (7, 12)) rfl (w_fitR hR46 rfl) (c_Tokens_add (20) (p) ((-1)) hR46 (show 1 ≤ d by omega) ⟨by omega, by omega⟩ ⟨by omega, by omega⟩ ⟨by omega, by omega⟩ (show 0 ≤ (I 773) ∧ (I 773) ≤ 1501 by first | assumption | omega)) (fun r48 M49 q50 => ?_)
          rcases q50 with ⟨g1351, g1452, g1553, e54, hR50a⟩
          rw [e54]
          replace hR50a : w_Rep w_TC fr X u l (w_up (w_up I 776 (x42)) 773 ((I 773) + 1)) (w_upF (w_upF (w_upF A 13 g1351) 14 g1452) 15 g1553) B C M49 := hR50a
          show w_W _ _ _ (93, [(4, .int (Int32.ofInt (v26))), (3, .int (Int32.ofInt (v15))), (2, .int (Int32.ofInt (v4))), (0, .ref 12), (1, .int (Int32.ofInt (p)))], [], M49) _
          refine w_adv (n := 1) (F' := (106, [(4, .int (Int32.ofInt (v26))), (3, .int (Int32.ofInt (v15))), (2, .int (Int32.ofInt (v4))), (0, .ref 12), (1, .int (Int32.ofInt (p)))], [], M49)) rfl ?_
          refine w_fin (r := .inl none) (M' := M49) rfl ?_
          exact ⟨(w_up (w_up I 776 (x42)) 773 ((I 773) + 1)), (w_upF (w_upF (w_upF A 13 g1351) 14 g1452) 15 g1553), B, C, rfl, hR50a, (show c_fr c_ts c_ta I A (w_up (w_up I 776 (x42)) 773 ((I 773) + 1)) (w_upF (w_upF (w_upF A 13 g1351) 14 g1452) 15 g1553) by exact (c_fr_upF (c_fr_upF (c_fr_upF (c_fr_up (c_fr_up c_fr_refl rfl) rfl) rfl) rfl) rfl)), (show 36 ≤ (I 200) ∧ (I 200) ≤ 419 ∧ 0 ≤ (I 202) ∧ (I 202) ≤ 24 by (repeat' apply And.intro) <;> first | assumption | omega), (show ∀ i, (A 5) i ≤ 24 by exact hLN), (show (I 773) + 1 = (I 773) + 1 ∧ (I 65) = (I 65) by (repeat' apply And.intro) <;> first | assumption | omega)⟩
        · have h47 : ¬ (¬ v15 = 61) := h47
          show w_W _ _ _ (81, [(4, .int (Int32.ofInt (v26))), (3, .int (Int32.ofInt (v15))), (2, .int (Int32.ofInt (v4))), (0, .ref 12), (1, .int (Int32.ofInt (p)))], [.ref 12], M45) _
          refine w_adv (n := 4) (F' := (90, [(4, .int (Int32.ofInt (v26))), (3, .int (Int32.ofInt (v15))), (2, .int (Int32.ofInt (v4))), (0, .ref 12), (1, .int (Int32.ofInt (p)))], [.int (Int32.ofInt ((-1))), .int (Int32.ofInt (p)), .int (Int32.ofInt (19)), .ref 12], M45)) rfl ?_
          refine w_call (cm := 52) (as := [(0, .ref 12), (1, .int (Int32.ofInt (19))), (2, .int (Int32.ofInt (p))), (3, .int (Int32.ofInt ((-1))))]) (rest := []) (o := some (7, 12)) rfl (w_fitR hR46 rfl) (c_Tokens_add (19) (p) ((-1)) hR46 (show 1 ≤ d by omega) ⟨by omega, by omega⟩ ⟨by omega, by omega⟩ ⟨by omega, by omega⟩ (show 0 ≤ (I 773) ∧ (I 773) ≤ 1501 by first | assumption | omega)) (fun r55 M56 q57 => ?_)
          rcases q57 with ⟨g1358, g1459, g1560, e61, hR57a⟩
          rw [e61]
          replace hR57a : w_Rep w_TC fr X u l (w_up (w_up I 776 (x42)) 773 ((I 773) + 1)) (w_upF (w_upF (w_upF A 13 g1358) 14 g1459) 15 g1560) B C M56 := hR57a
          show w_W _ _ _ (93, [(4, .int (Int32.ofInt (v26))), (3, .int (Int32.ofInt (v15))), (2, .int (Int32.ofInt (v4))), (0, .ref 12), (1, .int (Int32.ofInt (p)))], [], M56) _
          refine w_adv (n := 1) (F' := (106, [(4, .int (Int32.ofInt (v26))), (3, .int (Int32.ofInt (v15))), (2, .int (Int32.ofInt (v4))), (0, .ref 12), (1, .int (Int32.ofInt (p)))], [], M56)) rfl ?_
          refine w_fin (r := .inl none) (M' := M56) rfl ?_
          exact ⟨(w_up (w_up I 776 (x42)) 773 ((I 773) + 1)), (w_upF (w_upF (w_upF A 13 g1358) 14 g1459) 15 g1560), B, C, rfl, hR57a, (show c_fr c_ts c_ta I A (w_up (w_up I 776 (x42)) 773 ((I 773) + 1)) (w_upF (w_upF (w_upF A 13 g1358) 14 g1459) 15 g1560) by exact (c_fr_upF (c_fr_upF (c_fr_upF (c_fr_up (c_fr_up c_fr_refl rfl) rfl) rfl) rfl) rfl)), (show 36 ≤ (I 200) ∧ (I 200) ≤ 419 ∧ 0 ≤ (I 202) ∧ (I 202) ≤ 24 by (repeat' apply And.intro) <;> first | assumption | omega), (show ∀ i, (A 5) i ≤ 24 by exact hLN), (show (I 773) + 1 = (I 773) + 1 ∧ (I 65) = (I 65) by (repeat' apply And.intro) <;> first | assumption | omega)⟩
      · have h41 : ¬ (v15 = 61) := h41
        show w_W _ _ _ (61, [(4, .int (Int32.ofInt (v26))), (3, .int (Int32.ofInt (v15))), (2, .int (Int32.ofInt (v4))), (0, .ref 12), (1, .int (Int32.ofInt (p)))], [], M) _
        refine w_adv (n := 2) (F' := (64, [(4, .int (Int32.ofInt (v26))), (3, .int (Int32.ofInt (v15))), (2, .int (Int32.ofInt (v4))), (0, .ref 12), (1, .int (Int32.ofInt (p)))], [.int (Int32.ofInt (60)), .int (Int32.ofInt (v15))], M)) rfl ?_
        refine w_br2 (a := v15) (b := 60) rfl rfl ⟨by omega, by omega⟩ ⟨by omega, by omega⟩ (fun h62 => ?_) (fun h62 => ?_)
        · have h62 : ¬ v15 = 60 := h62
          show w_W _ _ _ (96, [(4, .int (Int32.ofInt (v26))), (3, .int (Int32.ofInt (v15))), (2, .int (Int32.ofInt (v4))), (0, .ref 12), (1, .int (Int32.ofInt (p)))], [], M) _
          refine w_adv (n := 3) (F' := (100, [(4, .int (Int32.ofInt (v26))), (3, .int (Int32.ofInt (v15))), (2, .int (Int32.ofInt (v4))), (0, .ref 12), (1, .int (Int32.ofInt (p)))], [.int (Int32.ofInt (v26)), .int (Int32.ofInt (5)), .ref 12], M)) rfl ?_
          refine w_add rfl ?_
          refine w_adv (n := 2) (F' := (103, [(4, .int (Int32.ofInt (v26))), (3, .int (Int32.ofInt (v15))), (2, .int (Int32.ofInt (v4))), (0, .ref 12), (1, .int (Int32.ofInt (p)))], [.int (Int32.ofInt ((-1))), .int (Int32.ofInt (p)), .int (Int32.ofInt (5 + v26)), .ref 12], M)) rfl ?_
          refine w_call (cm := 52) (as := [(0, .ref 12), (1, .int (Int32.ofInt (5 + v26))), (2, .int (Int32.ofInt (p))), (3, .int (Int32.ofInt ((-1))))]) (rest := []) (o := some (7, 12)) rfl (w_fitR hR rfl) (c_Tokens_add (5 + v26) (p) ((-1)) hR (show 1 ≤ d by omega) ⟨by omega, by omega⟩ ⟨by omega, by omega⟩ ⟨by omega, by omega⟩ (show 0 ≤ (I 773) ∧ (I 773) ≤ 1501 by first | assumption | omega)) (fun r63 M64 q65 => ?_)
          rcases q65 with ⟨g1366, g1467, g1568, e69, hR65a⟩
          rw [e69]
          replace hR65a : w_Rep w_TC fr X u l (w_up I 773 ((I 773) + 1)) (w_upF (w_upF (w_upF A 13 g1366) 14 g1467) 15 g1568) B C M64 := hR65a
          show w_W _ _ _ (106, [(4, .int (Int32.ofInt (v26))), (3, .int (Int32.ofInt (v15))), (2, .int (Int32.ofInt (v4))), (0, .ref 12), (1, .int (Int32.ofInt (p)))], [], M64) _
          refine w_fin (r := .inl none) (M' := M64) rfl ?_
          exact ⟨(w_up I 773 ((I 773) + 1)), (w_upF (w_upF (w_upF A 13 g1366) 14 g1467) 15 g1568), B, C, rfl, hR65a, (show c_fr c_ts c_ta I A (w_up I 773 ((I 773) + 1)) (w_upF (w_upF (w_upF A 13 g1366) 14 g1467) 15 g1568) by exact (c_fr_upF (c_fr_upF (c_fr_upF (c_fr_up c_fr_refl rfl) rfl) rfl) rfl)), (show 36 ≤ (I 200) ∧ (I 200) ≤ 419 ∧ 0 ≤ (I 202) ∧ (I 202) ≤ 24 by (repeat' apply And.intro) <;> first | assumption | omega), (show ∀ i, (A 5) i ≤ 24 by exact hLN), (show (I 773) + 1 = (I 773) + 1 ∧ (I 65) = (I 65) by (repeat' apply And.intro) <;> first | assumption | omega)⟩
        · have h62 : ¬ (¬ v15 = 60) := h62
          show w_W _ _ _ (67, [(4, .int (Int32.ofInt (v26))), (3, .int (Int32.ofInt (v15))), (2, .int (Int32.ofInt (v4))), (0, .ref 12), (1, .int (Int32.ofInt (p)))], [], M) _
          refine w_adv (n := 3) (F' := (70, [(4, .int (Int32.ofInt (v26))), (3, .int (Int32.ofInt (v15))), (2, .int (Int32.ofInt (v4))), (0, .ref 12), (1, .int (Int32.ofInt (p)))], [.int (Int32.ofInt (2)), .int (Int32.ofInt (p)), .ref 12], M)) rfl ?_
          refine w_add rfl ?_
          refine w_int (fun x70 r71 e72 => ?_)
          obtain ⟨r71a, r71b⟩ := r71
          clear e72
          refine w_pf hR rfl rfl rfl rfl (show w_in (x70) from ⟨by omega, by omega⟩) (fun h => absurd h (by decide)) (fun M73 hR74 => ?_)
          replace hR74 : w_Rep w_TC fr X u l (w_up I 776 (x70)) A B C M73 := hR74
          refine w_adv (n := 3) (F' := (78, [(4, .int (Int32.ofInt (v26))), (3, .int (Int32.ofInt (v15))), (2, .int (Int32.ofInt (v4))), (0, .ref 12), (1, .int (Int32.ofInt (p)))], [.int (Int32.ofInt (61)), .int (Int32.ofInt (v15)), .ref 12], M73)) rfl ?_
          refine w_br2 (a := v15) (b := 61) rfl rfl ⟨by omega, by omega⟩ ⟨by omega, by omega⟩ (fun h75 => ?_) (fun h75 => ?_)
          · have h75 : ¬ v15 = 61 := h75
            show w_W _ _ _ (86, [(4, .int (Int32.ofInt (v26))), (3, .int (Int32.ofInt (v15))), (2, .int (Int32.ofInt (v4))), (0, .ref 12), (1, .int (Int32.ofInt (p)))], [.ref 12], M73) _
            refine w_adv (n := 3) (F' := (90, [(4, .int (Int32.ofInt (v26))), (3, .int (Int32.ofInt (v15))), (2, .int (Int32.ofInt (v4))), (0, .ref 12), (1, .int (Int32.ofInt (p)))], [.int (Int32.ofInt ((-1))), .int (Int32.ofInt (p)), .int (Int32.ofInt (20)), .ref 12], M73)) rfl ?_
            refine w_call (cm := 52) (as := [(0, .ref 12), (1, .int (Int32.ofInt (20))), (2, .int (Int32.ofInt (p))), (3, .int (Int32.ofInt ((-1))))]) (rest := []) (o := some (7, 12)) rfl (w_fitR hR74 rfl) (c_Tokens_add (20) (p) ((-1)) hR74 (show 1 ≤ d by omega) ⟨by omega, by omega⟩ ⟨by omega, by omega⟩ ⟨by omega, by omega⟩ (show 0 ≤ (I 773) ∧ (I 773) ≤ 1501 by first | assumption | omega)) (fun r76 M77 q78 => ?_)
            rcases q78 with ⟨g1379, g1480, g1581, e82, hR78a⟩
            rw [e82]
            replace hR78a : w_Rep w_TC fr X u l (w_up (w_up I 776 (x70)) 773 ((I 773) + 1)) (w_upF (w_upF (w_upF A 13 g1379) 14 g1480) 15 g1581) B C M77 := hR78a
            show w_W _ _ _ (93, [(4, .int (Int32.ofInt (v26))), (3, .int (Int32.ofInt (v15))), (2, .int (Int32.ofInt (v4))), (0, .ref 12), (1, .int (Int32.ofInt (p)))], [], M77) _
            refine w_adv (n := 1) (F' := (106, [(4, .int (Int32.ofInt (v26))), (3, .int (Int32.ofInt (v15))), (2, .int (Int32.ofInt (v4))), (0, .ref 12), (1, .int (Int32.ofInt (p)))], [], M77)) rfl ?_
            refine w_fin (r := .inl none) (M' := M77) rfl ?_
            exact ⟨(w_up (w_up I 776 (x70)) 773 ((I 773) + 1)), (w_upF (w_upF (w_upF A 13 g1379) 14 g1480) 15 g1581), B, C, rfl, hR78a, (show c_fr c_ts c_ta I A (w_up (w_up I 776 (x70)) 773 ((I 773) + 1)) (w_upF (w_upF (w_upF A 13 g1379) 14 g1480) 15 g1581) by exact (c_fr_upF (c_fr_upF (c_fr_upF (c_fr_up (c_fr_up c_fr_refl rfl) rfl) rfl) rfl) rfl)), (show 36 ≤ (I 200) ∧ (I 200) ≤ 419 ∧ 0 ≤ (I 202) ∧ (I 202) ≤ 24 by (repeat' apply And.intro) <;> first | assumption | omega), (show ∀ i, (A 5) i ≤ 24 by exact hLN), (show (I 773) + 1 = (I 773) + 1 ∧ (I 65) = (I 65) by (repeat' apply And.intro) <;> first | assumption | omega)⟩
          · have h75 : ¬ (¬ v15 = 61) := h75
            show w_W _ _ _ (81, [(4, .int (Int32.ofInt (v26))), (3, .int (Int32.ofInt (v15))), (2, .int (Int32.ofInt (v4))), (0, .ref 12), (1, .int (Int32.ofInt (p)))], [.ref 12], M73) _
            refine w_adv (n := 4) (F' := (90, [(4, .int (Int32.ofInt (v26))), (3, .int (Int32.ofInt (v15))), (2, .int (Int32.ofInt (v4))), (0, .ref 12), (1, .int (Int32.ofInt (p)))], [.int (Int32.ofInt ((-1))), .int (Int32.ofInt (p)), .int (Int32.ofInt (19)), .ref 12], M73)) rfl ?_
            refine w_call (cm := 52) (as := [(0, .ref 12), (1, .int (Int32.ofInt (19))), (2, .int (Int32.ofInt (p))), (3, .int (Int32.ofInt ((-1))))]) (rest := []) (o := some (7, 12)) rfl (w_fitR hR74 rfl) (c_Tokens_add (19) (p) ((-1)) hR74 (show 1 ≤ d by omega) ⟨by omega, by omega⟩ ⟨by omega, by omega⟩ ⟨by omega, by omega⟩ (show 0 ≤ (I 773) ∧ (I 773) ≤ 1501 by first | assumption | omega)) (fun r83 M84 q85 => ?_)
            rcases q85 with ⟨g1386, g1487, g1588, e89, hR85a⟩
            rw [e89]
            replace hR85a : w_Rep w_TC fr X u l (w_up (w_up I 776 (x70)) 773 ((I 773) + 1)) (w_upF (w_upF (w_upF A 13 g1386) 14 g1487) 15 g1588) B C M84 := hR85a
            show w_W _ _ _ (93, [(4, .int (Int32.ofInt (v26))), (3, .int (Int32.ofInt (v15))), (2, .int (Int32.ofInt (v4))), (0, .ref 12), (1, .int (Int32.ofInt (p)))], [], M84) _
            refine w_adv (n := 1) (F' := (106, [(4, .int (Int32.ofInt (v26))), (3, .int (Int32.ofInt (v15))), (2, .int (Int32.ofInt (v4))), (0, .ref 12), (1, .int (Int32.ofInt (p)))], [], M84)) rfl ?_
            refine w_fin (r := .inl none) (M' := M84) rfl ?_
            exact ⟨(w_up (w_up I 776 (x70)) 773 ((I 773) + 1)), (w_upF (w_upF (w_upF A 13 g1386) 14 g1487) 15 g1588), B, C, rfl, hR85a, (show c_fr c_ts c_ta I A (w_up (w_up I 776 (x70)) 773 ((I 773) + 1)) (w_upF (w_upF (w_upF A 13 g1386) 14 g1487) 15 g1588) by exact (c_fr_upF (c_fr_upF (c_fr_upF (c_fr_up (c_fr_up c_fr_refl rfl) rfl) rfl) rfl) rfl)), (show 36 ≤ (I 200) ∧ (I 200) ≤ 419 ∧ 0 ≤ (I 202) ∧ (I 202) ≤ 24 by (repeat' apply And.intro) <;> first | assumption | omega), (show ∀ i, (A 5) i ≤ 24 by exact hLN), (show (I 773) + 1 = (I 773) + 1 ∧ (I 65) = (I 65) by (repeat' apply And.intro) <;> first | assumption | omega)⟩
  · have h32 : ¬ (v26 ≥ 0) := h32
    show w_W _ _ _ (34, [(4, .int (Int32.ofInt (v26))), (3, .int (Int32.ofInt (v15))), (2, .int (Int32.ofInt (v4))), (0, .ref 12), (1, .int (Int32.ofInt (p)))], [], M) _
    refine w_adv (n := 2) (F' := (36, [(4, .int (Int32.ofInt (v26))), (3, .int (Int32.ofInt (v15))), (2, .int (Int32.ofInt (v4))), (0, .ref 12), (1, .int (Int32.ofInt (p)))], [.int (Int32.ofInt (1)), .ref 12], M)) rfl ?_
    refine w_pf hR rfl rfl rfl rfl (show w_in (1) from ⟨by omega, by omega⟩) (fun h => absurd h (by decide)) (fun M90 hR91 => ?_)
    replace hR91 : w_Rep w_TC fr X u l (w_up I 775 (1)) A B C M90 := hR91
    refine w_adv (n := 4) (F' := (43, [(4, .int (Int32.ofInt (v26))), (3, .int (Int32.ofInt (v15))), (2, .int (Int32.ofInt (v4))), (0, .ref 12), (1, .int (Int32.ofInt (p)))], [.int (Int32.ofInt ((-1))), .int (Int32.ofInt (p)), .int (Int32.ofInt (0)), .ref 12], M90)) rfl ?_
    refine w_call (cm := 52) (as := [(0, .ref 12), (1, .int (Int32.ofInt (0))), (2, .int (Int32.ofInt (p))), (3, .int (Int32.ofInt ((-1))))]) (rest := []) (o := some (7, 12)) rfl (w_fitR hR91 rfl) (c_Tokens_add (0) (p) ((-1)) hR91 (show 1 ≤ d by omega) ⟨by omega, by omega⟩ ⟨by omega, by omega⟩ ⟨by omega, by omega⟩ (show 0 ≤ (I 773) ∧ (I 773) ≤ 1501 by first | assumption | omega)) (fun r92 M93 q94 => ?_)
    rcases q94 with ⟨g1395, g1496, g1597, e98, hR94a⟩
    rw [e98]
    replace hR94a : w_Rep w_TC fr X u l (w_up (w_up I 775 (1)) 773 ((I 773) + 1)) (w_upF (w_upF (w_upF A 13 g1395) 14 g1496) 15 g1597) B C M93 := hR94a
    show w_W _ _ _ (46, [(4, .int (Int32.ofInt (v26))), (3, .int (Int32.ofInt (v15))), (2, .int (Int32.ofInt (v4))), (0, .ref 12), (1, .int (Int32.ofInt (p)))], [], M93) _
    refine w_adv (n := 1) (F' := (106, [(4, .int (Int32.ofInt (v26))), (3, .int (Int32.ofInt (v15))), (2, .int (Int32.ofInt (v4))), (0, .ref 12), (1, .int (Int32.ofInt (p)))], [], M93)) rfl ?_
    refine w_fin (r := .inl none) (M' := M93) rfl ?_
    exact ⟨(w_up (w_up I 775 (1)) 773 ((I 773) + 1)), (w_upF (w_upF (w_upF A 13 g1395) 14 g1496) 15 g1597), B, C, rfl, hR94a, (show c_fr c_ts c_ta I A (w_up (w_up I 775 (1)) 773 ((I 773) + 1)) (w_upF (w_upF (w_upF A 13 g1395) 14 g1496) 15 g1597) by exact (c_fr_upF (c_fr_upF (c_fr_upF (c_fr_up (c_fr_up c_fr_refl rfl) rfl) rfl) rfl) rfl)), (show 36 ≤ (I 200) ∧ (I 200) ≤ 419 ∧ 0 ≤ (I 202) ∧ (I 202) ≤ 24 by (repeat' apply And.intro) <;> first | assumption | omega), (show ∀ i, (A 5) i ≤ 24 by exact hLN), (show (I 773) + 1 = (I 773) + 1 ∧ (I 65) = (I 65) by (repeat' apply And.intro) <;> first | assumption | omega)⟩
def c_one_Q (fr : Nat → Bool) (X : Nat → Option (q_C (Nat → Int32))) (u l : Nat) (I : Nat → Int) (A : Nat → Int → Int) (B C : Nat → Nat) (M : w_M) (p : Int) : w_X → w_M → Prop := fun r M' => (∃ (I' : Nat → Int) (A' : Nat → Int → Int) (B' C' : Nat → Nat), (r = .inl none) ∧ (w_Rep w_TC fr X u l I' A' B' C' M') ∧ (c_fr c_ts c_ta I A I' A') ∧ (36 ≤ (I' 200) ∧ (I' 200) ≤ 419 ∧ 0 ≤ (I' 202) ∧ (I' 202) ≤ 24) ∧ (∀ i, (A' 5) i ≤ 24) ∧ ((I' 773) = (I 773) + 1 ∧ (I' 65) = (I 65)))
set_option maxHeartbeats 100000000 in
set_option maxRecDepth 100000 in
theorem c_one {L : Nat} {xs : Nat → Int32} {d : Nat} {fr : Nat → Bool} {X : Nat → Option (q_C (Nat → Int32))} {u l : Nat} {I : Nat → Int} {A : Nat → Int → Int} {B C : Nat → Nat} {M : w_M} (p : Int) (hR : w_Rep w_TC fr X u l I A B C M) (hd : 7 ≤ d) (r_p : w_in p) (hT : 0 ≤ (I 773) ∧ (I 773) ≤ 1501) (hNM : 36 ≤ (I 200) ∧ (I 200) ≤ 419 ∧ 0 ≤ (I 202) ∧ (I 202) ≤ 24) (hLN : ∀ i, (A 5) i ≤ 24) : w_W (z_P L xs) d 47 (0, [(0, .ref 12), (1, .int (Int32.ofInt (p)))], [], M) (c_one_Q fr X u l I A B C M p) := by
  obtain ⟨ra_p, rb_p⟩ := r_p
  obtain ⟨d, rfl⟩ : ∃ d0, d = d0 + 1 := ⟨d - 1, by omega⟩
  refine w_adv (n := 1) (F' := (1, [(0, .ref 12), (1, .int (Int32.ofInt (p)))], [.ref 12], M)) rfl ?_
  refine w_gf (v := .ref 1) hR rfl rfl rfl rfl ?_
  refine w_adv (n := 1) (F' := (5, [(0, .ref 12), (1, .int (Int32.ofInt (p)))], [.int (Int32.ofInt (p)), .ref 1], M)) rfl ?_
  refine w_call (cm := 46) (as := [(0, .ref 1), (1, .int (Int32.ofInt (p)))]) (rest := []) (o := some (6, 1)) rfl (w_fitR hR rfl) (c_byteAt (p) hR (show 1 ≤ d by omega) ⟨by omega, by omega⟩) (fun r1 M2 q3 => ?_)
  rcases q3 with ⟨v4, e5, ⟨r6, r7⟩, e8⟩
  rw [e5, e8]
  show w_W _ _ _ (8, [(0, .ref 12), (1, .int (Int32.ofInt (p)))], [.int (Int32.ofInt (v4))], M) _
  refine w_adv (n := 4) (F' := (12, [(2, .int (Int32.ofInt (v4))), (0, .ref 12), (1, .int (Int32.ofInt (p)))], [.int (Int32.ofInt (1)), .int (Int32.ofInt (p)), .ref 12], M)) rfl ?_
  refine w_add rfl ?_
  refine w_int (fun x9 r10 e11 => ?_)
  obtain ⟨r10a, r10b⟩ := r10
  clear e11
  refine w_pf hR rfl rfl rfl rfl (show w_in (x9) from ⟨by omega, by omega⟩) (fun h => absurd h (by decide)) (fun M12 hR13 => ?_)
  replace hR13 : w_Rep w_TC fr X u l (w_up I 776 (x9)) A B C M12 := hR13
  refine w_adv (n := 2) (F' := (19, [(2, .int (Int32.ofInt (v4))), (0, .ref 12), (1, .int (Int32.ofInt (p)))], [.int (Int32.ofInt (97)), .int (Int32.ofInt (v4))], M12)) rfl ?_
  refine w_br2 (a := v4) (b := 97) rfl rfl ⟨by omega, by omega⟩ ⟨by omega, by omega⟩ (fun h14 => ?_) (fun h14 => ?_)
  · have h14 : v4 < 97 := h14
    show w_W _ _ _ (37, [(2, .int (Int32.ofInt (v4))), (0, .ref 12), (1, .int (Int32.ofInt (p)))], [], M12) _
    refine w_adv (n := 2) (F' := (40, [(2, .int (Int32.ofInt (v4))), (0, .ref 12), (1, .int (Int32.ofInt (p)))], [.int (Int32.ofInt (65)), .int (Int32.ofInt (v4))], M12)) rfl ?_
    refine w_br2 (a := v4) (b := 65) rfl rfl ⟨by omega, by omega⟩ ⟨by omega, by omega⟩ (fun h15 => ?_) (fun h15 => ?_)
    · have h15 : v4 < 65 := h15
      show w_W _ _ _ (58, [(2, .int (Int32.ofInt (v4))), (0, .ref 12), (1, .int (Int32.ofInt (p)))], [], M12) _
      refine w_adv (n := 2) (F' := (61, [(2, .int (Int32.ofInt (v4))), (0, .ref 12), (1, .int (Int32.ofInt (p)))], [.int (Int32.ofInt (95)), .int (Int32.ofInt (v4))], M12)) rfl ?_
      refine w_br2 (a := v4) (b := 95) rfl rfl ⟨by omega, by omega⟩ ⟨by omega, by omega⟩ (fun h16 => ?_) (fun h16 => ?_)
      · have h16 : ¬ v4 = 95 := h16
        show w_W _ _ _ (100, [(2, .int (Int32.ofInt (v4))), (0, .ref 12), (1, .int (Int32.ofInt (p)))], [], M12) _
        refine w_adv (n := 1) (F' := (101, [(2, .int (Int32.ofInt (v4))), (0, .ref 12), (1, .int (Int32.ofInt (p)))], [.int (Int32.ofInt (v4))], M12)) rfl ?_
        refine w_call (cm := 51) (as := [(0, .int (Int32.ofInt (v4)))]) (rest := []) (o := none) rfl (trivial) (c_isDigit (v4) hR13 ⟨by omega, by omega⟩) (fun r17 M18 q19 => ?_)
        rcases q19 with ⟨e20, e21⟩ | ⟨e22, e23⟩
        · rw [e20, e21]
          show w_W _ _ _ (104, [(2, .int (Int32.ofInt (v4))), (0, .ref 12), (1, .int (Int32.ofInt (p)))], [.int (Int32.ofInt (1))], M12) _
          refine w_adv (n := 3) (F' := (115, [(2, .int (Int32.ofInt (v4))), (0, .ref 12), (1, .int (Int32.ofInt (p)))], [.int (Int32.ofInt (p)), .ref 12], M12)) rfl ?_
          refine w_call (cm := 55) (as := [(0, .ref 12), (1, .int (Int32.ofInt (p)))]) (rest := []) (o := some (7, 12)) rfl (w_fitR hR13 rfl) (c_integer (p) hR13 (show 3 ≤ d by omega) ⟨by omega, by omega⟩ (show 0 ≤ (I 773) ∧ (I 773) ≤ 1501 by first | assumption | omega) (show 36 ≤ (I 200) ∧ (I 200) ≤ 419 ∧ 0 ≤ (I 202) ∧ (I 202) ≤ 24 by (repeat' apply And.intro) <;> first | assumption | omega) (show ∀ i, (A 5) i ≤ 24 by exact hLN)) (fun r24 M25 q26 => ?_)
          rcases q26 with ⟨I26a, A26a, B26a, C26a, e27, hR26a, f28, f29, f30, f31⟩
          rw [e27]
          replace hR26a : w_Rep w_TC fr X u l I26a A26a B26a C26a M25 := hR26a
          replace f28 : c_fr c_ts c_ta (w_up I 776 (x9)) A I26a A26a := f28
          replace f29 : 36 ≤ (I26a 200) ∧ (I26a 200) ≤ 419 ∧ 0 ≤ (I26a 202) ∧ (I26a 202) ≤ 24 := f29
          obtain ⟨n32, n33, n34, n35⟩ := id f29
          clear f29
          replace f30 : ∀ i, (A26a 5) i ≤ 24 := f30
          replace f31 : (I26a 773) = (I 773) + 1 ∧ (I26a 65) = (I 65) := f31
          obtain ⟨n36, n37⟩ := id f31
          clear f31
          show w_W _ _ _ (118, [(2, .int (Int32.ofInt (v4))), (0, .ref 12), (1, .int (Int32.ofInt (p)))], [], M25) _
          refine w_adv (n := 1) (F' := (126, [(2, .int (Int32.ofInt (v4))), (0, .ref 12), (1, .int (Int32.ofInt (p)))], [], M25)) rfl ?_
          refine w_fin (r := .inl none) (M' := M25) rfl ?_
          exact ⟨I26a, A26a, B26a, C26a, rfl, hR26a, (show c_fr c_ts c_ta I A I26a A26a by exact (c_fr_trans (c_fr_up c_fr_refl rfl) f28)), (show 36 ≤ (I26a 200) ∧ (I26a 200) ≤ 419 ∧ 0 ≤ (I26a 202) ∧ (I26a 202) ≤ 24 by (repeat' apply And.intro) <;> first | assumption | omega), (show ∀ i, (A26a 5) i ≤ 24 by exact f30), (show (I26a 773) = (I 773) + 1 ∧ (I26a 65) = (I 65) by (repeat' apply And.intro) <;> first | assumption | omega)⟩
        · rw [e22, e23]
          show w_W _ _ _ (104, [(2, .int (Int32.ofInt (v4))), (0, .ref 12), (1, .int (Int32.ofInt (p)))], [.int (Int32.ofInt (0))], M12) _
          refine w_adv (n := 3) (F' := (110, [(2, .int (Int32.ofInt (v4))), (0, .ref 12), (1, .int (Int32.ofInt (p)))], [.int (Int32.ofInt (126)), .int (Int32.ofInt (v4))], M12)) rfl ?_
          refine w_br2 (a := v4) (b := 126) rfl rfl ⟨by omega, by omega⟩ ⟨by omega, by omega⟩ (fun h38 => ?_) (fun h38 => ?_)
          · have h38 : ¬ v4 = 126 := h38
            show w_W _ _ _ (121, [(2, .int (Int32.ofInt (v4))), (0, .ref 12), (1, .int (Int32.ofInt (p)))], [], M12) _
            refine w_adv (n := 2) (F' := (123, [(2, .int (Int32.ofInt (v4))), (0, .ref 12), (1, .int (Int32.ofInt (p)))], [.int (Int32.ofInt (p)), .ref 12], M12)) rfl ?_
            refine w_call (cm := 57) (as := [(0, .ref 12), (1, .int (Int32.ofInt (p)))]) (rest := []) (o := some (7, 12)) rfl (w_fitR hR13 rfl) (c_sign (p) hR13 (show 6 ≤ d by omega) ⟨by omega, by omega⟩ (show 0 ≤ (I 773) ∧ (I 773) ≤ 1501 by first | assumption | omega) (show 36 ≤ (I 200) ∧ (I 200) ≤ 419 ∧ 0 ≤ (I 202) ∧ (I 202) ≤ 24 by (repeat' apply And.intro) <;> first | assumption | omega) (show ∀ i, (A 5) i ≤ 24 by exact hLN)) (fun r39 M40 q41 => ?_)
            rcases q41 with ⟨I41a, A41a, B41a, C41a, e42, hR41a, f43, f44, f45, f46⟩
            rw [e42]
            replace hR41a : w_Rep w_TC fr X u l I41a A41a B41a C41a M40 := hR41a
            replace f43 : c_fr c_ts c_ta (w_up I 776 (x9)) A I41a A41a := f43
            replace f44 : 36 ≤ (I41a 200) ∧ (I41a 200) ≤ 419 ∧ 0 ≤ (I41a 202) ∧ (I41a 202) ≤ 24 := f44
            obtain ⟨n47, n48, n49, n50⟩ := id f44
            clear f44
            replace f45 : ∀ i, (A41a 5) i ≤ 24 := f45
            replace f46 : (I41a 773) = (I 773) + 1 ∧ (I41a 65) = (I 65) := f46
            obtain ⟨n51, n52⟩ := id f46
            clear f46
            show w_W _ _ _ (126, [(2, .int (Int32.ofInt (v4))), (0, .ref 12), (1, .int (Int32.ofInt (p)))], [], M40) _
            refine w_fin (r := .inl none) (M' := M40) rfl ?_
            exact ⟨I41a, A41a, B41a, C41a, rfl, hR41a, (show c_fr c_ts c_ta I A I41a A41a by exact (c_fr_trans (c_fr_up c_fr_refl rfl) f43)), (show 36 ≤ (I41a 200) ∧ (I41a 200) ≤ 419 ∧ 0 ≤ (I41a 202) ∧ (I41a 202) ≤ 24 by (repeat' apply And.intro) <;> first | assumption | omega), (show ∀ i, (A41a 5) i ≤ 24 by exact f45), (show (I41a 773) = (I 773) + 1 ∧ (I41a 65) = (I 65) by (repeat' apply And.intro) <;> first | assumption | omega)⟩
          · have h38 : ¬ (¬ v4 = 126) := h38
            show w_W _ _ _ (113, [(2, .int (Int32.ofInt (v4))), (0, .ref 12), (1, .int (Int32.ofInt (p)))], [], M12) _
            refine w_adv (n := 2) (F' := (115, [(2, .int (Int32.ofInt (v4))), (0, .ref 12), (1, .int (Int32.ofInt (p)))], [.int (Int32.ofInt (p)), .ref 12], M12)) rfl ?_
            refine w_call (cm := 55) (as := [(0, .ref 12), (1, .int (Int32.ofInt (p)))]) (rest := []) (o := some (7, 12)) rfl (w_fitR hR13 rfl) (c_integer (p) hR13 (show 3 ≤ d by omega) ⟨by omega, by omega⟩ (show 0 ≤ (I 773) ∧ (I 773) ≤ 1501 by first | assumption | omega) (show 36 ≤ (I 200) ∧ (I 200) ≤ 419 ∧ 0 ≤ (I 202) ∧ (I 202) ≤ 24 by (repeat' apply And.intro) <;> first | assumption | omega) (show ∀ i, (A 5) i ≤ 24 by exact hLN)) (fun r53 M54 q55 => ?_)
            rcases q55 with ⟨I55a, A55a, B55a, C55a, e56, hR55a, f57, f58, f59, f60⟩
            rw [e56]
            replace hR55a : w_Rep w_TC fr X u l I55a A55a B55a C55a M54 := hR55a
            replace f57 : c_fr c_ts c_ta (w_up I 776 (x9)) A I55a A55a := f57
            replace f58 : 36 ≤ (I55a 200) ∧ (I55a 200) ≤ 419 ∧ 0 ≤ (I55a 202) ∧ (I55a 202) ≤ 24 := f58
            obtain ⟨n61, n62, n63, n64⟩ := id f58
            clear f58
            replace f59 : ∀ i, (A55a 5) i ≤ 24 := f59
            replace f60 : (I55a 773) = (I 773) + 1 ∧ (I55a 65) = (I 65) := f60
            obtain ⟨n65, n66⟩ := id f60
            clear f60
            show w_W _ _ _ (118, [(2, .int (Int32.ofInt (v4))), (0, .ref 12), (1, .int (Int32.ofInt (p)))], [], M54) _
            refine w_adv (n := 1) (F' := (126, [(2, .int (Int32.ofInt (v4))), (0, .ref 12), (1, .int (Int32.ofInt (p)))], [], M54)) rfl ?_
            refine w_fin (r := .inl none) (M' := M54) rfl ?_
            exact ⟨I55a, A55a, B55a, C55a, rfl, hR55a, (show c_fr c_ts c_ta I A I55a A55a by exact (c_fr_trans (c_fr_up c_fr_refl rfl) f57)), (show 36 ≤ (I55a 200) ∧ (I55a 200) ≤ 419 ∧ 0 ≤ (I55a 202) ∧ (I55a 202) ≤ 24 by (repeat' apply And.intro) <;> first | assumption | omega), (show ∀ i, (A55a 5) i ≤ 24 by exact f59), (show (I55a 773) = (I 773) + 1 ∧ (I55a 65) = (I 65) by (repeat' apply And.intro) <;> first | assumption | omega)⟩
      · have h16 : ¬ (¬ v4 = 95) := h16
        show w_W _ _ _ (64, [(2, .int (Int32.ofInt (v4))), (0, .ref 12), (1, .int (Int32.ofInt (p)))], [], M12) _
        refine w_adv (n := 2) (F' := (66, [(2, .int (Int32.ofInt (v4))), (0, .ref 12), (1, .int (Int32.ofInt (p)))], [.ref 12, .ref 12], M12)) rfl ?_
        refine w_gf (v := .ref 1) hR13 rfl rfl rfl rfl ?_
        refine w_adv (n := 1) (F' := (70, [(2, .int (Int32.ofInt (v4))), (0, .ref 12), (1, .int (Int32.ofInt (p)))], [.ref 12, .ref 1, .ref 12], M12)) rfl ?_
        refine w_gf (v := .int (Int32.ofInt (x9))) hR13 rfl rfl rfl rfl ?_
        obtain ⟨r67, r68⟩ : -2147483648 ≤ x9 ∧ x9 ≤ 2147483647 := hR13.ri 776
        refine w_call (cm := 46) (as := [(0, .ref 1), (1, .int (Int32.ofInt (x9)))]) (rest := [.ref 12]) (o := some (6, 1)) rfl (w_fitR hR13 rfl) (c_byteAt (x9) hR13 (show 1 ≤ d by omega) ⟨by omega, by omega⟩) (fun r69 M70 q71 => ?_)
        rcases q71 with ⟨v72, e73, ⟨r74, r75⟩, e76⟩
        rw [e73, e76]
        show w_W _ _ _ (76, [(2, .int (Int32.ofInt (v4))), (0, .ref 12), (1, .int (Int32.ofInt (p)))], [.int (Int32.ofInt (v72)), .ref 12], M12) _
        refine w_call (cm := 50) (as := [(0, .int (Int32.ofInt (v72)))]) (rest := [.ref 12]) (o := none) rfl (trivial) (c_isNamePart (v72) hR13 (show 1 ≤ d by omega) ⟨by omega, by omega⟩) (fun r77 M78 q79 => ?_)
        rcases q79 with ⟨e80, e81⟩ | ⟨e82, e83⟩
        · rw [e80, e81]
          show w_W _ _ _ (79, [(2, .int (Int32.ofInt (v4))), (0, .ref 12), (1, .int (Int32.ofInt (p)))], [.int (Int32.ofInt (1)), .ref 12], M12) _
          refine w_adv (n := 3) (F' := (87, [(2, .int (Int32.ofInt (v4))), (0, .ref 12), (1, .int (Int32.ofInt (p)))], [.int (Int32.ofInt (1)), .ref 12], M12)) rfl ?_
          refine w_pf hR13 rfl rfl rfl rfl (show w_in (1) from ⟨by omega, by omega⟩) (fun h => absurd h (by decide)) (fun M84 hR85 => ?_)
          replace hR85 : w_Rep w_TC fr X u l (w_up (w_up I 776 (x9)) 775 (1)) A B C M84 := hR85
          refine w_adv (n := 4) (F' := (94, [(2, .int (Int32.ofInt (v4))), (0, .ref 12), (1, .int (Int32.ofInt (p)))], [.int (Int32.ofInt ((-1))), .int (Int32.ofInt (p)), .int (Int32.ofInt (3)), .ref 12], M84)) rfl ?_
          refine w_call (cm := 52) (as := [(0, .ref 12), (1, .int (Int32.ofInt (3))), (2, .int (Int32.ofInt (p))), (3, .int (Int32.ofInt ((-1))))]) (rest := []) (o := some (7, 12)) rfl (w_fitR hR85 rfl) (c_Tokens_add (3) (p) ((-1)) hR85 (show 1 ≤ d by omega) ⟨by omega, by omega⟩ ⟨by omega, by omega⟩ ⟨by omega, by omega⟩ (show 0 ≤ (I 773) ∧ (I 773) ≤ 1501 by first | assumption | omega)) (fun r86 M87 q88 => ?_)
          rcases q88 with ⟨g1389, g1490, g1591, e92, hR88a⟩
          rw [e92]
          replace hR88a : w_Rep w_TC fr X u l (w_up (w_up (w_up I 776 (x9)) 775 (1)) 773 ((I 773) + 1)) (w_upF (w_upF (w_upF A 13 g1389) 14 g1490) 15 g1591) B C M87 := hR88a
          show w_W _ _ _ (97, [(2, .int (Int32.ofInt (v4))), (0, .ref 12), (1, .int (Int32.ofInt (p)))], [], M87) _
          refine w_adv (n := 1) (F' := (126, [(2, .int (Int32.ofInt (v4))), (0, .ref 12), (1, .int (Int32.ofInt (p)))], [], M87)) rfl ?_
          refine w_fin (r := .inl none) (M' := M87) rfl ?_
          exact ⟨(w_up (w_up (w_up I 776 (x9)) 775 (1)) 773 ((I 773) + 1)), (w_upF (w_upF (w_upF A 13 g1389) 14 g1490) 15 g1591), B, C, rfl, hR88a, (show c_fr c_ts c_ta I A (w_up (w_up (w_up I 776 (x9)) 775 (1)) 773 ((I 773) + 1)) (w_upF (w_upF (w_upF A 13 g1389) 14 g1490) 15 g1591) by exact (c_fr_upF (c_fr_upF (c_fr_upF (c_fr_up (c_fr_up (c_fr_up c_fr_refl rfl) rfl) rfl) rfl) rfl) rfl)), (show 36 ≤ (I 200) ∧ (I 200) ≤ 419 ∧ 0 ≤ (I 202) ∧ (I 202) ≤ 24 by (repeat' apply And.intro) <;> first | assumption | omega), (show ∀ i, (A 5) i ≤ 24 by exact hLN), (show (I 773) + 1 = (I 773) + 1 ∧ (I 65) = (I 65) by (repeat' apply And.intro) <;> first | assumption | omega)⟩
        · rw [e82, e83]
          show w_W _ _ _ (79, [(2, .int (Int32.ofInt (v4))), (0, .ref 12), (1, .int (Int32.ofInt (p)))], [.int (Int32.ofInt (0)), .ref 12], M12) _
          refine w_adv (n := 2) (F' := (87, [(2, .int (Int32.ofInt (v4))), (0, .ref 12), (1, .int (Int32.ofInt (p)))], [.int (Int32.ofInt (0)), .ref 12], M12)) rfl ?_
          refine w_pf hR13 rfl rfl rfl rfl (show w_in (0) from ⟨by omega, by omega⟩) (fun h => absurd h (by decide)) (fun M93 hR94 => ?_)
          replace hR94 : w_Rep w_TC fr X u l (w_up (w_up I 776 (x9)) 775 (0)) A B C M93 := hR94
          refine w_adv (n := 4) (F' := (94, [(2, .int (Int32.ofInt (v4))), (0, .ref 12), (1, .int (Int32.ofInt (p)))], [.int (Int32.ofInt ((-1))), .int (Int32.ofInt (p)), .int (Int32.ofInt (3)), .ref 12], M93)) rfl ?_
          refine w_call (cm := 52) (as := [(0, .ref 12), (1, .int (Int32.ofInt (3))), (2, .int (Int32.ofInt (p))), (3, .int (Int32.ofInt ((-1))))]) (rest := []) (o := some (7, 12)) rfl (w_fitR hR94 rfl) (c_Tokens_add (3) (p) ((-1)) hR94 (show 1 ≤ d by omega) ⟨by omega, by omega⟩ ⟨by omega, by omega⟩ ⟨by omega, by omega⟩ (show 0 ≤ (I 773) ∧ (I 773) ≤ 1501 by first | assumption | omega)) (fun r95 M96 q97 => ?_)
          rcases q97 with ⟨g1398, g1499, g15100, e101, hR97a⟩
          rw [e101]
          replace hR97a : w_Rep w_TC fr X u l (w_up (w_up (w_up I 776 (x9)) 775 (0)) 773 ((I 773) + 1)) (w_upF (w_upF (w_upF A 13 g1398) 14 g1499) 15 g15100) B C M96 := hR97a
          show w_W _ _ _ (97, [(2, .int (Int32.ofInt (v4))), (0, .ref 12), (1, .int (Int32.ofInt (p)))], [], M96) _
          refine w_adv (n := 1) (F' := (126, [(2, .int (Int32.ofInt (v4))), (0, .ref 12), (1, .int (Int32.ofInt (p)))], [], M96)) rfl ?_
          refine w_fin (r := .inl none) (M' := M96) rfl ?_
          exact ⟨(w_up (w_up (w_up I 776 (x9)) 775 (0)) 773 ((I 773) + 1)), (w_upF (w_upF (w_upF A 13 g1398) 14 g1499) 15 g15100), B, C, rfl, hR97a, (show c_fr c_ts c_ta I A (w_up (w_up (w_up I 776 (x9)) 775 (0)) 773 ((I 773) + 1)) (w_upF (w_upF (w_upF A 13 g1398) 14 g1499) 15 g15100) by exact (c_fr_upF (c_fr_upF (c_fr_upF (c_fr_up (c_fr_up (c_fr_up c_fr_refl rfl) rfl) rfl) rfl) rfl) rfl)), (show 36 ≤ (I 200) ∧ (I 200) ≤ 419 ∧ 0 ≤ (I 202) ∧ (I 202) ≤ 24 by (repeat' apply And.intro) <;> first | assumption | omega), (show ∀ i, (A 5) i ≤ 24 by exact hLN), (show (I 773) + 1 = (I 773) + 1 ∧ (I 65) = (I 65) by (repeat' apply And.intro) <;> first | assumption | omega)⟩
    · have h15 : ¬ (v4 < 65) := h15
      show w_W _ _ _ (43, [(2, .int (Int32.ofInt (v4))), (0, .ref 12), (1, .int (Int32.ofInt (p)))], [], M12) _
      refine w_adv (n := 2) (F' := (46, [(2, .int (Int32.ofInt (v4))), (0, .ref 12), (1, .int (Int32.ofInt (p)))], [.int (Int32.ofInt (90)), .int (Int32.ofInt (v4))], M12)) rfl ?_
      refine w_br2 (a := v4) (b := 90) rfl rfl ⟨by omega, by omega⟩ ⟨by omega, by omega⟩ (fun h102 => ?_) (fun h102 => ?_)
      · have h102 : v4 > 90 := h102
        show w_W _ _ _ (58, [(2, .int (Int32.ofInt (v4))), (0, .ref 12), (1, .int (Int32.ofInt (p)))], [], M12) _
        refine w_adv (n := 2) (F' := (61, [(2, .int (Int32.ofInt (v4))), (0, .ref 12), (1, .int (Int32.ofInt (p)))], [.int (Int32.ofInt (95)), .int (Int32.ofInt (v4))], M12)) rfl ?_
        refine w_br2 (a := v4) (b := 95) rfl rfl ⟨by omega, by omega⟩ ⟨by omega, by omega⟩ (fun h103 => ?_) (fun h103 => ?_)
        · have h103 : ¬ v4 = 95 := h103
          show w_W _ _ _ (100, [(2, .int (Int32.ofInt (v4))), (0, .ref 12), (1, .int (Int32.ofInt (p)))], [], M12) _
          refine w_adv (n := 1) (F' := (101, [(2, .int (Int32.ofInt (v4))), (0, .ref 12), (1, .int (Int32.ofInt (p)))], [.int (Int32.ofInt (v4))], M12)) rfl ?_
          refine w_call (cm := 51) (as := [(0, .int (Int32.ofInt (v4)))]) (rest := []) (o := none) rfl (trivial) (c_isDigit (v4) hR13 ⟨by omega, by omega⟩) (fun r104 M105 q106 => ?_)
          rcases q106 with ⟨e107, e108⟩ | ⟨e109, e110⟩
          · rw [e107, e108]
            show w_W _ _ _ (104, [(2, .int (Int32.ofInt (v4))), (0, .ref 12), (1, .int (Int32.ofInt (p)))], [.int (Int32.ofInt (1))], M12) _
            refine w_adv (n := 3) (F' := (115, [(2, .int (Int32.ofInt (v4))), (0, .ref 12), (1, .int (Int32.ofInt (p)))], [.int (Int32.ofInt (p)), .ref 12], M12)) rfl ?_
            refine w_call (cm := 55) (as := [(0, .ref 12), (1, .int (Int32.ofInt (p)))]) (rest := []) (o := some (7, 12)) rfl (w_fitR hR13 rfl) (c_integer (p) hR13 (show 3 ≤ d by omega) ⟨by omega, by omega⟩ (show 0 ≤ (I 773) ∧ (I 773) ≤ 1501 by first | assumption | omega) (show 36 ≤ (I 200) ∧ (I 200) ≤ 419 ∧ 0 ≤ (I 202) ∧ (I 202) ≤ 24 by (repeat' apply And.intro) <;> first | assumption | omega) (show ∀ i, (A 5) i ≤ 24 by exact hLN)) (fun r111 M112 q113 => ?_)
            rcases q113 with ⟨I113a, A113a, B113a, C113a, e114, hR113a, f115, f116, f117, f118⟩
            rw [e114]
            replace hR113a : w_Rep w_TC fr X u l I113a A113a B113a C113a M112 := hR113a
            replace f115 : c_fr c_ts c_ta (w_up I 776 (x9)) A I113a A113a := f115
            replace f116 : 36 ≤ (I113a 200) ∧ (I113a 200) ≤ 419 ∧ 0 ≤ (I113a 202) ∧ (I113a 202) ≤ 24 := f116
            obtain ⟨n119, n120, n121, n122⟩ := id f116
            clear f116
            replace f117 : ∀ i, (A113a 5) i ≤ 24 := f117
            replace f118 : (I113a 773) = (I 773) + 1 ∧ (I113a 65) = (I 65) := f118
            obtain ⟨n123, n124⟩ := id f118
            clear f118
            show w_W _ _ _ (118, [(2, .int (Int32.ofInt (v4))), (0, .ref 12), (1, .int (Int32.ofInt (p)))], [], M112) _
            refine w_adv (n := 1) (F' := (126, [(2, .int (Int32.ofInt (v4))), (0, .ref 12), (1, .int (Int32.ofInt (p)))], [], M112)) rfl ?_
            refine w_fin (r := .inl none) (M' := M112) rfl ?_
            exact ⟨I113a, A113a, B113a, C113a, rfl, hR113a, (show c_fr c_ts c_ta I A I113a A113a by exact (c_fr_trans (c_fr_up c_fr_refl rfl) f115)), (show 36 ≤ (I113a 200) ∧ (I113a 200) ≤ 419 ∧ 0 ≤ (I113a 202) ∧ (I113a 202) ≤ 24 by (repeat' apply And.intro) <;> first | assumption | omega), (show ∀ i, (A113a 5) i ≤ 24 by exact f117), (show (I113a 773) = (I 773) + 1 ∧ (I113a 65) = (I 65) by (repeat' apply And.intro) <;> first | assumption | omega)⟩
          · rw [e109, e110]
            show w_W _ _ _ (104, [(2, .int (Int32.ofInt (v4))), (0, .ref 12), (1, .int (Int32.ofInt (p)))], [.int (Int32.ofInt (0))], M12) _
            refine w_adv (n := 3) (F' := (110, [(2, .int (Int32.ofInt (v4))), (0, .ref 12), (1, .int (Int32.ofInt (p)))], [.int (Int32.ofInt (126)), .int (Int32.ofInt (v4))], M12)) rfl ?_
            refine w_br2 (a := v4) (b := 126) rfl rfl ⟨by omega, by omega⟩ ⟨by omega, by omega⟩ (fun h125 => ?_) (fun h125 => ?_)
            · have h125 : ¬ v4 = 126 := h125
              show w_W _ _ _ (121, [(2, .int (Int32.ofInt (v4))), (0, .ref 12), (1, .int (Int32.ofInt (p)))], [], M12) _
              refine w_adv (n := 2) (F' := (123, [(2, .int (Int32.ofInt (v4))), (0, .ref 12), (1, .int (Int32.ofInt (p)))], [.int (Int32.ofInt (p)), .ref 12], M12)) rfl ?_
              refine w_call (cm := 57) (as := [(0, .ref 12), (1, .int (Int32.ofInt (p)))]) (rest := []) (o := some (7, 12)) rfl (w_fitR hR13 rfl) (c_sign (p) hR13 (show 6 ≤ d by omega) ⟨by omega, by omega⟩ (show 0 ≤ (I 773) ∧ (I 773) ≤ 1501 by first | assumption | omega) (show 36 ≤ (I 200) ∧ (I 200) ≤ 419 ∧ 0 ≤ (I 202) ∧ (I 202) ≤ 24 by (repeat' apply And.intro) <;> first | assumption | omega) (show ∀ i, (A 5) i ≤ 24 by exact hLN)) (fun r126 M127 q128 => ?_)
              rcases q128 with ⟨I128a, A128a, B128a, C128a, e129, hR128a, f130, f131, f132, f133⟩
              rw [e129]
              replace hR128a : w_Rep w_TC fr X u l I128a A128a B128a C128a M127 := hR128a
              replace f130 : c_fr c_ts c_ta (w_up I 776 (x9)) A I128a A128a := f130
              replace f131 : 36 ≤ (I128a 200) ∧ (I128a 200) ≤ 419 ∧ 0 ≤ (I128a 202) ∧ (I128a 202) ≤ 24 := f131
              obtain ⟨n134, n135, n136, n137⟩ := id f131
              clear f131
              replace f132 : ∀ i, (A128a 5) i ≤ 24 := f132
              replace f133 : (I128a 773) = (I 773) + 1 ∧ (I128a 65) = (I 65) := f133
              obtain ⟨n138, n139⟩ := id f133
              clear f133
              show w_W _ _ _ (126, [(2, .int (Int32.ofInt (v4))), (0, .ref 12), (1, .int (Int32.ofInt (p)))], [], M127) _
              refine w_fin (r := .inl none) (M' := M127) rfl ?_
              exact ⟨I128a, A128a, B128a, C128a, rfl, hR128a, (show c_fr c_ts c_ta I A I128a A128a by exact (c_fr_trans (c_fr_up c_fr_refl rfl) f130)), (show 36 ≤ (I128a 200) ∧ (I128a 200) ≤ 419 ∧ 0 ≤ (I128a 202) ∧ (I128a 202) ≤ 24 by (repeat' apply And.intro) <;> first | assumption | omega), (show ∀ i, (A128a 5) i ≤ 24 by exact f132), (show (I128a 773) = (I 773) + 1 ∧ (I128a 65) = (I 65) by (repeat' apply And.intro) <;> first | assumption | omega)⟩
            · have h125 : ¬ (¬ v4 = 126) := h125
              show w_W _ _ _ (113, [(2, .int (Int32.ofInt (v4))), (0, .ref 12), (1, .int (Int32.ofInt (p)))], [], M12) _
              refine w_adv (n := 2) (F' := (115, [(2, .int (Int32.ofInt (v4))), (0, .ref 12), (1, .int (Int32.ofInt (p)))], [.int (Int32.ofInt (p)), .ref 12], M12)) rfl ?_
              refine w_call (cm := 55) (as := [(0, .ref 12), (1, .int (Int32.ofInt (p)))]) (rest := []) (o := some (7, 12)) rfl (w_fitR hR13 rfl) (c_integer (p) hR13 (show 3 ≤ d by omega) ⟨by omega, by omega⟩ (show 0 ≤ (I 773) ∧ (I 773) ≤ 1501 by first | assumption | omega) (show 36 ≤ (I 200) ∧ (I 200) ≤ 419 ∧ 0 ≤ (I 202) ∧ (I 202) ≤ 24 by (repeat' apply And.intro) <;> first | assumption | omega) (show ∀ i, (A 5) i ≤ 24 by exact hLN)) (fun r140 M141 q142 => ?_)
              rcases q142 with ⟨I142a, A142a, B142a, C142a, e143, hR142a, f144, f145, f146, f147⟩
              rw [e143]
              replace hR142a : w_Rep w_TC fr X u l I142a A142a B142a C142a M141 := hR142a
              replace f144 : c_fr c_ts c_ta (w_up I 776 (x9)) A I142a A142a := f144
              replace f145 : 36 ≤ (I142a 200) ∧ (I142a 200) ≤ 419 ∧ 0 ≤ (I142a 202) ∧ (I142a 202) ≤ 24 := f145
              obtain ⟨n148, n149, n150, n151⟩ := id f145
              clear f145
              replace f146 : ∀ i, (A142a 5) i ≤ 24 := f146
              replace f147 : (I142a 773) = (I 773) + 1 ∧ (I142a 65) = (I 65) := f147
              obtain ⟨n152, n153⟩ := id f147
              clear f147
              show w_W _ _ _ (118, [(2, .int (Int32.ofInt (v4))), (0, .ref 12), (1, .int (Int32.ofInt (p)))], [], M141) _
              refine w_adv (n := 1) (F' := (126, [(2, .int (Int32.ofInt (v4))), (0, .ref 12), (1, .int (Int32.ofInt (p)))], [], M141)) rfl ?_
              refine w_fin (r := .inl none) (M' := M141) rfl ?_
              exact ⟨I142a, A142a, B142a, C142a, rfl, hR142a, (show c_fr c_ts c_ta I A I142a A142a by exact (c_fr_trans (c_fr_up c_fr_refl rfl) f144)), (show 36 ≤ (I142a 200) ∧ (I142a 200) ≤ 419 ∧ 0 ≤ (I142a 202) ∧ (I142a 202) ≤ 24 by (repeat' apply And.intro) <;> first | assumption | omega), (show ∀ i, (A142a 5) i ≤ 24 by exact f146), (show (I142a 773) = (I 773) + 1 ∧ (I142a 65) = (I 65) by (repeat' apply And.intro) <;> first | assumption | omega)⟩
        · have h103 : ¬ (¬ v4 = 95) := h103
          show w_W _ _ _ (64, [(2, .int (Int32.ofInt (v4))), (0, .ref 12), (1, .int (Int32.ofInt (p)))], [], M12) _
          refine w_adv (n := 2) (F' := (66, [(2, .int (Int32.ofInt (v4))), (0, .ref 12), (1, .int (Int32.ofInt (p)))], [.ref 12, .ref 12], M12)) rfl ?_
          refine w_gf (v := .ref 1) hR13 rfl rfl rfl rfl ?_
          refine w_adv (n := 1) (F' := (70, [(2, .int (Int32.ofInt (v4))), (0, .ref 12), (1, .int (Int32.ofInt (p)))], [.ref 12, .ref 1, .ref 12], M12)) rfl ?_
          refine w_gf (v := .int (Int32.ofInt (x9))) hR13 rfl rfl rfl rfl ?_
          obtain ⟨r154, r155⟩ : -2147483648 ≤ x9 ∧ x9 ≤ 2147483647 := hR13.ri 776
          refine w_call (cm := 46) (as := [(0, .ref 1), (1, .int (Int32.ofInt (x9)))]) (rest := [.ref 12]) (o := some (6, 1)) rfl (w_fitR hR13 rfl) (c_byteAt (x9) hR13 (show 1 ≤ d by omega) ⟨by omega, by omega⟩) (fun r156 M157 q158 => ?_)
          rcases q158 with ⟨v159, e160, ⟨r161, r162⟩, e163⟩
          rw [e160, e163]
          show w_W _ _ _ (76, [(2, .int (Int32.ofInt (v4))), (0, .ref 12), (1, .int (Int32.ofInt (p)))], [.int (Int32.ofInt (v159)), .ref 12], M12) _
          refine w_call (cm := 50) (as := [(0, .int (Int32.ofInt (v159)))]) (rest := [.ref 12]) (o := none) rfl (trivial) (c_isNamePart (v159) hR13 (show 1 ≤ d by omega) ⟨by omega, by omega⟩) (fun r164 M165 q166 => ?_)
          rcases q166 with ⟨e167, e168⟩ | ⟨e169, e170⟩
          · rw [e167, e168]
            show w_W _ _ _ (79, [(2, .int (Int32.ofInt (v4))), (0, .ref 12), (1, .int (Int32.ofInt (p)))], [.int (Int32.ofInt (1)), .ref 12], M12) _
            refine w_adv (n := 3) (F' := (87, [(2, .int (Int32.ofInt (v4))), (0, .ref 12), (1, .int (Int32.ofInt (p)))], [.int (Int32.ofInt (1)), .ref 12], M12)) rfl ?_
            refine w_pf hR13 rfl rfl rfl rfl (show w_in (1) from ⟨by omega, by omega⟩) (fun h => absurd h (by decide)) (fun M171 hR172 => ?_)
            replace hR172 : w_Rep w_TC fr X u l (w_up (w_up I 776 (x9)) 775 (1)) A B C M171 := hR172
            refine w_adv (n := 4) (F' := (94, [(2, .int (Int32.ofInt (v4))), (0, .ref 12), (1, .int (Int32.ofInt (p)))], [.int (Int32.ofInt ((-1))), .int (Int32.ofInt (p)), .int (Int32.ofInt (3)), .ref 12], M171)) rfl ?_
            refine w_call (cm := 52) (as := [(0, .ref 12), (1, .int (Int32.ofInt (3))), (2, .int (Int32.ofInt (p))), (3, .int (Int32.ofInt ((-1))))]) (rest := []) (o := some (7, 12)) rfl (w_fitR hR172 rfl) (c_Tokens_add (3) (p) ((-1)) hR172 (show 1 ≤ d by omega) ⟨by omega, by omega⟩ ⟨by omega, by omega⟩ ⟨by omega, by omega⟩ (show 0 ≤ (I 773) ∧ (I 773) ≤ 1501 by first | assumption | omega)) (fun r173 M174 q175 => ?_)
            rcases q175 with ⟨g13176, g14177, g15178, e179, hR175a⟩
            rw [e179]
            replace hR175a : w_Rep w_TC fr X u l (w_up (w_up (w_up I 776 (x9)) 775 (1)) 773 ((I 773) + 1)) (w_upF (w_upF (w_upF A 13 g13176) 14 g14177) 15 g15178) B C M174 := hR175a
            show w_W _ _ _ (97, [(2, .int (Int32.ofInt (v4))), (0, .ref 12), (1, .int (Int32.ofInt (p)))], [], M174) _
            refine w_adv (n := 1) (F' := (126, [(2, .int (Int32.ofInt (v4))), (0, .ref 12), (1, .int (Int32.ofInt (p)))], [], M174)) rfl ?_
            refine w_fin (r := .inl none) (M' := M174) rfl ?_
            exact ⟨(w_up (w_up (w_up I 776 (x9)) 775 (1)) 773 ((I 773) + 1)), (w_upF (w_upF (w_upF A 13 g13176) 14 g14177) 15 g15178), B, C, rfl, hR175a, (show c_fr c_ts c_ta I A (w_up (w_up (w_up I 776 (x9)) 775 (1)) 773 ((I 773) + 1)) (w_upF (w_upF (w_upF A 13 g13176) 14 g14177) 15 g15178) by exact (c_fr_upF (c_fr_upF (c_fr_upF (c_fr_up (c_fr_up (c_fr_up c_fr_refl rfl) rfl) rfl) rfl) rfl) rfl)), (show 36 ≤ (I 200) ∧ (I 200) ≤ 419 ∧ 0 ≤ (I 202) ∧ (I 202) ≤ 24 by (repeat' apply And.intro) <;> first | assumption | omega), (show ∀ i, (A 5) i ≤ 24 by exact hLN), (show (I 773) + 1 = (I 773) + 1 ∧ (I 65) = (I 65) by (repeat' apply And.intro) <;> first | assumption | omega)⟩
          · rw [e169, e170]
            show w_W _ _ _ (79, [(2, .int (Int32.ofInt (v4))), (0, .ref 12), (1, .int (Int32.ofInt (p)))], [.int (Int32.ofInt (0)), .ref 12], M12) _
            refine w_adv (n := 2) (F' := (87, [(2, .int (Int32.ofInt (v4))), (0, .ref 12), (1, .int (Int32.ofInt (p)))], [.int (Int32.ofInt (0)), .ref 12], M12)) rfl ?_
            refine w_pf hR13 rfl rfl rfl rfl (show w_in (0) from ⟨by omega, by omega⟩) (fun h => absurd h (by decide)) (fun M180 hR181 => ?_)
            replace hR181 : w_Rep w_TC fr X u l (w_up (w_up I 776 (x9)) 775 (0)) A B C M180 := hR181
            refine w_adv (n := 4) (F' := (94, [(2, .int (Int32.ofInt (v4))), (0, .ref 12), (1, .int (Int32.ofInt (p)))], [.int (Int32.ofInt ((-1))), .int (Int32.ofInt (p)), .int (Int32.ofInt (3)), .ref 12], M180)) rfl ?_
            refine w_call (cm := 52) (as := [(0, .ref 12), (1, .int (Int32.ofInt (3))), (2, .int (Int32.ofInt (p))), (3, .int (Int32.ofInt ((-1))))]) (rest := []) (o := some (7, 12)) rfl (w_fitR hR181 rfl) (c_Tokens_add (3) (p) ((-1)) hR181 (show 1 ≤ d by omega) ⟨by omega, by omega⟩ ⟨by omega, by omega⟩ ⟨by omega, by omega⟩ (show 0 ≤ (I 773) ∧ (I 773) ≤ 1501 by first | assumption | omega)) (fun r182 M183 q184 => ?_)
            rcases q184 with ⟨g13185, g14186, g15187, e188, hR184a⟩
            rw [e188]
            replace hR184a : w_Rep w_TC fr X u l (w_up (w_up (w_up I 776 (x9)) 775 (0)) 773 ((I 773) + 1)) (w_upF (w_upF (w_upF A 13 g13185) 14 g14186) 15 g15187) B C M183 := hR184a
            show w_W _ _ _ (97, [(2, .int (Int32.ofInt (v4))), (0, .ref 12), (1, .int (Int32.ofInt (p)))], [], M183) _
            refine w_adv (n := 1) (F' := (126, [(2, .int (Int32.ofInt (v4))), (0, .ref 12), (1, .int (Int32.ofInt (p)))], [], M183)) rfl ?_
            refine w_fin (r := .inl none) (M' := M183) rfl ?_
            exact ⟨(w_up (w_up (w_up I 776 (x9)) 775 (0)) 773 ((I 773) + 1)), (w_upF (w_upF (w_upF A 13 g13185) 14 g14186) 15 g15187), B, C, rfl, hR184a, (show c_fr c_ts c_ta I A (w_up (w_up (w_up I 776 (x9)) 775 (0)) 773 ((I 773) + 1)) (w_upF (w_upF (w_upF A 13 g13185) 14 g14186) 15 g15187) by exact (c_fr_upF (c_fr_upF (c_fr_upF (c_fr_up (c_fr_up (c_fr_up c_fr_refl rfl) rfl) rfl) rfl) rfl) rfl)), (show 36 ≤ (I 200) ∧ (I 200) ≤ 419 ∧ 0 ≤ (I 202) ∧ (I 202) ≤ 24 by (repeat' apply And.intro) <;> first | assumption | omega), (show ∀ i, (A 5) i ≤ 24 by exact hLN), (show (I 773) + 1 = (I 773) + 1 ∧ (I 65) = (I 65) by (repeat' apply And.intro) <;> first | assumption | omega)⟩
      · have h102 : ¬ (v4 > 90) := h102
        show w_W _ _ _ (49, [(2, .int (Int32.ofInt (v4))), (0, .ref 12), (1, .int (Int32.ofInt (p)))], [], M12) _
        refine w_adv (n := 3) (F' := (52, [(2, .int (Int32.ofInt (v4))), (0, .ref 12), (1, .int (Int32.ofInt (p)))], [.int (Int32.ofInt (2)), .int (Int32.ofInt (p)), .ref 12], M12)) rfl ?_
        refine w_call (cm := 48) (as := [(0, .ref 12), (1, .int (Int32.ofInt (p))), (2, .int (Int32.ofInt (2)))]) (rest := []) (o := some (7, 12)) rfl (w_fitR hR13 rfl) (c_name (p) (2) hR13 (show 5 ≤ d by omega) ⟨by omega, by omega⟩ ⟨by omega, by omega⟩ (show 0 ≤ (I 773) ∧ (I 773) ≤ 1501 by first | assumption | omega) (show 36 ≤ (I 200) ∧ (I 200) ≤ 419 ∧ 0 ≤ (I 202) ∧ (I 202) ≤ 24 by (repeat' apply And.intro) <;> first | assumption | omega) (show ∀ i, (A 5) i ≤ 24 by exact hLN)) (fun r189 M190 q191 => ?_)
        rcases q191 with ⟨I191a, A191a, B191a, C191a, e192, hR191a, f193, f194, f195, f196⟩
        rw [e192]
        replace hR191a : w_Rep w_TC fr X u l I191a A191a B191a C191a M190 := hR191a
        replace f193 : c_fr c_ts c_ta (w_up I 776 (x9)) A I191a A191a := f193
        replace f194 : 36 ≤ (I191a 200) ∧ (I191a 200) ≤ 419 ∧ 0 ≤ (I191a 202) ∧ (I191a 202) ≤ 24 := f194
        obtain ⟨n197, n198, n199, n200⟩ := id f194
        clear f194
        replace f195 : ∀ i, (A191a 5) i ≤ 24 := f195
        replace f196 : (I191a 773) = (I 773) + 1 ∧ (I191a 65) = (I 65) := f196
        obtain ⟨n201, n202⟩ := id f196
        clear f196
        show w_W _ _ _ (55, [(2, .int (Int32.ofInt (v4))), (0, .ref 12), (1, .int (Int32.ofInt (p)))], [], M190) _
        refine w_adv (n := 1) (F' := (126, [(2, .int (Int32.ofInt (v4))), (0, .ref 12), (1, .int (Int32.ofInt (p)))], [], M190)) rfl ?_
        refine w_fin (r := .inl none) (M' := M190) rfl ?_
        exact ⟨I191a, A191a, B191a, C191a, rfl, hR191a, (show c_fr c_ts c_ta I A I191a A191a by exact (c_fr_trans (c_fr_up c_fr_refl rfl) f193)), (show 36 ≤ (I191a 200) ∧ (I191a 200) ≤ 419 ∧ 0 ≤ (I191a 202) ∧ (I191a 202) ≤ 24 by (repeat' apply And.intro) <;> first | assumption | omega), (show ∀ i, (A191a 5) i ≤ 24 by exact f195), (show (I191a 773) = (I 773) + 1 ∧ (I191a 65) = (I 65) by (repeat' apply And.intro) <;> first | assumption | omega)⟩
  · have h14 : ¬ (v4 < 97) := h14
    show w_W _ _ _ (22, [(2, .int (Int32.ofInt (v4))), (0, .ref 12), (1, .int (Int32.ofInt (p)))], [], M12) _
    refine w_adv (n := 2) (F' := (25, [(2, .int (Int32.ofInt (v4))), (0, .ref 12), (1, .int (Int32.ofInt (p)))], [.int (Int32.ofInt (122)), .int (Int32.ofInt (v4))], M12)) rfl ?_
    refine w_br2 (a := v4) (b := 122) rfl rfl ⟨by omega, by omega⟩ ⟨by omega, by omega⟩ (fun h203 => ?_) (fun h203 => ?_)
    · have h203 : v4 > 122 := h203
      show w_W _ _ _ (37, [(2, .int (Int32.ofInt (v4))), (0, .ref 12), (1, .int (Int32.ofInt (p)))], [], M12) _
      refine w_adv (n := 2) (F' := (40, [(2, .int (Int32.ofInt (v4))), (0, .ref 12), (1, .int (Int32.ofInt (p)))], [.int (Int32.ofInt (65)), .int (Int32.ofInt (v4))], M12)) rfl ?_
      refine w_br2 (a := v4) (b := 65) rfl rfl ⟨by omega, by omega⟩ ⟨by omega, by omega⟩ (fun h204 => ?_) (fun h204 => ?_)
      · have h204 : v4 < 65 := h204
        show w_W _ _ _ (58, [(2, .int (Int32.ofInt (v4))), (0, .ref 12), (1, .int (Int32.ofInt (p)))], [], M12) _
        refine w_adv (n := 2) (F' := (61, [(2, .int (Int32.ofInt (v4))), (0, .ref 12), (1, .int (Int32.ofInt (p)))], [.int (Int32.ofInt (95)), .int (Int32.ofInt (v4))], M12)) rfl ?_
        refine w_br2 (a := v4) (b := 95) rfl rfl ⟨by omega, by omega⟩ ⟨by omega, by omega⟩ (fun h205 => ?_) (fun h205 => ?_)
        · have h205 : ¬ v4 = 95 := h205
          show w_W _ _ _ (100, [(2, .int (Int32.ofInt (v4))), (0, .ref 12), (1, .int (Int32.ofInt (p)))], [], M12) _
          refine w_adv (n := 1) (F' := (101, [(2, .int (Int32.ofInt (v4))), (0, .ref 12), (1, .int (Int32.ofInt (p)))], [.int (Int32.ofInt (v4))], M12)) rfl ?_
          refine w_call (cm := 51) (as := [(0, .int (Int32.ofInt (v4)))]) (rest := []) (o := none) rfl (trivial) (c_isDigit (v4) hR13 ⟨by omega, by omega⟩) (fun r206 M207 q208 => ?_)
          rcases q208 with ⟨e209, e210⟩ | ⟨e211, e212⟩
          · rw [e209, e210]
            show w_W _ _ _ (104, [(2, .int (Int32.ofInt (v4))), (0, .ref 12), (1, .int (Int32.ofInt (p)))], [.int (Int32.ofInt (1))], M12) _
            refine w_adv (n := 3) (F' := (115, [(2, .int (Int32.ofInt (v4))), (0, .ref 12), (1, .int (Int32.ofInt (p)))], [.int (Int32.ofInt (p)), .ref 12], M12)) rfl ?_
            refine w_call (cm := 55) (as := [(0, .ref 12), (1, .int (Int32.ofInt (p)))]) (rest := []) (o := some (7, 12)) rfl (w_fitR hR13 rfl) (c_integer (p) hR13 (show 3 ≤ d by omega) ⟨by omega, by omega⟩ (show 0 ≤ (I 773) ∧ (I 773) ≤ 1501 by first | assumption | omega) (show 36 ≤ (I 200) ∧ (I 200) ≤ 419 ∧ 0 ≤ (I 202) ∧ (I 202) ≤ 24 by (repeat' apply And.intro) <;> first | assumption | omega) (show ∀ i, (A 5) i ≤ 24 by exact hLN)) (fun r213 M214 q215 => ?_)
            rcases q215 with ⟨I215a, A215a, B215a, C215a, e216, hR215a, f217, f218, f219, f220⟩
            rw [e216]
            replace hR215a : w_Rep w_TC fr X u l I215a A215a B215a C215a M214 := hR215a
            replace f217 : c_fr c_ts c_ta (w_up I 776 (x9)) A I215a A215a := f217
            replace f218 : 36 ≤ (I215a 200) ∧ (I215a 200) ≤ 419 ∧ 0 ≤ (I215a 202) ∧ (I215a 202) ≤ 24 := f218
            obtain ⟨n221, n222, n223, n224⟩ := id f218
            clear f218
            replace f219 : ∀ i, (A215a 5) i ≤ 24 := f219
            replace f220 : (I215a 773) = (I 773) + 1 ∧ (I215a 65) = (I 65) := f220
            obtain ⟨n225, n226⟩ := id f220
            clear f220
            show w_W _ _ _ (118, [(2, .int (Int32.ofInt (v4))), (0, .ref 12), (1, .int (Int32.ofInt (p)))], [], M214) _
            refine w_adv (n := 1) (F' := (126, [(2, .int (Int32.ofInt (v4))), (0, .ref 12), (1, .int (Int32.ofInt (p)))], [], M214)) rfl ?_
            refine w_fin (r := .inl none) (M' := M214) rfl ?_
            exact ⟨I215a, A215a, B215a, C215a, rfl, hR215a, (show c_fr c_ts c_ta I A I215a A215a by exact (c_fr_trans (c_fr_up c_fr_refl rfl) f217)), (show 36 ≤ (I215a 200) ∧ (I215a 200) ≤ 419 ∧ 0 ≤ (I215a 202) ∧ (I215a 202) ≤ 24 by (repeat' apply And.intro) <;> first | assumption | omega), (show ∀ i, (A215a 5) i ≤ 24 by exact f219), (show (I215a 773) = (I 773) + 1 ∧ (I215a 65) = (I 65) by (repeat' apply And.intro) <;> first | assumption | omega)⟩
          · rw [e211, e212]
            show w_W _ _ _ (104, [(2, .int (Int32.ofInt (v4))), (0, .ref 12), (1, .int (Int32.ofInt (p)))], [.int (Int32.ofInt (0))], M12) _
            refine w_adv (n := 3) (F' := (110, [(2, .int (Int32.ofInt (v4))), (0, .ref 12), (1, .int (Int32.ofInt (p)))], [.int (Int32.ofInt (126)), .int (Int32.ofInt (v4))], M12)) rfl ?_
            refine w_br2 (a := v4) (b := 126) rfl rfl ⟨by omega, by omega⟩ ⟨by omega, by omega⟩ (fun h227 => ?_) (fun h227 => ?_)
            · have h227 : ¬ v4 = 126 := h227
              show w_W _ _ _ (121, [(2, .int (Int32.ofInt (v4))), (0, .ref 12), (1, .int (Int32.ofInt (p)))], [], M12) _
              refine w_adv (n := 2) (F' := (123, [(2, .int (Int32.ofInt (v4))), (0, .ref 12), (1, .int (Int32.ofInt (p)))], [.int (Int32.ofInt (p)), .ref 12], M12)) rfl ?_
              refine w_call (cm := 57) (as := [(0, .ref 12), (1, .int (Int32.ofInt (p)))]) (rest := []) (o := some (7, 12)) rfl (w_fitR hR13 rfl) (c_sign (p) hR13 (show 6 ≤ d by omega) ⟨by omega, by omega⟩ (show 0 ≤ (I 773) ∧ (I 773) ≤ 1501 by first | assumption | omega) (show 36 ≤ (I 200) ∧ (I 200) ≤ 419 ∧ 0 ≤ (I 202) ∧ (I 202) ≤ 24 by (repeat' apply And.intro) <;> first | assumption | omega) (show ∀ i, (A 5) i ≤ 24 by exact hLN)) (fun r228 M229 q230 => ?_)
              rcases q230 with ⟨I230a, A230a, B230a, C230a, e231, hR230a, f232, f233, f234, f235⟩
              rw [e231]
              replace hR230a : w_Rep w_TC fr X u l I230a A230a B230a C230a M229 := hR230a
              replace f232 : c_fr c_ts c_ta (w_up I 776 (x9)) A I230a A230a := f232
              replace f233 : 36 ≤ (I230a 200) ∧ (I230a 200) ≤ 419 ∧ 0 ≤ (I230a 202) ∧ (I230a 202) ≤ 24 := f233
              obtain ⟨n236, n237, n238, n239⟩ := id f233
              clear f233
              replace f234 : ∀ i, (A230a 5) i ≤ 24 := f234
              replace f235 : (I230a 773) = (I 773) + 1 ∧ (I230a 65) = (I 65) := f235
              obtain ⟨n240, n241⟩ := id f235
              clear f235
              show w_W _ _ _ (126, [(2, .int (Int32.ofInt (v4))), (0, .ref 12), (1, .int (Int32.ofInt (p)))], [], M229) _
              refine w_fin (r := .inl none) (M' := M229) rfl ?_
              exact ⟨I230a, A230a, B230a, C230a, rfl, hR230a, (show c_fr c_ts c_ta I A I230a A230a by exact (c_fr_trans (c_fr_up c_fr_refl rfl) f232)), (show 36 ≤ (I230a 200) ∧ (I230a 200) ≤ 419 ∧ 0 ≤ (I230a 202) ∧ (I230a 202) ≤ 24 by (repeat' apply And.intro) <;> first | assumption | omega), (show ∀ i, (A230a 5) i ≤ 24 by exact f234), (show (I230a 773) = (I 773) + 1 ∧ (I230a 65) = (I 65) by (repeat' apply And.intro) <;> first | assumption | omega)⟩
            · have h227 : ¬ (¬ v4 = 126) := h227
              show w_W _ _ _ (113, [(2, .int (Int32.ofInt (v4))), (0, .ref 12), (1, .int (Int32.ofInt (p)))], [], M12) _
              refine w_adv (n := 2) (F' := (115, [(2, .int (Int32.ofInt (v4))), (0, .ref 12), (1, .int (Int32.ofInt (p)))], [.int (Int32.ofInt (p)), .ref 12], M12)) rfl ?_
              refine w_call (cm := 55) (as := [(0, .ref 12), (1, .int (Int32.ofInt (p)))]) (rest := []) (o := some (7, 12)) rfl (w_fitR hR13 rfl) (c_integer (p) hR13 (show 3 ≤ d by omega) ⟨by omega, by omega⟩ (show 0 ≤ (I 773) ∧ (I 773) ≤ 1501 by first | assumption | omega) (show 36 ≤ (I 200) ∧ (I 200) ≤ 419 ∧ 0 ≤ (I 202) ∧ (I 202) ≤ 24 by (repeat' apply And.intro) <;> first | assumption | omega) (show ∀ i, (A 5) i ≤ 24 by exact hLN)) (fun r242 M243 q244 => ?_)
              rcases q244 with ⟨I244a, A244a, B244a, C244a, e245, hR244a, f246, f247, f248, f249⟩
              rw [e245]
              replace hR244a : w_Rep w_TC fr X u l I244a A244a B244a C244a M243 := hR244a
              replace f246 : c_fr c_ts c_ta (w_up I 776 (x9)) A I244a A244a := f246
              replace f247 : 36 ≤ (I244a 200) ∧ (I244a 200) ≤ 419 ∧ 0 ≤ (I244a 202) ∧ (I244a 202) ≤ 24 := f247
              obtain ⟨n250, n251, n252, n253⟩ := id f247
              clear f247
              replace f248 : ∀ i, (A244a 5) i ≤ 24 := f248
              replace f249 : (I244a 773) = (I 773) + 1 ∧ (I244a 65) = (I 65) := f249
              obtain ⟨n254, n255⟩ := id f249
              clear f249
              show w_W _ _ _ (118, [(2, .int (Int32.ofInt (v4))), (0, .ref 12), (1, .int (Int32.ofInt (p)))], [], M243) _
              refine w_adv (n := 1) (F' := (126, [(2, .int (Int32.ofInt (v4))), (0, .ref 12), (1, .int (Int32.ofInt (p)))], [], M243)) rfl ?_
              refine w_fin (r := .inl none) (M' := M243) rfl ?_
              exact ⟨I244a, A244a, B244a, C244a, rfl, hR244a, (show c_fr c_ts c_ta I A I244a A244a by exact (c_fr_trans (c_fr_up c_fr_refl rfl) f246)), (show 36 ≤ (I244a 200) ∧ (I244a 200) ≤ 419 ∧ 0 ≤ (I244a 202) ∧ (I244a 202) ≤ 24 by (repeat' apply And.intro) <;> first | assumption | omega), (show ∀ i, (A244a 5) i ≤ 24 by exact f248), (show (I244a 773) = (I 773) + 1 ∧ (I244a 65) = (I 65) by (repeat' apply And.intro) <;> first | assumption | omega)⟩
        · have h205 : ¬ (¬ v4 = 95) := h205
          show w_W _ _ _ (64, [(2, .int (Int32.ofInt (v4))), (0, .ref 12), (1, .int (Int32.ofInt (p)))], [], M12) _
          refine w_adv (n := 2) (F' := (66, [(2, .int (Int32.ofInt (v4))), (0, .ref 12), (1, .int (Int32.ofInt (p)))], [.ref 12, .ref 12], M12)) rfl ?_
          refine w_gf (v := .ref 1) hR13 rfl rfl rfl rfl ?_
          refine w_adv (n := 1) (F' := (70, [(2, .int (Int32.ofInt (v4))), (0, .ref 12), (1, .int (Int32.ofInt (p)))], [.ref 12, .ref 1, .ref 12], M12)) rfl ?_
          refine w_gf (v := .int (Int32.ofInt (x9))) hR13 rfl rfl rfl rfl ?_
          obtain ⟨r256, r257⟩ : -2147483648 ≤ x9 ∧ x9 ≤ 2147483647 := hR13.ri 776
          refine w_call (cm := 46) (as := [(0, .ref 1), (1, .int (Int32.ofInt (x9)))]) (rest := [.ref 12]) (o := some (6, 1)) rfl (w_fitR hR13 rfl) (c_byteAt (x9) hR13 (show 1 ≤ d by omega) ⟨by omega, by omega⟩) (fun r258 M259 q260 => ?_)
          rcases q260 with ⟨v261, e262, ⟨r263, r264⟩, e265⟩
          rw [e262, e265]
          show w_W _ _ _ (76, [(2, .int (Int32.ofInt (v4))), (0, .ref 12), (1, .int (Int32.ofInt (p)))], [.int (Int32.ofInt (v261)), .ref 12], M12) _
          refine w_call (cm := 50) (as := [(0, .int (Int32.ofInt (v261)))]) (rest := [.ref 12]) (o := none) rfl (trivial) (c_isNamePart (v261) hR13 (show 1 ≤ d by omega) ⟨by omega, by omega⟩) (fun r266 M267 q268 => ?_)
          rcases q268 with ⟨e269, e270⟩ | ⟨e271, e272⟩
          · rw [e269, e270]
            show w_W _ _ _ (79, [(2, .int (Int32.ofInt (v4))), (0, .ref 12), (1, .int (Int32.ofInt (p)))], [.int (Int32.ofInt (1)), .ref 12], M12) _
            refine w_adv (n := 3) (F' := (87, [(2, .int (Int32.ofInt (v4))), (0, .ref 12), (1, .int (Int32.ofInt (p)))], [.int (Int32.ofInt (1)), .ref 12], M12)) rfl ?_
            refine w_pf hR13 rfl rfl rfl rfl (show w_in (1) from ⟨by omega, by omega⟩) (fun h => absurd h (by decide)) (fun M273 hR274 => ?_)
            replace hR274 : w_Rep w_TC fr X u l (w_up (w_up I 776 (x9)) 775 (1)) A B C M273 := hR274
            refine w_adv (n := 4) (F' := (94, [(2, .int (Int32.ofInt (v4))), (0, .ref 12), (1, .int (Int32.ofInt (p)))], [.int (Int32.ofInt ((-1))), .int (Int32.ofInt (p)), .int (Int32.ofInt (3)), .ref 12], M273)) rfl ?_
            refine w_call (cm := 52) (as := [(0, .ref 12), (1, .int (Int32.ofInt (3))), (2, .int (Int32.ofInt (p))), (3, .int (Int32.ofInt ((-1))))]) (rest := []) (o := some (7, 12)) rfl (w_fitR hR274 rfl) (c_Tokens_add (3) (p) ((-1)) hR274 (show 1 ≤ d by omega) ⟨by omega, by omega⟩ ⟨by omega, by omega⟩ ⟨by omega, by omega⟩ (show 0 ≤ (I 773) ∧ (I 773) ≤ 1501 by first | assumption | omega)) (fun r275 M276 q277 => ?_)
            rcases q277 with ⟨g13278, g14279, g15280, e281, hR277a⟩
            rw [e281]
            replace hR277a : w_Rep w_TC fr X u l (w_up (w_up (w_up I 776 (x9)) 775 (1)) 773 ((I 773) + 1)) (w_upF (w_upF (w_upF A 13 g13278) 14 g14279) 15 g15280) B C M276 := hR277a
            show w_W _ _ _ (97, [(2, .int (Int32.ofInt (v4))), (0, .ref 12), (1, .int (Int32.ofInt (p)))], [], M276) _
            refine w_adv (n := 1) (F' := (126, [(2, .int (Int32.ofInt (v4))), (0, .ref 12), (1, .int (Int32.ofInt (p)))], [], M276)) rfl ?_
            refine w_fin (r := .inl none) (M' := M276) rfl ?_
            exact ⟨(w_up (w_up (w_up I 776 (x9)) 775 (1)) 773 ((I 773) + 1)), (w_upF (w_upF (w_upF A 13 g13278) 14 g14279) 15 g15280), B, C, rfl, hR277a, (show c_fr c_ts c_ta I A (w_up (w_up (w_up I 776 (x9)) 775 (1)) 773 ((I 773) + 1)) (w_upF (w_upF (w_upF A 13 g13278) 14 g14279) 15 g15280) by exact (c_fr_upF (c_fr_upF (c_fr_upF (c_fr_up (c_fr_up (c_fr_up c_fr_refl rfl) rfl) rfl) rfl) rfl) rfl)), (show 36 ≤ (I 200) ∧ (I 200) ≤ 419 ∧ 0 ≤ (I 202) ∧ (I 202) ≤ 24 by (repeat' apply And.intro) <;> first | assumption | omega), (show ∀ i, (A 5) i ≤ 24 by exact hLN), (show (I 773) + 1 = (I 773) + 1 ∧ (I 65) = (I 65) by (repeat' apply And.intro) <;> first | assumption | omega)⟩
          · rw [e271, e272]
            show w_W _ _ _ (79, [(2, .int (Int32.ofInt (v4))), (0, .ref 12), (1, .int (Int32.ofInt (p)))], [.int (Int32.ofInt (0)), .ref 12], M12) _
            refine w_adv (n := 2) (F' := (87, [(2, .int (Int32.ofInt (v4))), (0, .ref 12), (1, .int (Int32.ofInt (p)))], [.int (Int32.ofInt (0)), .ref 12], M12)) rfl ?_
            refine w_pf hR13 rfl rfl rfl rfl (show w_in (0) from ⟨by omega, by omega⟩) (fun h => absurd h (by decide)) (fun M282 hR283 => ?_)
            replace hR283 : w_Rep w_TC fr X u l (w_up (w_up I 776 (x9)) 775 (0)) A B C M282 := hR283
            refine w_adv (n := 4) (F' := (94, [(2, .int (Int32.ofInt (v4))), (0, .ref 12), (1, .int (Int32.ofInt (p)))], [.int (Int32.ofInt ((-1))), .int (Int32.ofInt (p)), .int (Int32.ofInt (3)), .ref 12], M282)) rfl ?_
            refine w_call (cm := 52) (as := [(0, .ref 12), (1, .int (Int32.ofInt (3))), (2, .int (Int32.ofInt (p))), (3, .int (Int32.ofInt ((-1))))]) (rest := []) (o := some (7, 12)) rfl (w_fitR hR283 rfl) (c_Tokens_add (3) (p) ((-1)) hR283 (show 1 ≤ d by omega) ⟨by omega, by omega⟩ ⟨by omega, by omega⟩ ⟨by omega, by omega⟩ (show 0 ≤ (I 773) ∧ (I 773) ≤ 1501 by first | assumption | omega)) (fun r284 M285 q286 => ?_)
            rcases q286 with ⟨g13287, g14288, g15289, e290, hR286a⟩
            rw [e290]
            replace hR286a : w_Rep w_TC fr X u l (w_up (w_up (w_up I 776 (x9)) 775 (0)) 773 ((I 773) + 1)) (w_upF (w_upF (w_upF A 13 g13287) 14 g14288) 15 g15289) B C M285 := hR286a
            show w_W _ _ _ (97, [(2, .int (Int32.ofInt (v4))), (0, .ref 12), (1, .int (Int32.ofInt (p)))], [], M285) _
            refine w_adv (n := 1) (F' := (126, [(2, .int (Int32.ofInt (v4))), (0, .ref 12), (1, .int (Int32.ofInt (p)))], [], M285)) rfl ?_
            refine w_fin (r := .inl none) (M' := M285) rfl ?_
            exact ⟨(w_up (w_up (w_up I 776 (x9)) 775 (0)) 773 ((I 773) + 1)), (w_upF (w_upF (w_upF A 13 g13287) 14 g14288) 15 g15289), B, C, rfl, hR286a, (show c_fr c_ts c_ta I A (w_up (w_up (w_up I 776 (x9)) 775 (0)) 773 ((I 773) + 1)) (w_upF (w_upF (w_upF A 13 g13287) 14 g14288) 15 g15289) by exact (c_fr_upF (c_fr_upF (c_fr_upF (c_fr_up (c_fr_up (c_fr_up c_fr_refl rfl) rfl) rfl) rfl) rfl) rfl)), (show 36 ≤ (I 200) ∧ (I 200) ≤ 419 ∧ 0 ≤ (I 202) ∧ (I 202) ≤ 24 by (repeat' apply And.intro) <;> first | assumption | omega), (show ∀ i, (A 5) i ≤ 24 by exact hLN), (show (I 773) + 1 = (I 773) + 1 ∧ (I 65) = (I 65) by (repeat' apply And.intro) <;> first | assumption | omega)⟩
      · have h204 : ¬ (v4 < 65) := h204
        show w_W _ _ _ (43, [(2, .int (Int32.ofInt (v4))), (0, .ref 12), (1, .int (Int32.ofInt (p)))], [], M12) _
        refine w_adv (n := 2) (F' := (46, [(2, .int (Int32.ofInt (v4))), (0, .ref 12), (1, .int (Int32.ofInt (p)))], [.int (Int32.ofInt (90)), .int (Int32.ofInt (v4))], M12)) rfl ?_
        refine w_br2 (a := v4) (b := 90) rfl rfl ⟨by omega, by omega⟩ ⟨by omega, by omega⟩ (fun h291 => ?_) (fun h291 => ?_)
        · have h291 : v4 > 90 := h291
          show w_W _ _ _ (58, [(2, .int (Int32.ofInt (v4))), (0, .ref 12), (1, .int (Int32.ofInt (p)))], [], M12) _
          refine w_adv (n := 2) (F' := (61, [(2, .int (Int32.ofInt (v4))), (0, .ref 12), (1, .int (Int32.ofInt (p)))], [.int (Int32.ofInt (95)), .int (Int32.ofInt (v4))], M12)) rfl ?_
          refine w_br2 (a := v4) (b := 95) rfl rfl ⟨by omega, by omega⟩ ⟨by omega, by omega⟩ (fun h292 => ?_) (fun h292 => ?_)
          · have h292 : ¬ v4 = 95 := h292
            show w_W _ _ _ (100, [(2, .int (Int32.ofInt (v4))), (0, .ref 12), (1, .int (Int32.ofInt (p)))], [], M12) _
            refine w_adv (n := 1) (F' := (101, [(2, .int (Int32.ofInt (v4))), (0, .ref 12), (1, .int (Int32.ofInt (p)))], [.int (Int32.ofInt (v4))], M12)) rfl ?_
            refine w_call (cm := 51) (as := [(0, .int (Int32.ofInt (v4)))]) (rest := []) (o := none) rfl (trivial) (c_isDigit (v4) hR13 ⟨by omega, by omega⟩) (fun r293 M294 q295 => ?_)
            rcases q295 with ⟨e296, e297⟩ | ⟨e298, e299⟩
            · rw [e296, e297]
              show w_W _ _ _ (104, [(2, .int (Int32.ofInt (v4))), (0, .ref 12), (1, .int (Int32.ofInt (p)))], [.int (Int32.ofInt (1))], M12) _
              refine w_adv (n := 3) (F' := (115, [(2, .int (Int32.ofInt (v4))), (0, .ref 12), (1, .int (Int32.ofInt (p)))], [.int (Int32.ofInt (p)), .ref 12], M12)) rfl ?_
              refine w_call (cm := 55) (as := [(0, .ref 12), (1, .int (Int32.ofInt (p)))]) (rest := []) (o := some (7, 12)) rfl (w_fitR hR13 rfl) (c_integer (p) hR13 (show 3 ≤ d by omega) ⟨by omega, by omega⟩ (show 0 ≤ (I 773) ∧ (I 773) ≤ 1501 by first | assumption | omega) (show 36 ≤ (I 200) ∧ (I 200) ≤ 419 ∧ 0 ≤ (I 202) ∧ (I 202) ≤ 24 by (repeat' apply And.intro) <;> first | assumption | omega) (show ∀ i, (A 5) i ≤ 24 by exact hLN)) (fun r300 M301 q302 => ?_)
              rcases q302 with ⟨I302a, A302a, B302a, C302a, e303, hR302a, f304, f305, f306, f307⟩
              rw [e303]
              replace hR302a : w_Rep w_TC fr X u l I302a A302a B302a C302a M301 := hR302a
              replace f304 : c_fr c_ts c_ta (w_up I 776 (x9)) A I302a A302a := f304
              replace f305 : 36 ≤ (I302a 200) ∧ (I302a 200) ≤ 419 ∧ 0 ≤ (I302a 202) ∧ (I302a 202) ≤ 24 := f305
              obtain ⟨n308, n309, n310, n311⟩ := id f305
              clear f305
              replace f306 : ∀ i, (A302a 5) i ≤ 24 := f306
              replace f307 : (I302a 773) = (I 773) + 1 ∧ (I302a 65) = (I 65) := f307
              obtain ⟨n312, n313⟩ := id f307
              clear f307
              show w_W _ _ _ (118, [(2, .int (Int32.ofInt (v4))), (0, .ref 12), (1, .int (Int32.ofInt (p)))], [], M301) _
              refine w_adv (n := 1) (F' := (126, [(2, .int (Int32.ofInt (v4))), (0, .ref 12), (1, .int (Int32.ofInt (p)))], [], M301)) rfl ?_
              refine w_fin (r := .inl none) (M' := M301) rfl ?_
              exact ⟨I302a, A302a, B302a, C302a, rfl, hR302a, (show c_fr c_ts c_ta I A I302a A302a by exact (c_fr_trans (c_fr_up c_fr_refl rfl) f304)), (show 36 ≤ (I302a 200) ∧ (I302a 200) ≤ 419 ∧ 0 ≤ (I302a 202) ∧ (I302a 202) ≤ 24 by (repeat' apply And.intro) <;> first | assumption | omega), (show ∀ i, (A302a 5) i ≤ 24 by exact f306), (show (I302a 773) = (I 773) + 1 ∧ (I302a 65) = (I 65) by (repeat' apply And.intro) <;> first | assumption | omega)⟩
            · rw [e298, e299]
              show w_W _ _ _ (104, [(2, .int (Int32.ofInt (v4))), (0, .ref 12), (1, .int (Int32.ofInt (p)))], [.int (Int32.ofInt (0))], M12) _
              refine w_adv (n := 3) (F' := (110, [(2, .int (Int32.ofInt (v4))), (0, .ref 12), (1, .int (Int32.ofInt (p)))], [.int (Int32.ofInt (126)), .int (Int32.ofInt (v4))], M12)) rfl ?_
              refine w_br2 (a := v4) (b := 126) rfl rfl ⟨by omega, by omega⟩ ⟨by omega, by omega⟩ (fun h314 => ?_) (fun h314 => ?_)
              · have h314 : ¬ v4 = 126 := h314
                show w_W _ _ _ (121, [(2, .int (Int32.ofInt (v4))), (0, .ref 12), (1, .int (Int32.ofInt (p)))], [], M12) _
                refine w_adv (n := 2) (F' := (123, [(2, .int (Int32.ofInt (v4))), (0, .ref 12), (1, .int (Int32.ofInt (p)))], [.int (Int32.ofInt (p)), .ref 12], M12)) rfl ?_
                refine w_call (cm := 57) (as := [(0, .ref 12), (1, .int (Int32.ofInt (p)))]) (rest := []) (o := some (7, 12)) rfl (w_fitR hR13 rfl) (c_sign (p) hR13 (show 6 ≤ d by omega) ⟨by omega, by omega⟩ (show 0 ≤ (I 773) ∧ (I 773) ≤ 1501 by first | assumption | omega) (show 36 ≤ (I 200) ∧ (I 200) ≤ 419 ∧ 0 ≤ (I 202) ∧ (I 202) ≤ 24 by (repeat' apply And.intro) <;> first | assumption | omega) (show ∀ i, (A 5) i ≤ 24 by exact hLN)) (fun r315 M316 q317 => ?_)
                rcases q317 with ⟨I317a, A317a, B317a, C317a, e318, hR317a, f319, f320, f321, f322⟩
                rw [e318]
                replace hR317a : w_Rep w_TC fr X u l I317a A317a B317a C317a M316 := hR317a
                replace f319 : c_fr c_ts c_ta (w_up I 776 (x9)) A I317a A317a := f319
                replace f320 : 36 ≤ (I317a 200) ∧ (I317a 200) ≤ 419 ∧ 0 ≤ (I317a 202) ∧ (I317a 202) ≤ 24 := f320
                obtain ⟨n323, n324, n325, n326⟩ := id f320
                clear f320
                replace f321 : ∀ i, (A317a 5) i ≤ 24 := f321
                replace f322 : (I317a 773) = (I 773) + 1 ∧ (I317a 65) = (I 65) := f322
                obtain ⟨n327, n328⟩ := id f322
                clear f322
                show w_W _ _ _ (126, [(2, .int (Int32.ofInt (v4))), (0, .ref 12), (1, .int (Int32.ofInt (p)))], [], M316) _
                refine w_fin (r := .inl none) (M' := M316) rfl ?_
                exact ⟨I317a, A317a, B317a, C317a, rfl, hR317a, (show c_fr c_ts c_ta I A I317a A317a by exact (c_fr_trans (c_fr_up c_fr_refl rfl) f319)), (show 36 ≤ (I317a 200) ∧ (I317a 200) ≤ 419 ∧ 0 ≤ (I317a 202) ∧ (I317a 202) ≤ 24 by (repeat' apply And.intro) <;> first | assumption | omega), (show ∀ i, (A317a 5) i ≤ 24 by exact f321), (show (I317a 773) = (I 773) + 1 ∧ (I317a 65) = (I 65) by (repeat' apply And.intro) <;> first | assumption | omega)⟩
              · have h314 : ¬ (¬ v4 = 126) := h314
                show w_W _ _ _ (113, [(2, .int (Int32.ofInt (v4))), (0, .ref 12), (1, .int (Int32.ofInt (p)))], [], M12) _
                refine w_adv (n := 2) (F' := (115, [(2, .int (Int32.ofInt (v4))), (0, .ref 12), (1, .int (Int32.ofInt (p)))], [.int (Int32.ofInt (p)), .ref 12], M12)) rfl ?_
                refine w_call (cm := 55) (as := [(0, .ref 12), (1, .int (Int32.ofInt (p)))]) (rest := []) (o := some (7, 12)) rfl (w_fitR hR13 rfl) (c_integer (p) hR13 (show 3 ≤ d by omega) ⟨by omega, by omega⟩ (show 0 ≤ (I 773) ∧ (I 773) ≤ 1501 by first | assumption | omega) (show 36 ≤ (I 200) ∧ (I 200) ≤ 419 ∧ 0 ≤ (I 202) ∧ (I 202) ≤ 24 by (repeat' apply And.intro) <;> first | assumption | omega) (show ∀ i, (A 5) i ≤ 24 by exact hLN)) (fun r329 M330 q331 => ?_)
                rcases q331 with ⟨I331a, A331a, B331a, C331a, e332, hR331a, f333, f334, f335, f336⟩
                rw [e332]
                replace hR331a : w_Rep w_TC fr X u l I331a A331a B331a C331a M330 := hR331a
                replace f333 : c_fr c_ts c_ta (w_up I 776 (x9)) A I331a A331a := f333
                replace f334 : 36 ≤ (I331a 200) ∧ (I331a 200) ≤ 419 ∧ 0 ≤ (I331a 202) ∧ (I331a 202) ≤ 24 := f334
                obtain ⟨n337, n338, n339, n340⟩ := id f334
                clear f334
                replace f335 : ∀ i, (A331a 5) i ≤ 24 := f335
                replace f336 : (I331a 773) = (I 773) + 1 ∧ (I331a 65) = (I 65) := f336
                obtain ⟨n341, n342⟩ := id f336
                clear f336
                show w_W _ _ _ (118, [(2, .int (Int32.ofInt (v4))), (0, .ref 12), (1, .int (Int32.ofInt (p)))], [], M330) _
                refine w_adv (n := 1) (F' := (126, [(2, .int (Int32.ofInt (v4))), (0, .ref 12), (1, .int (Int32.ofInt (p)))], [], M330)) rfl ?_
                refine w_fin (r := .inl none) (M' := M330) rfl ?_
                exact ⟨I331a, A331a, B331a, C331a, rfl, hR331a, (show c_fr c_ts c_ta I A I331a A331a by exact (c_fr_trans (c_fr_up c_fr_refl rfl) f333)), (show 36 ≤ (I331a 200) ∧ (I331a 200) ≤ 419 ∧ 0 ≤ (I331a 202) ∧ (I331a 202) ≤ 24 by (repeat' apply And.intro) <;> first | assumption | omega), (show ∀ i, (A331a 5) i ≤ 24 by exact f335), (show (I331a 773) = (I 773) + 1 ∧ (I331a 65) = (I 65) by (repeat' apply And.intro) <;> first | assumption | omega)⟩
          · have h292 : ¬ (¬ v4 = 95) := h292
            show w_W _ _ _ (64, [(2, .int (Int32.ofInt (v4))), (0, .ref 12), (1, .int (Int32.ofInt (p)))], [], M12) _
            refine w_adv (n := 2) (F' := (66, [(2, .int (Int32.ofInt (v4))), (0, .ref 12), (1, .int (Int32.ofInt (p)))], [.ref 12, .ref 12], M12)) rfl ?_
            refine w_gf (v := .ref 1) hR13 rfl rfl rfl rfl ?_
            refine w_adv (n := 1) (F' := (70, [(2, .int (Int32.ofInt (v4))), (0, .ref 12), (1, .int (Int32.ofInt (p)))], [.ref 12, .ref 1, .ref 12], M12)) rfl ?_
            refine w_gf (v := .int (Int32.ofInt (x9))) hR13 rfl rfl rfl rfl ?_
            obtain ⟨r343, r344⟩ : -2147483648 ≤ x9 ∧ x9 ≤ 2147483647 := hR13.ri 776
            refine w_call (cm := 46) (as := [(0, .ref 1), (1, .int (Int32.ofInt (x9)))]) (rest := [.ref 12]) (o := some (6, 1)) rfl (w_fitR hR13 rfl) (c_byteAt (x9) hR13 (show 1 ≤ d by omega) ⟨by omega, by omega⟩) (fun r345 M346 q347 => ?_)
            rcases q347 with ⟨v348, e349, ⟨r350, r351⟩, e352⟩
            rw [e349, e352]
            show w_W _ _ _ (76, [(2, .int (Int32.ofInt (v4))), (0, .ref 12), (1, .int (Int32.ofInt (p)))], [.int (Int32.ofInt (v348)), .ref 12], M12) _
            refine w_call (cm := 50) (as := [(0, .int (Int32.ofInt (v348)))]) (rest := [.ref 12]) (o := none) rfl (trivial) (c_isNamePart (v348) hR13 (show 1 ≤ d by omega) ⟨by omega, by omega⟩) (fun r353 M354 q355 => ?_)
            rcases q355 with ⟨e356, e357⟩ | ⟨e358, e359⟩
            · rw [e356, e357]
              show w_W _ _ _ (79, [(2, .int (Int32.ofInt (v4))), (0, .ref 12), (1, .int (Int32.ofInt (p)))], [.int (Int32.ofInt (1)), .ref 12], M12) _
              refine w_adv (n := 3) (F' := (87, [(2, .int (Int32.ofInt (v4))), (0, .ref 12), (1, .int (Int32.ofInt (p)))], [.int (Int32.ofInt (1)), .ref 12], M12)) rfl ?_
              refine w_pf hR13 rfl rfl rfl rfl (show w_in (1) from ⟨by omega, by omega⟩) (fun h => absurd h (by decide)) (fun M360 hR361 => ?_)
              replace hR361 : w_Rep w_TC fr X u l (w_up (w_up I 776 (x9)) 775 (1)) A B C M360 := hR361
              refine w_adv (n := 4) (F' := (94, [(2, .int (Int32.ofInt (v4))), (0, .ref 12), (1, .int (Int32.ofInt (p)))], [.int (Int32.ofInt ((-1))), .int (Int32.ofInt (p)), .int (Int32.ofInt (3)), .ref 12], M360)) rfl ?_
              refine w_call (cm := 52) (as := [(0, .ref 12), (1, .int (Int32.ofInt (3))), (2, .int (Int32.ofInt (p))), (3, .int (Int32.ofInt ((-1))))]) (rest := []) (o := some (7, 12)) rfl (w_fitR hR361 rfl) (c_Tokens_add (3) (p) ((-1)) hR361 (show 1 ≤ d by omega) ⟨by omega, by omega⟩ ⟨by omega, by omega⟩ ⟨by omega, by omega⟩ (show 0 ≤ (I 773) ∧ (I 773) ≤ 1501 by first | assumption | omega)) (fun r362 M363 q364 => ?_)
              rcases q364 with ⟨g13365, g14366, g15367, e368, hR364a⟩
              rw [e368]
              replace hR364a : w_Rep w_TC fr X u l (w_up (w_up (w_up I 776 (x9)) 775 (1)) 773 ((I 773) + 1)) (w_upF (w_upF (w_upF A 13 g13365) 14 g14366) 15 g15367) B C M363 := hR364a
              show w_W _ _ _ (97, [(2, .int (Int32.ofInt (v4))), (0, .ref 12), (1, .int (Int32.ofInt (p)))], [], M363) _
              refine w_adv (n := 1) (F' := (126, [(2, .int (Int32.ofInt (v4))), (0, .ref 12), (1, .int (Int32.ofInt (p)))], [], M363)) rfl ?_
              refine w_fin (r := .inl none) (M' := M363) rfl ?_
              exact ⟨(w_up (w_up (w_up I 776 (x9)) 775 (1)) 773 ((I 773) + 1)), (w_upF (w_upF (w_upF A 13 g13365) 14 g14366) 15 g15367), B, C, rfl, hR364a, (show c_fr c_ts c_ta I A (w_up (w_up (w_up I 776 (x9)) 775 (1)) 773 ((I 773) + 1)) (w_upF (w_upF (w_upF A 13 g13365) 14 g14366) 15 g15367) by exact (c_fr_upF (c_fr_upF (c_fr_upF (c_fr_up (c_fr_up (c_fr_up c_fr_refl rfl) rfl) rfl) rfl) rfl) rfl)), (show 36 ≤ (I 200) ∧ (I 200) ≤ 419 ∧ 0 ≤ (I 202) ∧ (I 202) ≤ 24 by (repeat' apply And.intro) <;> first | assumption | omega), (show ∀ i, (A 5) i ≤ 24 by exact hLN), (show (I 773) + 1 = (I 773) + 1 ∧ (I 65) = (I 65) by (repeat' apply And.intro) <;> first | assumption | omega)⟩
            · rw [e358, e359]
              show w_W _ _ _ (79, [(2, .int (Int32.ofInt (v4))), (0, .ref 12), (1, .int (Int32.ofInt (p)))], [.int (Int32.ofInt (0)), .ref 12], M12) _
              refine w_adv (n := 2) (F' := (87, [(2, .int (Int32.ofInt (v4))), (0, .ref 12), (1, .int (Int32.ofInt (p)))], [.int (Int32.ofInt (0)), .ref 12], M12)) rfl ?_
              refine w_pf hR13 rfl rfl rfl rfl (show w_in (0) from ⟨by omega, by omega⟩) (fun h => absurd h (by decide)) (fun M369 hR370 => ?_)
              replace hR370 : w_Rep w_TC fr X u l (w_up (w_up I 776 (x9)) 775 (0)) A B C M369 := hR370
              refine w_adv (n := 4) (F' := (94, [(2, .int (Int32.ofInt (v4))), (0, .ref 12), (1, .int (Int32.ofInt (p)))], [.int (Int32.ofInt ((-1))), .int (Int32.ofInt (p)), .int (Int32.ofInt (3)), .ref 12], M369)) rfl ?_
              refine w_call (cm := 52) (as := [(0, .ref 12), (1, .int (Int32.ofInt (3))), (2, .int (Int32.ofInt (p))), (3, .int (Int32.ofInt ((-1))))]) (rest := []) (o := some (7, 12)) rfl (w_fitR hR370 rfl) (c_Tokens_add (3) (p) ((-1)) hR370 (show 1 ≤ d by omega) ⟨by omega, by omega⟩ ⟨by omega, by omega⟩ ⟨by omega, by omega⟩ (show 0 ≤ (I 773) ∧ (I 773) ≤ 1501 by first | assumption | omega)) (fun r371 M372 q373 => ?_)
              rcases q373 with ⟨g13374, g14375, g15376, e377, hR373a⟩
              rw [e377]
              replace hR373a : w_Rep w_TC fr X u l (w_up (w_up (w_up I 776 (x9)) 775 (0)) 773 ((I 773) + 1)) (w_upF (w_upF (w_upF A 13 g13374) 14 g14375) 15 g15376) B C M372 := hR373a
              show w_W _ _ _ (97, [(2, .int (Int32.ofInt (v4))), (0, .ref 12), (1, .int (Int32.ofInt (p)))], [], M372) _
              refine w_adv (n := 1) (F' := (126, [(2, .int (Int32.ofInt (v4))), (0, .ref 12), (1, .int (Int32.ofInt (p)))], [], M372)) rfl ?_
              refine w_fin (r := .inl none) (M' := M372) rfl ?_
              exact ⟨(w_up (w_up (w_up I 776 (x9)) 775 (0)) 773 ((I 773) + 1)), (w_upF (w_upF (w_upF A 13 g13374) 14 g14375) 15 g15376), B, C, rfl, hR373a, (show c_fr c_ts c_ta I A (w_up (w_up (w_up I 776 (x9)) 775 (0)) 773 ((I 773) + 1)) (w_upF (w_upF (w_upF A 13 g13374) 14 g14375) 15 g15376) by exact (c_fr_upF (c_fr_upF (c_fr_upF (c_fr_up (c_fr_up (c_fr_up c_fr_refl rfl) rfl) rfl) rfl) rfl) rfl)), (show 36 ≤ (I 200) ∧ (I 200) ≤ 419 ∧ 0 ≤ (I 202) ∧ (I 202) ≤ 24 by (repeat' apply And.intro) <;> first | assumption | omega), (show ∀ i, (A 5) i ≤ 24 by exact hLN), (show (I 773) + 1 = (I 773) + 1 ∧ (I 65) = (I 65) by (repeat' apply And.intro) <;> first | assumption | omega)⟩
        · have h291 : ¬ (v4 > 90) := h291
          show w_W _ _ _ (49, [(2, .int (Int32.ofInt (v4))), (0, .ref 12), (1, .int (Int32.ofInt (p)))], [], M12) _
          refine w_adv (n := 3) (F' := (52, [(2, .int (Int32.ofInt (v4))), (0, .ref 12), (1, .int (Int32.ofInt (p)))], [.int (Int32.ofInt (2)), .int (Int32.ofInt (p)), .ref 12], M12)) rfl ?_
          refine w_call (cm := 48) (as := [(0, .ref 12), (1, .int (Int32.ofInt (p))), (2, .int (Int32.ofInt (2)))]) (rest := []) (o := some (7, 12)) rfl (w_fitR hR13 rfl) (c_name (p) (2) hR13 (show 5 ≤ d by omega) ⟨by omega, by omega⟩ ⟨by omega, by omega⟩ (show 0 ≤ (I 773) ∧ (I 773) ≤ 1501 by first | assumption | omega) (show 36 ≤ (I 200) ∧ (I 200) ≤ 419 ∧ 0 ≤ (I 202) ∧ (I 202) ≤ 24 by (repeat' apply And.intro) <;> first | assumption | omega) (show ∀ i, (A 5) i ≤ 24 by exact hLN)) (fun r378 M379 q380 => ?_)
          rcases q380 with ⟨I380a, A380a, B380a, C380a, e381, hR380a, f382, f383, f384, f385⟩
          rw [e381]
          replace hR380a : w_Rep w_TC fr X u l I380a A380a B380a C380a M379 := hR380a
          replace f382 : c_fr c_ts c_ta (w_up I 776 (x9)) A I380a A380a := f382
          replace f383 : 36 ≤ (I380a 200) ∧ (I380a 200) ≤ 419 ∧ 0 ≤ (I380a 202) ∧ (I380a 202) ≤ 24 := f383
          obtain ⟨n386, n387, n388, n389⟩ := id f383
          clear f383
          replace f384 : ∀ i, (A380a 5) i ≤ 24 := f384
          replace f385 : (I380a 773) = (I 773) + 1 ∧ (I380a 65) = (I 65) := f385
          obtain ⟨n390, n391⟩ := id f385
          clear f385
          show w_W _ _ _ (55, [(2, .int (Int32.ofInt (v4))), (0, .ref 12), (1, .int (Int32.ofInt (p)))], [], M379) _
          refine w_adv (n := 1) (F' := (126, [(2, .int (Int32.ofInt (v4))), (0, .ref 12), (1, .int (Int32.ofInt (p)))], [], M379)) rfl ?_
          refine w_fin (r := .inl none) (M' := M379) rfl ?_
          exact ⟨I380a, A380a, B380a, C380a, rfl, hR380a, (show c_fr c_ts c_ta I A I380a A380a by exact (c_fr_trans (c_fr_up c_fr_refl rfl) f382)), (show 36 ≤ (I380a 200) ∧ (I380a 200) ≤ 419 ∧ 0 ≤ (I380a 202) ∧ (I380a 202) ≤ 24 by (repeat' apply And.intro) <;> first | assumption | omega), (show ∀ i, (A380a 5) i ≤ 24 by exact f384), (show (I380a 773) = (I 773) + 1 ∧ (I380a 65) = (I 65) by (repeat' apply And.intro) <;> first | assumption | omega)⟩
    · have h203 : ¬ (v4 > 122) := h203
      show w_W _ _ _ (28, [(2, .int (Int32.ofInt (v4))), (0, .ref 12), (1, .int (Int32.ofInt (p)))], [], M12) _
      refine w_adv (n := 3) (F' := (31, [(2, .int (Int32.ofInt (v4))), (0, .ref 12), (1, .int (Int32.ofInt (p)))], [.int (Int32.ofInt (1)), .int (Int32.ofInt (p)), .ref 12], M12)) rfl ?_
      refine w_call (cm := 48) (as := [(0, .ref 12), (1, .int (Int32.ofInt (p))), (2, .int (Int32.ofInt (1)))]) (rest := []) (o := some (7, 12)) rfl (w_fitR hR13 rfl) (c_name (p) (1) hR13 (show 5 ≤ d by omega) ⟨by omega, by omega⟩ ⟨by omega, by omega⟩ (show 0 ≤ (I 773) ∧ (I 773) ≤ 1501 by first | assumption | omega) (show 36 ≤ (I 200) ∧ (I 200) ≤ 419 ∧ 0 ≤ (I 202) ∧ (I 202) ≤ 24 by (repeat' apply And.intro) <;> first | assumption | omega) (show ∀ i, (A 5) i ≤ 24 by exact hLN)) (fun r392 M393 q394 => ?_)
      rcases q394 with ⟨I394a, A394a, B394a, C394a, e395, hR394a, f396, f397, f398, f399⟩
      rw [e395]
      replace hR394a : w_Rep w_TC fr X u l I394a A394a B394a C394a M393 := hR394a
      replace f396 : c_fr c_ts c_ta (w_up I 776 (x9)) A I394a A394a := f396
      replace f397 : 36 ≤ (I394a 200) ∧ (I394a 200) ≤ 419 ∧ 0 ≤ (I394a 202) ∧ (I394a 202) ≤ 24 := f397
      obtain ⟨n400, n401, n402, n403⟩ := id f397
      clear f397
      replace f398 : ∀ i, (A394a 5) i ≤ 24 := f398
      replace f399 : (I394a 773) = (I 773) + 1 ∧ (I394a 65) = (I 65) := f399
      obtain ⟨n404, n405⟩ := id f399
      clear f399
      show w_W _ _ _ (34, [(2, .int (Int32.ofInt (v4))), (0, .ref 12), (1, .int (Int32.ofInt (p)))], [], M393) _
      refine w_adv (n := 1) (F' := (126, [(2, .int (Int32.ofInt (v4))), (0, .ref 12), (1, .int (Int32.ofInt (p)))], [], M393)) rfl ?_
      refine w_fin (r := .inl none) (M' := M393) rfl ?_
      exact ⟨I394a, A394a, B394a, C394a, rfl, hR394a, (show c_fr c_ts c_ta I A I394a A394a by exact (c_fr_trans (c_fr_up c_fr_refl rfl) f396)), (show 36 ≤ (I394a 200) ∧ (I394a 200) ≤ 419 ∧ 0 ≤ (I394a 202) ∧ (I394a 202) ≤ 24 by (repeat' apply And.intro) <;> first | assumption | omega), (show ∀ i, (A394a 5) i ≤ 24 by exact f398), (show (I394a 773) = (I 773) + 1 ∧ (I394a 65) = (I 65) by (repeat' apply And.intro) <;> first | assumption | omega)⟩
