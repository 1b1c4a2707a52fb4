/-! PARSER of the reference. -/
def m_used_Q (fr : Nat → Bool) (X : Nat → Option (q_C (Nat → Int32))) (u l : Nat) (I : Nat → Int) (A : Nat → Int → Int) (B C : Nat → Nat) (M : w_M) : w_X → w_M → Prop := fun r M' => (∃ v : Int, (r = .inl (some v)) ∧ (w_in v) ∧ (M' = M) ∧ (0 ≤ v ∧ v < (I 4033))) ∨ (∃ v : Int, ∃ z : Int, (r = .inl (some v)) ∧ (w_in v) ∧ (w_Rep w_TM fr X u l (w_up I 2776 (z)) A B C M') ∧ (0 ≤ v ∧ v < (I 4033))) ∨ (∃ (I' : Nat → Int) (A' : Nat → Int → Int) (B' C' : Nat → Nat), (r = .inr 69) ∧ (w_Rep w_TM fr X u l I' A' B' C' M') ∧ (m_fx I A I' A'))
set_option maxRecDepth 100000 in
theorem m_used {L : Nat} {xs : Nat → Int32} {d : Nat} {fr : Nat → Bool} {X : Nat → Option (q_C (Nat → Int32))} {u l : Nat} {I : Nat → Int} {A : Nat → Int → Int} {B C : Nat → Nat} {M : w_M} (hR : w_Rep w_TM fr X u l I A B C M) (hd : 3 ≤ d) (hNU : (0 ≤ (I 2774) ∧ (I 2774) < (I 2754) ∧ (I 2754) ≤ 1501 ∧ 0 ≤ (I 2775) ∧ (I 2775) ≤ 24) ∧ ((I 3393) = (I 3905) ∧ (I 3521) = (I 3905) ∧ (I 3649) = (I 3905) ∧ (I 3777) = (I 3905) ∧ 0 ≤ (I 3905) ∧ (I 3905) ≤ 3 * (I 2774)) ∧ ((I 4161) = (I 4033) ∧ 7 ≤ (I 4289) ∧ (I 4289) ≤ (I 4033) ∧ (I 4033) ≤ 7 + (I 2774)) ∧ 0 ≤ (I 5889) ∧ (I 5889) ≤ (I 2774)) (hSC : m_SC I A) : w_W (z_P L xs) d 262 (0, [(0, .ref 43)], [], M) (m_used_Q fr X u l I A B C M) := by
  obtain ⟨d, rfl⟩ : ∃ d0, d = d0 + 1 := ⟨d - 1, by omega⟩
  refine w_adv (n := 1) (F' := (1, [(0, .ref 43)], [.ref 43], M)) rfl ?_
  refine w_gf (v := .ref 46) hR rfl rfl rfl rfl ?_
  refine w_adv (n := 1) (F' := (5, [(0, .ref 43)], [.ref 43, .ref 46], M)) rfl ?_
  refine w_gf (v := .int (Int32.ofInt ((I 2774)))) hR rfl rfl rfl rfl ?_
  obtain ⟨r1, r2⟩ : -2147483648 ≤ (I 2774) ∧ (I 2774) ≤ 2147483647 := hR.ri 2774
  refine w_la (n := 1502) hR rfl (Or.inl ⟨rfl, rfl⟩) rfl (show 0 ≤ (I 2774) by omega) (show (I 2774) < (1502 : Int) by omega) (by decide) ?_
  obtain ⟨r3, r4⟩ : -2147483648 ≤ (A 46) ((I 2774)) ∧ (A 46) ((I 2774)) ≤ 2147483647 := hR.ra 46 ((I 2774))
  show w_W _ _ _ (9, [(0, .ref 43)], [.int (Int32.ofInt ((A 46) ((I 2774))))], M) _
  refine w_adv (n := 2) (F' := (11, [(1, .int (Int32.ofInt ((A 46) ((I 2774))))), (0, .ref 43)], [.ref 43], M)) rfl ?_
  refine w_gf (v := .ref 67) hR rfl rfl rfl rfl ?_
  refine w_gf (v := .int (Int32.ofInt ((I 4289)))) hR rfl rfl rfl rfl ?_
  obtain ⟨r5, r6⟩ : -2147483648 ≤ (I 4289) ∧ (I 4289) ≤ 2147483647 := hR.ri 4289
  obtain ⟨r7a, r7b, r7c⟩ : 0 ≤ (I 4289) ∧ (I 4289) ≤ (C 67 : Int) ∧ (C 67 : Int) ≤ 131072 := hR.sz (show 67 ∈ w_TM.2.2 by decide)
  refine w_adv (n := 1) (F' := (18, [(1, .int (Int32.ofInt ((A 46) ((I 2774))))), (0, .ref 43)], [.int (Int32.ofInt (1)), .int (Int32.ofInt ((I 4289)))], M)) rfl ?_
  refine w_sub rfl ?_
  refine w_adv (n := 1) (F' := (20, [(2, .int (Int32.ofInt ((I 4289) - 1))), (1, .int (Int32.ofInt ((A 46) ((I 2774))))), (0, .ref 43)], [], M)) rfl ?_
  have lp20 : ∀ fu : Nat, ∀ (y20_2 : Int), w_in y20_2 → -1 ≤ y20_2 ∧ y20_2 < (I 4289) → y20_2 + 1 < (fu : Int) → w_W (z_P L xs) (d + 1) 262 (20, [(0, .ref 43), (1, .int (Int32.ofInt ((A 46) ((I 2774))))), (2, .int (Int32.ofInt (y20_2)))], [], M) (m_used_Q fr X u l I A B C M) := by
    intro fu
    induction fu with
    | zero =>
      intro y20_2 ⟨ra_y20_2, rb_y20_2⟩ hi20_0 hn20
      exfalso
      omega
    | succ fu ih20 =>
      intro y20_2 ⟨ra_y20_2, rb_y20_2⟩ hi20_0 hn20
      refine w_adv (n := 1) (F' := (21, [(0, .ref 43), (1, .int (Int32.ofInt ((A 46) ((I 2774))))), (2, .int (Int32.ofInt (y20_2)))], [.int (Int32.ofInt (y20_2))], M)) rfl ?_
      refine w_br1 (a := y20_2) rfl rfl ⟨by omega, by omega⟩ (fun h8 => ?_) (fun h8 => ?_)
      · have h8 : y20_2 < 0 := h8
        show w_W _ _ _ (49, [(0, .ref 43), (1, .int (Int32.ofInt ((A 46) ((I 2774))))), (2, .int (Int32.ofInt (y20_2)))], [], M) _
        refine w_adv (n := 1) (F' := (50, [(0, .ref 43), (1, .int (Int32.ofInt ((A 46) ((I 2774))))), (2, .int (Int32.ofInt (y20_2)))], [.int (Int32.ofInt (y20_2))], M)) rfl ?_
        refine w_br1 (a := y20_2) rfl rfl ⟨by omega, by omega⟩ (fun h9 => ?_) (fun h9 => ?_)
        · have h9 : y20_2 ≥ 0 := h9
          show w_W _ _ _ (58, [(0, .ref 43), (1, .int (Int32.ofInt ((A 46) ((I 2774))))), (2, .int (Int32.ofInt (y20_2)))], [], M) _
          refine w_adv (n := 1) (F' := (59, [(0, .ref 43), (1, .int (Int32.ofInt ((A 46) ((I 2774))))), (2, .int (Int32.ofInt (y20_2)))], [.ref 43], M)) rfl ?_
          refine w_gf (v := .ref 67) hR rfl rfl rfl rfl ?_
          refine w_adv (n := 1) (F' := (63, [(0, .ref 43), (1, .int (Int32.ofInt ((A 46) ((I 2774))))), (2, .int (Int32.ofInt (y20_2)))], [.int (Int32.ofInt (y20_2)), .ref 67], M)) rfl ?_
          refine w_call (cm := 238) (as := [(0, .ref 67), (1, .int (Int32.ofInt (y20_2)))]) (rest := []) (o := some (10, 67)) rfl (w_fitR hR rfl) (m_get (y20_2) 67 (by decide) rfl hR ⟨by omega, by omega⟩ (show 0 ≤ y20_2 by first | assumption | omega) (show y20_2 < (C 67 : Int) by first | assumption | omega)) (fun r10 M11 q12 => ?_)
          rcases q12 with ⟨e13, e14⟩
          rw [e13, e14]
          obtain ⟨r15, r16⟩ : -2147483648 ≤ (A 67) (y20_2) ∧ (A 67) (y20_2) ≤ 2147483647 := hR.ra 67 (y20_2)
          obtain ⟨u1, u2⟩ := hSC.1 (y20_2) (by omega) (by omega)
          show w_W _ _ _ (66, [(0, .ref 43), (1, .int (Int32.ofInt ((A 46) ((I 2774))))), (2, .int (Int32.ofInt (y20_2)))], [.int (Int32.ofInt ((A 67) (y20_2)))], M) _
          refine w_adv (n := 3) (F' := (69, [(3, .int (Int32.ofInt ((A 67) (y20_2)))), (0, .ref 43), (1, .int (Int32.ofInt ((A 46) ((I 2774))))), (2, .int (Int32.ofInt (y20_2)))], [.int (Int32.ofInt (3)), .int (Int32.ofInt ((A 67) (y20_2)))], M)) rfl ?_
          refine w_br2 (a := (A 67) (y20_2)) (b := 3) rfl rfl ⟨by omega, by omega⟩ ⟨by omega, by omega⟩ (fun h17 => ?_) (fun h17 => ?_)
          · have h17 : (A 67) (y20_2) < 3 := h17
            show w_W _ _ _ (88, [(3, .int (Int32.ofInt ((A 67) (y20_2)))), (0, .ref 43), (1, .int (Int32.ofInt ((A 46) ((I 2774))))), (2, .int (Int32.ofInt (y20_2)))], [], M) _
            refine w_adv (n := 1) (F' := (89, [(3, .int (Int32.ofInt ((A 67) (y20_2)))), (0, .ref 43), (1, .int (Int32.ofInt ((A 46) ((I 2774))))), (2, .int (Int32.ofInt (y20_2)))], [.int (Int32.ofInt ((A 67) (y20_2)))], M)) rfl ?_
            refine w_fin (r := .inl (some ((A 67) (y20_2)))) (M' := M) rfl ?_
            first
              | exact Or.inl ⟨(A 67) (y20_2), rfl, ⟨by omega, by omega⟩, rfl, (show 0 ≤ (A 67) (y20_2) ∧ (A 67) (y20_2) < (I 4033) by first | assumption | omega)⟩
              | exact Or.inr (Or.inl ⟨(A 67) (y20_2), (I 2776), rfl, ⟨by omega, by omega⟩, hR, (show 0 ≤ (A 67) (y20_2) ∧ (A 67) (y20_2) < (I 4033) by first | assumption | omega)⟩)
          · have h17 : ¬ ((A 67) (y20_2) < 3) := h17
            show w_W _ _ _ (72, [(3, .int (Int32.ofInt ((A 67) (y20_2)))), (0, .ref 43), (1, .int (Int32.ofInt ((A 46) ((I 2774))))), (2, .int (Int32.ofInt (y20_2)))], [], M) _
            refine w_adv (n := 2) (F' := (75, [(3, .int (Int32.ofInt ((A 67) (y20_2)))), (0, .ref 43), (1, .int (Int32.ofInt ((A 46) ((I 2774))))), (2, .int (Int32.ofInt (y20_2)))], [.int (Int32.ofInt (7)), .int (Int32.ofInt ((A 67) (y20_2)))], M)) rfl ?_
            refine w_br2 (a := (A 67) (y20_2)) (b := 7) rfl rfl ⟨by omega, by omega⟩ ⟨by omega, by omega⟩ (fun h18 => ?_) (fun h18 => ?_)
            · have h18 : (A 67) (y20_2) ≥ 7 := h18
              show w_W _ _ _ (88, [(3, .int (Int32.ofInt ((A 67) (y20_2)))), (0, .ref 43), (1, .int (Int32.ofInt ((A 46) ((I 2774))))), (2, .int (Int32.ofInt (y20_2)))], [], M) _
              refine w_adv (n := 1) (F' := (89, [(3, .int (Int32.ofInt ((A 67) (y20_2)))), (0, .ref 43), (1, .int (Int32.ofInt ((A 46) ((I 2774))))), (2, .int (Int32.ofInt (y20_2)))], [.int (Int32.ofInt ((A 67) (y20_2)))], M)) rfl ?_
              refine w_fin (r := .inl (some ((A 67) (y20_2)))) (M' := M) rfl ?_
              first
                | exact Or.inl ⟨(A 67) (y20_2), rfl, ⟨by omega, by omega⟩, rfl, (show 0 ≤ (A 67) (y20_2) ∧ (A 67) (y20_2) < (I 4033) by first | assumption | omega)⟩
                | exact Or.inr (Or.inl ⟨(A 67) (y20_2), (I 2776), rfl, ⟨by omega, by omega⟩, hR, (show 0 ≤ (A 67) (y20_2) ∧ (A 67) (y20_2) < (I 4033) by first | assumption | omega)⟩)
            · have h18 : ¬ ((A 67) (y20_2) ≥ 7) := h18
              show w_W _ _ _ (78, [(3, .int (Int32.ofInt ((A 67) (y20_2)))), (0, .ref 43), (1, .int (Int32.ofInt ((A 46) ((I 2774))))), (2, .int (Int32.ofInt (y20_2)))], [], M) _
              refine w_adv (n := 2) (F' := (80, [(3, .int (Int32.ofInt ((A 67) (y20_2)))), (0, .ref 43), (1, .int (Int32.ofInt ((A 46) ((I 2774))))), (2, .int (Int32.ofInt (y20_2)))], [.ref 43, .ref 43], M)) rfl ?_
              refine w_gf (v := .int (Int32.ofInt ((I 2776)))) hR rfl rfl rfl rfl ?_
              obtain ⟨r19, r20⟩ : -2147483648 ≤ (I 2776) ∧ (I 2776) ≤ 2147483647 := hR.ri 2776
              refine w_adv (n := 2) (F' := (85, [(3, .int (Int32.ofInt ((A 67) (y20_2)))), (0, .ref 43), (1, .int (Int32.ofInt ((A 46) ((I 2774))))), (2, .int (Int32.ofInt (y20_2)))], [.int ((Int32.ofInt ((I 2776))) ||| (Int32.ofInt (1))), .ref 43], M)) rfl ?_
              refine w_int (fun x21 r22 e23 => ?_)
              obtain ⟨r22a, r22b⟩ := r22
              refine w_pf hR rfl rfl rfl rfl (show w_in (x21) from ⟨by omega, by omega⟩) (fun h => absurd h (by decide)) (fun M24 hR25 => ?_)
              replace hR25 : w_Rep w_TM fr X u l (w_up I 2776 (x21)) A B C M24 := hR25
              refine w_adv (n := 1) (F' := (89, [(3, .int (Int32.ofInt ((A 67) (y20_2)))), (0, .ref 43), (1, .int (Int32.ofInt ((A 46) ((I 2774))))), (2, .int (Int32.ofInt (y20_2)))], [.int (Int32.ofInt ((A 67) (y20_2)))], M24)) rfl ?_
              refine w_fin (r := .inl (some ((A 67) (y20_2)))) (M' := M24) rfl ?_
              exact Or.inr (Or.inl ⟨(A 67) (y20_2), x21, rfl, ⟨by omega, by omega⟩, hR25, (show 0 ≤ (A 67) (y20_2) ∧ (A 67) (y20_2) < (I 4033) by first | assumption | omega)⟩)
        · have h9 : ¬ (y20_2 ≥ 0) := h9
          show w_W _ _ _ (53, [(0, .ref 43), (1, .int (Int32.ofInt ((A 46) ((I 2774))))), (2, .int (Int32.ofInt (y20_2)))], [], M) _
          refine w_adv (n := 2) (F' := (55, [(0, .ref 43), (1, .int (Int32.ofInt ((A 46) ((I 2774))))), (2, .int (Int32.ofInt (y20_2)))], [.int (Int32.ofInt (3)), .ref 43], M)) rfl ?_
          refine w_call (cm := 232) (as := [(0, .ref 43), (1, .int (Int32.ofInt (3)))]) (rest := []) (o := some (9, 43)) rfl (w_fitR hR rfl) (m_fail (3) hR ⟨by omega, by omega⟩ (show 0 ≤ (I 2774) ∧ (I 2774) < 1501 by omega) (show 1 ≤ 3 ∧ 3 ≤ 7 by first | assumption | omega)) (fun r26 M27 q28 => ?_)
          rcases q28 with ⟨I28a, A28a, B28a, C28a, e29, hR28a, f30⟩
          rw [e29]
          replace hR28a : w_Rep w_TM fr X u l I28a A28a B28a C28a M27 := hR28a
          replace f30 : m_fx I A I28a A28a := f30
          exact Or.inr (Or.inr (⟨I28a, A28a, B28a, C28a, rfl, hR28a, (show m_fx I A I28a A28a by exact f30)⟩))
      · have h8 : ¬ (y20_2 < 0) := h8
        show w_W _ _ _ (24, [(0, .ref 43), (1, .int (Int32.ofInt ((A 46) ((I 2774))))), (2, .int (Int32.ofInt (y20_2)))], [], M) _
        refine w_adv (n := 1) (F' := (25, [(0, .ref 43), (1, .int (Int32.ofInt ((A 46) ((I 2774))))), (2, .int (Int32.ofInt (y20_2)))], [.ref 43], M)) rfl ?_
        refine w_gf (v := .ref 63) hR rfl rfl rfl rfl ?_
        refine w_adv (n := 1) (F' := (29, [(0, .ref 43), (1, .int (Int32.ofInt ((A 46) ((I 2774))))), (2, .int (Int32.ofInt (y20_2)))], [.ref 43, .ref 63], M)) rfl ?_
        refine w_gf (v := .ref 67) hR rfl rfl rfl rfl ?_
        refine w_adv (n := 1) (F' := (33, [(0, .ref 43), (1, .int (Int32.ofInt ((A 46) ((I 2774))))), (2, .int (Int32.ofInt (y20_2)))], [.int (Int32.ofInt (y20_2)), .ref 67, .ref 63], M)) rfl ?_
        have q1 := hSC.1
        refine w_call (cm := 238) (as := [(0, .ref 67), (1, .int (Int32.ofInt (y20_2)))]) (rest := [.ref 63]) (o := some (10, 67)) rfl (w_fitR hR rfl) (m_get (y20_2) 67 (by decide) rfl hR ⟨by omega, by omega⟩ (show 0 ≤ y20_2 by first | assumption | omega) (show y20_2 < (C 67 : Int) by first | assumption | omega)) (fun r31 M32 q33 => ?_)
        rcases q33 with ⟨e34, e35⟩
        rw [e34, e35]
        obtain ⟨r36, r37⟩ : -2147483648 ≤ (A 67) (y20_2) ∧ (A 67) (y20_2) ≤ 2147483647 := hR.ra 67 (y20_2)
        obtain ⟨u1, u2⟩ := hSC.1 (y20_2) (by omega) (by omega)
        show w_W _ _ _ (36, [(0, .ref 43), (1, .int (Int32.ofInt ((A 46) ((I 2774))))), (2, .int (Int32.ofInt (y20_2)))], [.int (Int32.ofInt ((A 67) (y20_2))), .ref 63], M) _
        obtain ⟨r38a, r38b, r38c⟩ : 0 ≤ (I 4033) ∧ (I 4033) ≤ (C 63 : Int) ∧ (C 63 : Int) ≤ 131072 := hR.sz (show 63 ∈ w_TM.2.2 by decide)
        refine w_call (cm := 238) (as := [(0, .ref 63), (1, .int (Int32.ofInt ((A 67) (y20_2))))]) (rest := []) (o := some (10, 63)) rfl (w_fitR hR rfl) (m_get ((A 67) (y20_2)) 63 (by decide) rfl hR ⟨by omega, by omega⟩ (show 0 ≤ (A 67) (y20_2) by first | assumption | omega) (show (A 67) (y20_2) < (C 63 : Int) by first | assumption | omega)) (fun r39 M40 q41 => ?_)
        rcases q41 with ⟨e42, e43⟩
        rw [e42, e43]
        obtain ⟨r44, r45⟩ : -2147483648 ≤ (A 63) ((A 67) (y20_2)) ∧ (A 63) ((A 67) (y20_2)) ≤ 2147483647 := hR.ra 63 ((A 67) (y20_2))
        show w_W _ _ _ (39, [(0, .ref 43), (1, .int (Int32.ofInt ((A 46) ((I 2774))))), (2, .int (Int32.ofInt (y20_2)))], [.int (Int32.ofInt ((A 63) ((A 67) (y20_2))))], M) _
        refine w_adv (n := 1) (F' := (40, [(0, .ref 43), (1, .int (Int32.ofInt ((A 46) ((I 2774))))), (2, .int (Int32.ofInt (y20_2)))], [.int (Int32.ofInt ((A 46) ((I 2774)))), .int (Int32.ofInt ((A 63) ((A 67) (y20_2))))], M)) rfl ?_
        refine w_br2 (a := (A 63) ((A 67) (y20_2))) (b := (A 46) ((I 2774))) rfl rfl ⟨by omega, by omega⟩ ⟨by omega, by omega⟩ (fun h46 => ?_) (fun h46 => ?_)
        · have h46 : (A 63) ((A 67) (y20_2)) = (A 46) ((I 2774)) := h46
          show w_W _ _ _ (49, [(0, .ref 43), (1, .int (Int32.ofInt ((A 46) ((I 2774))))), (2, .int (Int32.ofInt (y20_2)))], [], M) _
          refine w_adv (n := 1) (F' := (50, [(0, .ref 43), (1, .int (Int32.ofInt ((A 46) ((I 2774))))), (2, .int (Int32.ofInt (y20_2)))], [.int (Int32.ofInt (y20_2))], M)) rfl ?_
          refine w_br1 (a := y20_2) rfl rfl ⟨by omega, by omega⟩ (fun h47 => ?_) (fun h47 => ?_)
          · have h47 : y20_2 ≥ 0 := h47
            show w_W _ _ _ (58, [(0, .ref 43), (1, .int (Int32.ofInt ((A 46) ((I 2774))))), (2, .int (Int32.ofInt (y20_2)))], [], M) _
            refine w_adv (n := 1) (F' := (59, [(0, .ref 43), (1, .int (Int32.ofInt ((A 46) ((I 2774))))), (2, .int (Int32.ofInt (y20_2)))], [.ref 43], M)) rfl ?_
            refine w_gf (v := .ref 67) hR rfl rfl rfl rfl ?_
            refine w_adv (n := 1) (F' := (63, [(0, .ref 43), (1, .int (Int32.ofInt ((A 46) ((I 2774))))), (2, .int (Int32.ofInt (y20_2)))], [.int (Int32.ofInt (y20_2)), .ref 67], M)) rfl ?_
            refine w_call (cm := 238) (as := [(0, .ref 67), (1, .int (Int32.ofInt (y20_2)))]) (rest := []) (o := some (10, 67)) rfl (w_fitR hR rfl) (m_get (y20_2) 67 (by decide) rfl hR ⟨by omega, by omega⟩ (show 0 ≤ y20_2 by first | assumption | omega) (show y20_2 < (C 67 : Int) by first | assumption | omega)) (fun r48 M49 q50 => ?_)
            rcases q50 with ⟨e51, e52⟩
            rw [e51, e52]
            obtain ⟨u1, u2⟩ := hSC.1 (y20_2) (by omega) (by omega)
            show w_W _ _ _ (66, [(0, .ref 43), (1, .int (Int32.ofInt ((A 46) ((I 2774))))), (2, .int (Int32.ofInt (y20_2)))], [.int (Int32.ofInt ((A 67) (y20_2)))], M) _
            refine w_adv (n := 3) (F' := (69, [(3, .int (Int32.ofInt ((A 67) (y20_2)))), (0, .ref 43), (1, .int (Int32.ofInt ((A 46) ((I 2774))))), (2, .int (Int32.ofInt (y20_2)))], [.int (Int32.ofInt (3)), .int (Int32.ofInt ((A 67) (y20_2)))], M)) rfl ?_
            refine w_br2 (a := (A 67) (y20_2)) (b := 3) rfl rfl ⟨by omega, by omega⟩ ⟨by omega, by omega⟩ (fun h53 => ?_) (fun h53 => ?_)
            · have h53 : (A 67) (y20_2) < 3 := h53
              show w_W _ _ _ (88, [(3, .int (Int32.ofInt ((A 67) (y20_2)))), (0, .ref 43), (1, .int (Int32.ofInt ((A 46) ((I 2774))))), (2, .int (Int32.ofInt (y20_2)))], [], M) _
              refine w_adv (n := 1) (F' := (89, [(3, .int (Int32.ofInt ((A 67) (y20_2)))), (0, .ref 43), (1, .int (Int32.ofInt ((A 46) ((I 2774))))), (2, .int (Int32.ofInt (y20_2)))], [.int (Int32.ofInt ((A 67) (y20_2)))], M)) rfl ?_
              refine w_fin (r := .inl (some ((A 67) (y20_2)))) (M' := M) rfl ?_
              first
                | exact Or.inl ⟨(A 67) (y20_2), rfl, ⟨by omega, by omega⟩, rfl, (show 0 ≤ (A 67) (y20_2) ∧ (A 67) (y20_2) < (I 4033) by first | assumption | omega)⟩
                | exact Or.inr (Or.inl ⟨(A 67) (y20_2), (I 2776), rfl, ⟨by omega, by omega⟩, hR, (show 0 ≤ (A 67) (y20_2) ∧ (A 67) (y20_2) < (I 4033) by first | assumption | omega)⟩)
            · have h53 : ¬ ((A 67) (y20_2) < 3) := h53
              show w_W _ _ _ (72, [(3, .int (Int32.ofInt ((A 67) (y20_2)))), (0, .ref 43), (1, .int (Int32.ofInt ((A 46) ((I 2774))))), (2, .int (Int32.ofInt (y20_2)))], [], M) _
              refine w_adv (n := 2) (F' := (75, [(3, .int (Int32.ofInt ((A 67) (y20_2)))), (0, .ref 43), (1, .int (Int32.ofInt ((A 46) ((I 2774))))), (2, .int (Int32.ofInt (y20_2)))], [.int (Int32.ofInt (7)), .int (Int32.ofInt ((A 67) (y20_2)))], M)) rfl ?_
              refine w_br2 (a := (A 67) (y20_2)) (b := 7) rfl rfl ⟨by omega, by omega⟩ ⟨by omega, by omega⟩ (fun h54 => ?_) (fun h54 => ?_)
              · have h54 : (A 67) (y20_2) ≥ 7 := h54
                show w_W _ _ _ (88, [(3, .int (Int32.ofInt ((A 67) (y20_2)))), (0, .ref 43), (1, .int (Int32.ofInt ((A 46) ((I 2774))))), (2, .int (Int32.ofInt (y20_2)))], [], M) _
                refine w_adv (n := 1) (F' := (89, [(3, .int (Int32.ofInt ((A 67) (y20_2)))), (0, .ref 43), (1, .int (Int32.ofInt ((A 46) ((I 2774))))), (2, .int (Int32.ofInt (y20_2)))], [.int (Int32.ofInt ((A 67) (y20_2)))], M)) rfl ?_
                refine w_fin (r := .inl (some ((A 67) (y20_2)))) (M' := M) rfl ?_
                first
                  | exact Or.inl ⟨(A 67) (y20_2), rfl, ⟨by omega, by omega⟩, rfl, (show 0 ≤ (A 67) (y20_2) ∧ (A 67) (y20_2) < (I 4033) by first | assumption | omega)⟩
                  | exact Or.inr (Or.inl ⟨(A 67) (y20_2), (I 2776), rfl, ⟨by omega, by omega⟩, hR, (show 0 ≤ (A 67) (y20_2) ∧ (A 67) (y20_2) < (I 4033) by first | assumption | omega)⟩)
              · have h54 : ¬ ((A 67) (y20_2) ≥ 7) := h54
                show w_W _ _ _ (78, [(3, .int (Int32.ofInt ((A 67) (y20_2)))), (0, .ref 43), (1, .int (Int32.ofInt ((A 46) ((I 2774))))), (2, .int (Int32.ofInt (y20_2)))], [], M) _
                refine w_adv (n := 2) (F' := (80, [(3, .int (Int32.ofInt ((A 67) (y20_2)))), (0, .ref 43), (1, .int (Int32.ofInt ((A 46) ((I 2774))))), (2, .int (Int32.ofInt (y20_2)))], [.ref 43, .ref 43], M)) rfl ?_
                refine w_gf (v := .int (Int32.ofInt ((I 2776)))) hR rfl rfl rfl rfl ?_
                obtain ⟨r55, r56⟩ : -2147483648 ≤ (I 2776) ∧ (I 2776) ≤ 2147483647 := hR.ri 2776
                refine w_adv (n := 2) (F' := (85, [(3, .int (Int32.ofInt ((A 67) (y20_2)))), (0, .ref 43), (1, .int (Int32.ofInt ((A 46) ((I 2774))))), (2, .int (Int32.ofInt (y20_2)))], [.int ((Int32.ofInt ((I 2776))) ||| (Int32.ofInt (1))), .ref 43], M)) rfl ?_
                refine w_int (fun x57 r58 e59 => ?_)
                obtain ⟨r58a, r58b⟩ := r58
                refine w_pf hR rfl rfl rfl rfl (show w_in (x57) from ⟨by omega, by omega⟩) (fun h => absurd h (by decide)) (fun M60 hR61 => ?_)
                replace hR61 : w_Rep w_TM fr X u l (w_up I 2776 (x57)) A B C M60 := hR61
                refine w_adv (n := 1) (F' := (89, [(3, .int (Int32.ofInt ((A 67) (y20_2)))), (0, .ref 43), (1, .int (Int32.ofInt ((A 46) ((I 2774))))), (2, .int (Int32.ofInt (y20_2)))], [.int (Int32.ofInt ((A 67) (y20_2)))], M60)) rfl ?_
                refine w_fin (r := .inl (some ((A 67) (y20_2)))) (M' := M60) rfl ?_
                exact Or.inr (Or.inl ⟨(A 67) (y20_2), x57, rfl, ⟨by omega, by omega⟩, hR61, (show 0 ≤ (A 67) (y20_2) ∧ (A 67) (y20_2) < (I 4033) by first | assumption | omega)⟩)
          · have h47 : ¬ (y20_2 ≥ 0) := h47
            show w_W _ _ _ (53, [(0, .ref 43), (1, .int (Int32.ofInt ((A 46) ((I 2774))))), (2, .int (Int32.ofInt (y20_2)))], [], M) _
            refine w_adv (n := 2) (F' := (55, [(0, .ref 43), (1, .int (Int32.ofInt ((A 46) ((I 2774))))), (2, .int (Int32.ofInt (y20_2)))], [.int (Int32.ofInt (3)), .ref 43], M)) rfl ?_
            refine w_call (cm := 232) (as := [(0, .ref 43), (1, .int (Int32.ofInt (3)))]) (rest := []) (o := some (9, 43)) rfl (w_fitR hR rfl) (m_fail (3) hR ⟨by omega, by omega⟩ (show 0 ≤ (I 2774) ∧ (I 2774) < 1501 by omega) (show 1 ≤ 3 ∧ 3 ≤ 7 by first | assumption | omega)) (fun r62 M63 q64 => ?_)
            rcases q64 with ⟨I64a, A64a, B64a, C64a, e65, hR64a, f66⟩
            rw [e65]
            replace hR64a : w_Rep w_TM fr X u l I64a A64a B64a C64a M63 := hR64a
            replace f66 : m_fx I A I64a A64a := f66
            exact Or.inr (Or.inr (⟨I64a, A64a, B64a, C64a, rfl, hR64a, (show m_fx I A I64a A64a by exact f66)⟩))
        · have h46 : ¬ ((A 63) ((A 67) (y20_2)) = (A 46) ((I 2774))) := h46
          show w_W _ _ _ (43, [(0, .ref 43), (1, .int (Int32.ofInt ((A 46) ((I 2774))))), (2, .int (Int32.ofInt (y20_2)))], [], M) _
          refine w_inc (nL := 4) (a := y20_2) rfl rfl rfl (by decide) ?_
          refine w_adv (n := 1) (F' := (20, [(2, .int (Int32.ofInt (y20_2 + (-1)))), (0, .ref 43), (1, .int (Int32.ofInt ((A 46) ((I 2774)))))], [], M)) rfl ?_
          refine w_ls (ls := [(0, .ref 43), (1, .int (Int32.ofInt ((A 46) ((I 2774))))), (2, .int (Int32.ofInt (y20_2 + (-1))))]) (show List.Nodup [0, 1, 2] by decide) (show List.Nodup [2, 0, 1] by decide) (List.forall_mem_cons.mpr ⟨(List.Mem.tail _ (List.Mem.head _)), (List.forall_mem_cons.mpr ⟨(List.Mem.tail _ (List.Mem.tail _ (List.Mem.head _))), (List.forall_mem_cons.mpr ⟨(List.Mem.head _), (fun _ h => by cases h)⟩)⟩)⟩) ?_
          exact ih20  (y20_2 + (-1)) ⟨by omega, by omega⟩ (show -1 ≤ y20_2 + (-1) ∧ y20_2 + (-1) < (I 4289) by first | assumption | omega) (by omega)
  refine w_ls (ls := [(0, .ref 43), (1, .int (Int32.ofInt ((A 46) ((I 2774))))), (2, .int (Int32.ofInt ((I 4289) - 1)))]) (show List.Nodup [0, 1, 2] by decide) (show List.Nodup [2, 1, 0] by decide) (List.forall_mem_cons.mpr ⟨(List.Mem.tail _ (List.Mem.tail _ (List.Mem.head _))), (List.forall_mem_cons.mpr ⟨(List.Mem.tail _ (List.Mem.head _)), (List.forall_mem_cons.mpr ⟨(List.Mem.head _), (fun _ h => by cases h)⟩)⟩)⟩) ?_
  exact lp20 (((I 4289) - 1 + 1).toNat + 1)  ((I 4289) - 1) ⟨by omega, by omega⟩ (show -1 ≤ (I 4289) - 1 ∧ (I 4289) - 1 < (I 4289) by first | assumption | omega) (by omega)
def m_link_Q (fr : Nat → Bool) (X : Nat → Option (q_C (Nat → Int32))) (u l : Nat) (I : Nat → Int) (A : Nat → Int → Int) (B C : Nat → Nat) (M : w_M) (first : Int) (last : Int) (n : Int) : w_X → w_M → Prop := fun r M' => ((r = .inl (some n)) ∧ (M' = M) ∧ (first < 0)) ∨ ((r = .inl (some first)) ∧ (w_Rep w_TM fr X u l I (w_upF A 61 (w_upA (A 61) (last) (n))) B C M') ∧ (0 ≤ first))
set_option maxRecDepth 100000 in
theorem m_link {L : Nat} {xs : Nat → Int32} {d : Nat} {fr : Nat → Bool} {X : Nat → Option (q_C (Nat → Int32))} {u l : Nat} {I : Nat → Int} {A : Nat → Int → Int} {B C : Nat → Nat} {M : w_M} (first : Int) (last : Int) (n : Int) (hR : w_Rep w_TM fr X u l I A B C M) (r_first : w_in first) (r_last : w_in last) (r_n : w_in n) (hl : first < 0 ∨ (0 ≤ last ∧ last < (I 3905))) : w_W (z_P L xs) d 240 (0, [(0, .ref 43), (1, .int (Int32.ofInt (first))), (2, .int (Int32.ofInt (last))), (3, .int (Int32.ofInt (n)))], [], M) (m_link_Q fr X u l I A B C M first last n) := by
  obtain ⟨ra_first, rb_first⟩ := r_first
  obtain ⟨ra_last, rb_last⟩ := r_last
  obtain ⟨ra_n, rb_n⟩ := r_n
  refine w_adv (n := 1) (F' := (1, [(0, .ref 43), (1, .int (Int32.ofInt (first))), (2, .int (Int32.ofInt (last))), (3, .int (Int32.ofInt (n)))], [.int (Int32.ofInt (first))], M)) rfl ?_
  refine w_br1 (a := first) rfl rfl ⟨by omega, by omega⟩ (fun h1 => ?_) (fun h1 => ?_)
  · have h1 : first < 0 := h1
    show w_W _ _ _ (14, [(0, .ref 43), (1, .int (Int32.ofInt (first))), (2, .int (Int32.ofInt (last))), (3, .int (Int32.ofInt (n)))], [], M) _
    refine w_adv (n := 1) (F' := (15, [(0, .ref 43), (1, .int (Int32.ofInt (first))), (2, .int (Int32.ofInt (last))), (3, .int (Int32.ofInt (n)))], [.int (Int32.ofInt (first))], M)) rfl ?_
    refine w_br1 (a := first) rfl rfl ⟨by omega, by omega⟩ (fun h2 => ?_) (fun h2 => ?_)
    · have h2 : first ≥ 0 := h2
      exfalso; omega
    · have h2 : ¬ (first ≥ 0) := h2
      show w_W _ _ _ (18, [(0, .ref 43), (1, .int (Int32.ofInt (first))), (2, .int (Int32.ofInt (last))), (3, .int (Int32.ofInt (n)))], [], M) _
      refine w_adv (n := 2) (F' := (23, [(0, .ref 43), (1, .int (Int32.ofInt (first))), (2, .int (Int32.ofInt (last))), (3, .int (Int32.ofInt (n)))], [.int (Int32.ofInt (n))], M)) rfl ?_
      refine w_fin (r := .inl (some (n))) (M' := M) rfl ?_
      first
        | exact Or.inl ⟨rfl, rfl, (show first < 0 by first | assumption | omega)⟩
        | exact Or.inr (⟨rfl, hR, (show 0 ≤ first by first | assumption | omega)⟩)
  · have h1 : ¬ (first < 0) := h1
    show w_W _ _ _ (4, [(0, .ref 43), (1, .int (Int32.ofInt (first))), (2, .int (Int32.ofInt (last))), (3, .int (Int32.ofInt (n)))], [], M) _
    refine w_adv (n := 1) (F' := (5, [(0, .ref 43), (1, .int (Int32.ofInt (first))), (2, .int (Int32.ofInt (last))), (3, .int (Int32.ofInt (n)))], [.ref 43], M)) rfl ?_
    refine w_gf (v := .ref 61) hR rfl rfl rfl rfl ?_
    refine w_gf (v := .ref (B 61)) hR rfl rfl rfl rfl ?_
    refine w_adv (n := 2) (F' := (13, [(0, .ref 43), (1, .int (Int32.ofInt (first))), (2, .int (Int32.ofInt (last))), (3, .int (Int32.ofInt (n)))], [.int (Int32.ofInt (n)), .int (Int32.ofInt (last)), .ref (B 61)], M)) rfl ?_
    obtain ⟨r5a, r5b, r5c⟩ : 0 ≤ (I 3905) ∧ (I 3905) ≤ (C 61 : Int) ∧ (C 61 : Int) ≤ 131072 := hR.sz (show 61 ∈ w_TM.2.2 by decide)
    refine w_sr hR rfl (by decide) (show 0 ≤ last by omega) (show last < (C 61 : Int) by omega) (show w_in (n) from ⟨by omega, by omega⟩) (fun M3 hR4 => ?_)
    replace hR4 : w_Rep w_TM fr X u l I (w_upF A 61 (w_upA (A 61) (last) (n))) B C M3 := hR4
    refine w_adv (n := 1) (F' := (15, [(0, .ref 43), (1, .int (Int32.ofInt (first))), (2, .int (Int32.ofInt (last))), (3, .int (Int32.ofInt (n)))], [.int (Int32.ofInt (first))], M3)) rfl ?_
    refine w_br1 (a := first) rfl rfl ⟨by omega, by omega⟩ (fun h6 => ?_) (fun h6 => ?_)
    · have h6 : first ≥ 0 := h6
      show w_W _ _ _ (22, [(0, .ref 43), (1, .int (Int32.ofInt (first))), (2, .int (Int32.ofInt (last))), (3, .int (Int32.ofInt (n)))], [], M3) _
      refine w_adv (n := 1) (F' := (23, [(0, .ref 43), (1, .int (Int32.ofInt (first))), (2, .int (Int32.ofInt (last))), (3, .int (Int32.ofInt (n)))], [.int (Int32.ofInt (first))], M3)) rfl ?_
      refine w_fin (r := .inl (some (first))) (M' := M3) rfl ?_
      exact Or.inr (⟨rfl, hR4, (show 0 ≤ first by first | assumption | omega)⟩)
    · have h6 : ¬ (first ≥ 0) := h6
      exfalso; omega
def m_be (k n : Int) : Prop := k = 4 ∨ k = 1 ∨ k = 2 ∨ k = 3 ∨ (k = 6 ∧ (n = 91 ∨ n = 40 ∨ n = 123)) ∨ (k = 5 ∧ (n = 10 ∨ n = 11 ∨ n = 1 ∨ n = 4 ∨ n = 7 ∨ n = 12))
def m_bi (k n : Int) : Prop := m_be k n ∨ (k = 5 ∧ (n = 0 ∨ n = 13 ∨ n = 15 ∨ n = 16))
def m_beginsExp_Q (fr : Nat → Bool) (X : Nat → Option (q_C (Nat → Int32))) (u l : Nat) (I : Nat → Int) (A : Nat → Int → Int) (B C : Nat → Nat) (M : w_M) : w_X → w_M → Prop := fun r M' => ((r = .inl (some 1)) ∧ (M' = M) ∧ (1 ≤ (A 45) ((I 2774)) ∧ (A 45) ((I 2774)) ≤ 6) ∧ (m_be ((A 45) ((I 2774))) ((A 46) ((I 2774))))) ∨ ((r = .inl (some 0)) ∧ (M' = M) ∧ (¬ m_be ((A 45) ((I 2774))) ((A 46) ((I 2774)))))
set_option maxRecDepth 100000 in
theorem m_beginsExp {L : Nat} {xs : Nat → Int32} {d : Nat} {fr : Nat → Bool} {X : Nat → Option (q_C (Nat → Int32))} {u l : Nat} {I : Nat → Int} {A : Nat → Int → Int} {B C : Nat → Nat} {M : w_M} (hR : w_Rep w_TM fr X u l I A B C M) (hd : 3 ≤ d) (hTK : m_TK I A) (hNU : (0 ≤ (I 2774) ∧ (I 2774) < (I 2754) ∧ (I 2754) ≤ 1501 ∧ 0 ≤ (I 2775) ∧ (I 2775) ≤ 24) ∧ ((I 3393) = (I 3905) ∧ (I 3521) = (I 3905) ∧ (I 3649) = (I 3905) ∧ (I 3777) = (I 3905) ∧ 0 ≤ (I 3905) ∧ (I 3905) ≤ 3 * (I 2774)) ∧ ((I 4161) = (I 4033) ∧ 7 ≤ (I 4289) ∧ (I 4289) ≤ (I 4033) ∧ (I 4033) ≤ 7 + (I 2774)) ∧ 0 ≤ (I 5889) ∧ (I 5889) ≤ (I 2774)) : w_W (z_P L xs) d 229 (0, [(0, .ref 43)], [], M) (m_beginsExp_Q fr X u l I A B C M) := by
  obtain ⟨d, rfl⟩ : ∃ d0, d = d0 + 1 := ⟨d - 1, by omega⟩
  refine w_adv (n := 1) (F' := (1, [(0, .ref 43)], [.ref 43], M)) rfl ?_
  refine w_gf (v := .ref 45) hR rfl rfl rfl rfl ?_
  refine w_adv (n := 1) (F' := (5, [(0, .ref 43)], [.ref 43, .ref 45], M)) rfl ?_
  refine w_gf (v := .int (Int32.ofInt ((I 2774)))) hR rfl rfl rfl rfl ?_
  obtain ⟨r1, r2⟩ : -2147483648 ≤ (I 2774) ∧ (I 2774) ≤ 2147483647 := hR.ri 2774
  refine w_la (n := 1502) hR rfl (Or.inl ⟨rfl, rfl⟩) rfl (show 0 ≤ (I 2774) by omega) (show (I 2774) < (1502 : Int) by omega) (by decide) ?_
  obtain ⟨r3, r4⟩ : -2147483648 ≤ (A 45) ((I 2774)) ∧ (A 45) ((I 2774)) ≤ 2147483647 := hR.ra 45 ((I 2774))
  show w_W _ _ _ (9, [(0, .ref 43)], [.int (Int32.ofInt ((A 45) ((I 2774))))], M) _
  refine w_adv (n := 3) (F' := (12, [(1, .int (Int32.ofInt ((A 45) ((I 2774))))), (0, .ref 43)], [.int (Int32.ofInt (4)), .int (Int32.ofInt ((A 45) ((I 2774))))], M)) rfl ?_
  refine w_br2 (a := (A 45) ((I 2774))) (b := 4) rfl rfl ⟨by omega, by omega⟩ ⟨by omega, by omega⟩ (fun h5 => ?_) (fun h5 => ?_)
  · have h5 : (A 45) ((I 2774)) = 4 := h5
    have w6 : (I 2774) + 1 < (I 2754) := m_TK_lt hTK (by omega) (by omega) (by omega)
    show w_W _ _ _ (109, [(1, .int (Int32.ofInt ((A 45) ((I 2774))))), (0, .ref 43)], [], M) _
    refine w_adv (n := 2) (F' := (114, [(1, .int (Int32.ofInt ((A 45) ((I 2774))))), (0, .ref 43)], [.int (Int32.ofInt (1))], M)) rfl ?_
    refine w_fin (r := .inl (some (1))) (M' := M) rfl ?_
    exact Or.inl ⟨rfl, rfl, (show 1 ≤ (A 45) ((I 2774)) ∧ (A 45) ((I 2774)) ≤ 6 by first | assumption | omega), (show m_be ((A 45) ((I 2774))) ((A 46) ((I 2774))) by unfold m_be; omega)⟩
  · have h5 : ¬ ((A 45) ((I 2774)) = 4) := h5
    show w_W _ _ _ (15, [(1, .int (Int32.ofInt ((A 45) ((I 2774))))), (0, .ref 43)], [], M) _
    refine w_adv (n := 2) (F' := (17, [(1, .int (Int32.ofInt ((A 45) ((I 2774))))), (0, .ref 43)], [.int (Int32.ofInt (1)), .int (Int32.ofInt ((A 45) ((I 2774))))], M)) rfl ?_
    refine w_br2 (a := (A 45) ((I 2774))) (b := 1) rfl rfl ⟨by omega, by omega⟩ ⟨by omega, by omega⟩ (fun h7 => ?_) (fun h7 => ?_)
    · have h7 : (A 45) ((I 2774)) = 1 := h7
      have w8 : (I 2774) + 1 < (I 2754) := m_TK_lt hTK (by omega) (by omega) (by omega)
      show w_W _ _ _ (109, [(1, .int (Int32.ofInt ((A 45) ((I 2774))))), (0, .ref 43)], [], M) _
      refine w_adv (n := 2) (F' := (114, [(1, .int (Int32.ofInt ((A 45) ((I 2774))))), (0, .ref 43)], [.int (Int32.ofInt (1))], M)) rfl ?_
      refine w_fin (r := .inl (some (1))) (M' := M) rfl ?_
      exact Or.inl ⟨rfl, rfl, (show 1 ≤ (A 45) ((I 2774)) ∧ (A 45) ((I 2774)) ≤ 6 by first | assumption | omega), (show m_be ((A 45) ((I 2774))) ((A 46) ((I 2774))) by unfold m_be; omega)⟩
    · have h7 : ¬ ((A 45) ((I 2774)) = 1) := h7
      show w_W _ _ _ (20, [(1, .int (Int32.ofInt ((A 45) ((I 2774))))), (0, .ref 43)], [], M) _
      refine w_adv (n := 2) (F' := (22, [(1, .int (Int32.ofInt ((A 45) ((I 2774))))), (0, .ref 43)], [.int (Int32.ofInt (2)), .int (Int32.ofInt ((A 45) ((I 2774))))], M)) rfl ?_
      refine w_br2 (a := (A 45) ((I 2774))) (b := 2) rfl rfl ⟨by omega, by omega⟩ ⟨by omega, by omega⟩ (fun h9 => ?_) (fun h9 => ?_)
      · have h9 : (A 45) ((I 2774)) = 2 := h9
        have w10 : (I 2774) + 1 < (I 2754) := m_TK_lt hTK (by omega) (by omega) (by omega)
        show w_W _ _ _ (109, [(1, .int (Int32.ofInt ((A 45) ((I 2774))))), (0, .ref 43)], [], M) _
        refine w_adv (n := 2) (F' := (114, [(1, .int (Int32.ofInt ((A 45) ((I 2774))))), (0, .ref 43)], [.int (Int32.ofInt (1))], M)) rfl ?_
        refine w_fin (r := .inl (some (1))) (M' := M) rfl ?_
        exact Or.inl ⟨rfl, rfl, (show 1 ≤ (A 45) ((I 2774)) ∧ (A 45) ((I 2774)) ≤ 6 by first | assumption | omega), (show m_be ((A 45) ((I 2774))) ((A 46) ((I 2774))) by unfold m_be; omega)⟩
      · have h9 : ¬ ((A 45) ((I 2774)) = 2) := h9
        show w_W _ _ _ (25, [(1, .int (Int32.ofInt ((A 45) ((I 2774))))), (0, .ref 43)], [], M) _
        refine w_adv (n := 2) (F' := (27, [(1, .int (Int32.ofInt ((A 45) ((I 2774))))), (0, .ref 43)], [.int (Int32.ofInt (3)), .int (Int32.ofInt ((A 45) ((I 2774))))], M)) rfl ?_
        refine w_br2 (a := (A 45) ((I 2774))) (b := 3) rfl rfl ⟨by omega, by omega⟩ ⟨by omega, by omega⟩ (fun h11 => ?_) (fun h11 => ?_)
        · have h11 : (A 45) ((I 2774)) = 3 := h11
          have w12 : (I 2774) + 1 < (I 2754) := m_TK_lt hTK (by omega) (by omega) (by omega)
          show w_W _ _ _ (109, [(1, .int (Int32.ofInt ((A 45) ((I 2774))))), (0, .ref 43)], [], M) _
          refine w_adv (n := 2) (F' := (114, [(1, .int (Int32.ofInt ((A 45) ((I 2774))))), (0, .ref 43)], [.int (Int32.ofInt (1))], M)) rfl ?_
          refine w_fin (r := .inl (some (1))) (M' := M) rfl ?_
          exact Or.inl ⟨rfl, rfl, (show 1 ≤ (A 45) ((I 2774)) ∧ (A 45) ((I 2774)) ≤ 6 by first | assumption | omega), (show m_be ((A 45) ((I 2774))) ((A 46) ((I 2774))) by unfold m_be; omega)⟩
        · have h11 : ¬ ((A 45) ((I 2774)) = 3) := h11
          show w_W _ _ _ (30, [(1, .int (Int32.ofInt ((A 45) ((I 2774))))), (0, .ref 43)], [], M) _
          refine w_adv (n := 2) (F' := (33, [(1, .int (Int32.ofInt ((A 45) ((I 2774))))), (0, .ref 43)], [.int (Int32.ofInt (91)), .ref 43], M)) rfl ?_
          refine w_call (cm := 230) (as := [(0, .ref 43), (1, .int (Int32.ofInt (91)))]) (rest := []) (o := some (9, 43)) rfl (w_fitR hR rfl) (m_isSign (91) hR ⟨by omega, by omega⟩ (show 0 ≤ (I 2774) ∧ (I 2774) < 1501 by omega)) (fun r13 M14 q15 => ?_)
          rcases q15 with ⟨e16, e17, f18⟩ | ⟨e19, e20, f21⟩
          · rw [e16, e17]
            replace f18 : (A 45) ((I 2774)) = 6 ∧ (A 46) ((I 2774)) = 91 := f18
            have w22 : (I 2774) + 1 < (I 2754) := m_TK_lt hTK (by omega) (by omega) (by omega)
            show w_W _ _ _ (36, [(1, .int (Int32.ofInt ((A 45) ((I 2774))))), (0, .ref 43)], [.int (Int32.ofInt (1))], M) _
            refine w_adv (n := 3) (F' := (114, [(1, .int (Int32.ofInt ((A 45) ((I 2774))))), (0, .ref 43)], [.int (Int32.ofInt (1))], M)) rfl ?_
            refine w_fin (r := .inl (some (1))) (M' := M) rfl ?_
            exact Or.inl ⟨rfl, rfl, (show 1 ≤ (A 45) ((I 2774)) ∧ (A 45) ((I 2774)) ≤ 6 by first | assumption | omega), (show m_be ((A 45) ((I 2774))) ((A 46) ((I 2774))) by unfold m_be; omega)⟩
          · rw [e19, e20]
            replace f21 : ¬ ((A 45) ((I 2774)) = 6 ∧ (A 46) ((I 2774)) = 91) := f21
            show w_W _ _ _ (36, [(1, .int (Int32.ofInt ((A 45) ((I 2774))))), (0, .ref 43)], [.int (Int32.ofInt (0))], M) _
            refine w_adv (n := 3) (F' := (42, [(1, .int (Int32.ofInt ((A 45) ((I 2774))))), (0, .ref 43)], [.int (Int32.ofInt (40)), .ref 43], M)) rfl ?_
            refine w_call (cm := 230) (as := [(0, .ref 43), (1, .int (Int32.ofInt (40)))]) (rest := []) (o := some (9, 43)) rfl (w_fitR hR rfl) (m_isSign (40) hR ⟨by omega, by omega⟩ (show 0 ≤ (I 2774) ∧ (I 2774) < 1501 by omega)) (fun r23 M24 q25 => ?_)
            rcases q25 with ⟨e26, e27, f28⟩ | ⟨e29, e30, f31⟩
            · rw [e26, e27]
              replace f28 : (A 45) ((I 2774)) = 6 ∧ (A 46) ((I 2774)) = 40 := f28
              have w32 : (I 2774) + 1 < (I 2754) := m_TK_lt hTK (by omega) (by omega) (by omega)
              show w_W _ _ _ (45, [(1, .int (Int32.ofInt ((A 45) ((I 2774))))), (0, .ref 43)], [.int (Int32.ofInt (1))], M) _
              refine w_adv (n := 3) (F' := (114, [(1, .int (Int32.ofInt ((A 45) ((I 2774))))), (0, .ref 43)], [.int (Int32.ofInt (1))], M)) rfl ?_
              refine w_fin (r := .inl (some (1))) (M' := M) rfl ?_
              exact Or.inl ⟨rfl, rfl, (show 1 ≤ (A 45) ((I 2774)) ∧ (A 45) ((I 2774)) ≤ 6 by first | assumption | omega), (show m_be ((A 45) ((I 2774))) ((A 46) ((I 2774))) by unfold m_be; omega)⟩
            · rw [e29, e30]
              replace f31 : ¬ ((A 45) ((I 2774)) = 6 ∧ (A 46) ((I 2774)) = 40) := f31
              show w_W _ _ _ (45, [(1, .int (Int32.ofInt ((A 45) ((I 2774))))), (0, .ref 43)], [.int (Int32.ofInt (0))], M) _
              refine w_adv (n := 3) (F' := (51, [(1, .int (Int32.ofInt ((A 45) ((I 2774))))), (0, .ref 43)], [.int (Int32.ofInt (123)), .ref 43], M)) rfl ?_
              refine w_call (cm := 230) (as := [(0, .ref 43), (1, .int (Int32.ofInt (123)))]) (rest := []) (o := some (9, 43)) rfl (w_fitR hR rfl) (m_isSign (123) hR ⟨by omega, by omega⟩ (show 0 ≤ (I 2774) ∧ (I 2774) < 1501 by omega)) (fun r33 M34 q35 => ?_)
              rcases q35 with ⟨e36, e37, f38⟩ | ⟨e39, e40, f41⟩
              · rw [e36, e37]
                replace f38 : (A 45) ((I 2774)) = 6 ∧ (A 46) ((I 2774)) = 123 := f38
                have w42 : (I 2774) + 1 < (I 2754) := m_TK_lt hTK (by omega) (by omega) (by omega)
                show w_W _ _ _ (54, [(1, .int (Int32.ofInt ((A 45) ((I 2774))))), (0, .ref 43)], [.int (Int32.ofInt (1))], M) _
                refine w_adv (n := 3) (F' := (114, [(1, .int (Int32.ofInt ((A 45) ((I 2774))))), (0, .ref 43)], [.int (Int32.ofInt (1))], M)) rfl ?_
                refine w_fin (r := .inl (some (1))) (M' := M) rfl ?_
                exact Or.inl ⟨rfl, rfl, (show 1 ≤ (A 45) ((I 2774)) ∧ (A 45) ((I 2774)) ≤ 6 by first | assumption | omega), (show m_be ((A 45) ((I 2774))) ((A 46) ((I 2774))) by unfold m_be; omega)⟩
              · rw [e39, e40]
                replace f41 : ¬ ((A 45) ((I 2774)) = 6 ∧ (A 46) ((I 2774)) = 123) := f41
                show w_W _ _ _ (54, [(1, .int (Int32.ofInt ((A 45) ((I 2774))))), (0, .ref 43)], [.int (Int32.ofInt (0))], M) _
                refine w_adv (n := 3) (F' := (60, [(1, .int (Int32.ofInt ((A 45) ((I 2774))))), (0, .ref 43)], [.int (Int32.ofInt (10)), .ref 43], M)) rfl ?_
                refine w_call (cm := 231) (as := [(0, .ref 43), (1, .int (Int32.ofInt (10)))]) (rest := []) (o := some (9, 43)) rfl (w_fitR hR rfl) (m_isWord (10) hR ⟨by omega, by omega⟩ (show 0 ≤ (I 2774) ∧ (I 2774) < 1501 by omega)) (fun r43 M44 q45 => ?_)
                rcases q45 with ⟨e46, e47, f48⟩ | ⟨e49, e50, f51⟩
                · rw [e46, e47]
                  replace f48 : (A 45) ((I 2774)) = 5 ∧ (A 46) ((I 2774)) = 10 := f48
                  have w52 : (I 2774) + 1 < (I 2754) := m_TK_lt hTK (by omega) (by omega) (by omega)
                  show w_W _ _ _ (63, [(1, .int (Int32.ofInt ((A 45) ((I 2774))))), (0, .ref 43)], [.int (Int32.ofInt (1))], M) _
                  refine w_adv (n := 3) (F' := (114, [(1, .int (Int32.ofInt ((A 45) ((I 2774))))), (0, .ref 43)], [.int (Int32.ofInt (1))], M)) rfl ?_
                  refine w_fin (r := .inl (some (1))) (M' := M) rfl ?_
                  exact Or.inl ⟨rfl, rfl, (show 1 ≤ (A 45) ((I 2774)) ∧ (A 45) ((I 2774)) ≤ 6 by first | assumption | omega), (show m_be ((A 45) ((I 2774))) ((A 46) ((I 2774))) by unfold m_be; omega)⟩
                · rw [e49, e50]
                  replace f51 : ¬ ((A 45) ((I 2774)) = 5 ∧ (A 46) ((I 2774)) = 10) := f51
                  show w_W _ _ _ (63, [(1, .int (Int32.ofInt ((A 45) ((I 2774))))), (0, .ref 43)], [.int (Int32.ofInt (0))], M) _
                  refine w_adv (n := 3) (F' := (69, [(1, .int (Int32.ofInt ((A 45) ((I 2774))))), (0, .ref 43)], [.int (Int32.ofInt (11)), .ref 43], M)) rfl ?_
                  refine w_call (cm := 231) (as := [(0, .ref 43), (1, .int (Int32.ofInt (11)))]) (rest := []) (o := some (9, 43)) rfl (w_fitR hR rfl) (m_isWord (11) hR ⟨by omega, by omega⟩ (show 0 ≤ (I 2774) ∧ (I 2774) < 1501 by omega)) (fun r53 M54 q55 => ?_)
                  rcases q55 with ⟨e56, e57, f58⟩ | ⟨e59, e60, f61⟩
                  · rw [e56, e57]
                    replace f58 : (A 45) ((I 2774)) = 5 ∧ (A 46) ((I 2774)) = 11 := f58
                    have w62 : (I 2774) + 1 < (I 2754) := m_TK_lt hTK (by omega) (by omega) (by omega)
                    show w_W _ _ _ (72, [(1, .int (Int32.ofInt ((A 45) ((I 2774))))), (0, .ref 43)], [.int (Int32.ofInt (1))], M) _
                    refine w_adv (n := 3) (F' := (114, [(1, .int (Int32.ofInt ((A 45) ((I 2774))))), (0, .ref 43)], [.int (Int32.ofInt (1))], M)) rfl ?_
                    refine w_fin (r := .inl (some (1))) (M' := M) rfl ?_
                    exact Or.inl ⟨rfl, rfl, (show 1 ≤ (A 45) ((I 2774)) ∧ (A 45) ((I 2774)) ≤ 6 by first | assumption | omega), (show m_be ((A 45) ((I 2774))) ((A 46) ((I 2774))) by unfold m_be; omega)⟩
                  · rw [e59, e60]
                    replace f61 : ¬ ((A 45) ((I 2774)) = 5 ∧ (A 46) ((I 2774)) = 11) := f61
                    show w_W _ _ _ (72, [(1, .int (Int32.ofInt ((A 45) ((I 2774))))), (0, .ref 43)], [.int (Int32.ofInt (0))], M) _
                    refine w_adv (n := 3) (F' := (77, [(1, .int (Int32.ofInt ((A 45) ((I 2774))))), (0, .ref 43)], [.int (Int32.ofInt (1)), .ref 43], M)) rfl ?_
                    refine w_call (cm := 231) (as := [(0, .ref 43), (1, .int (Int32.ofInt (1)))]) (rest := []) (o := some (9, 43)) rfl (w_fitR hR rfl) (m_isWord (1) hR ⟨by omega, by omega⟩ (show 0 ≤ (I 2774) ∧ (I 2774) < 1501 by omega)) (fun r63 M64 q65 => ?_)
                    rcases q65 with ⟨e66, e67, f68⟩ | ⟨e69, e70, f71⟩
                    · rw [e66, e67]
                      replace f68 : (A 45) ((I 2774)) = 5 ∧ (A 46) ((I 2774)) = 1 := f68
                      have w72 : (I 2774) + 1 < (I 2754) := m_TK_lt hTK (by omega) (by omega) (by omega)
                      show w_W _ _ _ (80, [(1, .int (Int32.ofInt ((A 45) ((I 2774))))), (0, .ref 43)], [.int (Int32.ofInt (1))], M) _
                      refine w_adv (n := 3) (F' := (114, [(1, .int (Int32.ofInt ((A 45) ((I 2774))))), (0, .ref 43)], [.int (Int32.ofInt (1))], M)) rfl ?_
                      refine w_fin (r := .inl (some (1))) (M' := M) rfl ?_
                      exact Or.inl ⟨rfl, rfl, (show 1 ≤ (A 45) ((I 2774)) ∧ (A 45) ((I 2774)) ≤ 6 by first | assumption | omega), (show m_be ((A 45) ((I 2774))) ((A 46) ((I 2774))) by unfold m_be; omega)⟩
                    · rw [e69, e70]
                      replace f71 : ¬ ((A 45) ((I 2774)) = 5 ∧ (A 46) ((I 2774)) = 1) := f71
                      show w_W _ _ _ (80, [(1, .int (Int32.ofInt ((A 45) ((I 2774))))), (0, .ref 43)], [.int (Int32.ofInt (0))], M) _
                      refine w_adv (n := 3) (F' := (85, [(1, .int (Int32.ofInt ((A 45) ((I 2774))))), (0, .ref 43)], [.int (Int32.ofInt (4)), .ref 43], M)) rfl ?_
                      refine w_call (cm := 231) (as := [(0, .ref 43), (1, .int (Int32.ofInt (4)))]) (rest := []) (o := some (9, 43)) rfl (w_fitR hR rfl) (m_isWord (4) hR ⟨by omega, by omega⟩ (show 0 ≤ (I 2774) ∧ (I 2774) < 1501 by omega)) (fun r73 M74 q75 => ?_)
                      rcases q75 with ⟨e76, e77, f78⟩ | ⟨e79, e80, f81⟩
                      · rw [e76, e77]
                        replace f78 : (A 45) ((I 2774)) = 5 ∧ (A 46) ((I 2774)) = 4 := f78
                        have w82 : (I 2774) + 1 < (I 2754) := m_TK_lt hTK (by omega) (by omega) (by omega)
                        show w_W _ _ _ (88, [(1, .int (Int32.ofInt ((A 45) ((I 2774))))), (0, .ref 43)], [.int (Int32.ofInt (1))], M) _
                        refine w_adv (n := 3) (F' := (114, [(1, .int (Int32.ofInt ((A 45) ((I 2774))))), (0, .ref 43)], [.int (Int32.ofInt (1))], M)) rfl ?_
                        refine w_fin (r := .inl (some (1))) (M' := M) rfl ?_
                        exact Or.inl ⟨rfl, rfl, (show 1 ≤ (A 45) ((I 2774)) ∧ (A 45) ((I 2774)) ≤ 6 by first | assumption | omega), (show m_be ((A 45) ((I 2774))) ((A 46) ((I 2774))) by unfold m_be; omega)⟩
                      · rw [e79, e80]
                        replace f81 : ¬ ((A 45) ((I 2774)) = 5 ∧ (A 46) ((I 2774)) = 4) := f81
                        show w_W _ _ _ (88, [(1, .int (Int32.ofInt ((A 45) ((I 2774))))), (0, .ref 43)], [.int (Int32.ofInt (0))], M) _
                        refine w_adv (n := 3) (F' := (94, [(1, .int (Int32.ofInt ((A 45) ((I 2774))))), (0, .ref 43)], [.int (Int32.ofInt (7)), .ref 43], M)) rfl ?_
                        refine w_call (cm := 231) (as := [(0, .ref 43), (1, .int (Int32.ofInt (7)))]) (rest := []) (o := some (9, 43)) rfl (w_fitR hR rfl) (m_isWord (7) hR ⟨by omega, by omega⟩ (show 0 ≤ (I 2774) ∧ (I 2774) < 1501 by omega)) (fun r83 M84 q85 => ?_)
                        rcases q85 with ⟨e86, e87, f88⟩ | ⟨e89, e90, f91⟩
                        · rw [e86, e87]
                          replace f88 : (A 45) ((I 2774)) = 5 ∧ (A 46) ((I 2774)) = 7 := f88
                          have w92 : (I 2774) + 1 < (I 2754) := m_TK_lt hTK (by omega) (by omega) (by omega)
                          show w_W _ _ _ (97, [(1, .int (Int32.ofInt ((A 45) ((I 2774))))), (0, .ref 43)], [.int (Int32.ofInt (1))], M) _
                          refine w_adv (n := 3) (F' := (114, [(1, .int (Int32.ofInt ((A 45) ((I 2774))))), (0, .ref 43)], [.int (Int32.ofInt (1))], M)) rfl ?_
                          refine w_fin (r := .inl (some (1))) (M' := M) rfl ?_
                          exact Or.inl ⟨rfl, rfl, (show 1 ≤ (A 45) ((I 2774)) ∧ (A 45) ((I 2774)) ≤ 6 by first | assumption | omega), (show m_be ((A 45) ((I 2774))) ((A 46) ((I 2774))) by unfold m_be; omega)⟩
                        · rw [e89, e90]
                          replace f91 : ¬ ((A 45) ((I 2774)) = 5 ∧ (A 46) ((I 2774)) = 7) := f91
                          show w_W _ _ _ (97, [(1, .int (Int32.ofInt ((A 45) ((I 2774))))), (0, .ref 43)], [.int (Int32.ofInt (0))], M) _
                          refine w_adv (n := 3) (F' := (103, [(1, .int (Int32.ofInt ((A 45) ((I 2774))))), (0, .ref 43)], [.int (Int32.ofInt (12)), .ref 43], M)) rfl ?_
                          refine w_call (cm := 231) (as := [(0, .ref 43), (1, .int (Int32.ofInt (12)))]) (rest := []) (o := some (9, 43)) rfl (w_fitR hR rfl) (m_isWord (12) hR ⟨by omega, by omega⟩ (show 0 ≤ (I 2774) ∧ (I 2774) < 1501 by omega)) (fun r93 M94 q95 => ?_)
                          rcases q95 with ⟨e96, e97, f98⟩ | ⟨e99, e100, f101⟩
                          · rw [e96, e97]
                            replace f98 : (A 45) ((I 2774)) = 5 ∧ (A 46) ((I 2774)) = 12 := f98
                            have w102 : (I 2774) + 1 < (I 2754) := m_TK_lt hTK (by omega) (by omega) (by omega)
                            show w_W _ _ _ (106, [(1, .int (Int32.ofInt ((A 45) ((I 2774))))), (0, .ref 43)], [.int (Int32.ofInt (1))], M) _
                            refine w_adv (n := 3) (F' := (114, [(1, .int (Int32.ofInt ((A 45) ((I 2774))))), (0, .ref 43)], [.int (Int32.ofInt (1))], M)) rfl ?_
                            refine w_fin (r := .inl (some (1))) (M' := M) rfl ?_
                            exact Or.inl ⟨rfl, rfl, (show 1 ≤ (A 45) ((I 2774)) ∧ (A 45) ((I 2774)) ≤ 6 by first | assumption | omega), (show m_be ((A 45) ((I 2774))) ((A 46) ((I 2774))) by unfold m_be; omega)⟩
                          · rw [e99, e100]
                            replace f101 : ¬ ((A 45) ((I 2774)) = 5 ∧ (A 46) ((I 2774)) = 12) := f101
                            show w_W _ _ _ (106, [(1, .int (Int32.ofInt ((A 45) ((I 2774))))), (0, .ref 43)], [.int (Int32.ofInt (0))], M) _
                            refine w_adv (n := 2) (F' := (114, [(1, .int (Int32.ofInt ((A 45) ((I 2774))))), (0, .ref 43)], [.int (Int32.ofInt (0))], M)) rfl ?_
                            refine w_fin (r := .inl (some (0))) (M' := M) rfl ?_
                            exact Or.inr (⟨rfl, rfl, (show ¬ m_be ((A 45) ((I 2774))) ((A 46) ((I 2774))) by intro h; unfold m_be at h; rcases h with h | h | h | h | ⟨h1, h2 | h2 | h2⟩ | ⟨h1, h2 | h2 | h2 | h2 | h2 | h2⟩ <;> omega)⟩)
def m_opens_Q (fr : Nat → Bool) (X : Nat → Option (q_C (Nat → Int32))) (u l : Nat) (I : Nat → Int) (A : Nat → Int → Int) (B C : Nat → Nat) (M : w_M) : w_X → w_M → Prop := fun r M' => ((r = .inl (some 1)) ∧ (M' = M)) ∨ ((r = .inl (some 0)) ∧ (M' = M))
set_option maxRecDepth 100000 in
theorem m_opens {L : Nat} {xs : Nat → Int32} {d : Nat} {fr : Nat → Bool} {X : Nat → Option (q_C (Nat → Int32))} {u l : Nat} {I : Nat → Int} {A : Nat → Int → Int} {B C : Nat → Nat} {M : w_M} (hR : w_Rep w_TM fr X u l I A B C M) (hd : 3 ≤ d) (hTK : m_TK I A) (hNU : (0 ≤ (I 2774) ∧ (I 2774) < (I 2754) ∧ (I 2754) ≤ 1501 ∧ 0 ≤ (I 2775) ∧ (I 2775) ≤ 24) ∧ ((I 3393) = (I 3905) ∧ (I 3521) = (I 3905) ∧ (I 3649) = (I 3905) ∧ (I 3777) = (I 3905) ∧ 0 ≤ (I 3905) ∧ (I 3905) ≤ 3 * (I 2774)) ∧ ((I 4161) = (I 4033) ∧ 7 ≤ (I 4289) ∧ (I 4289) ≤ (I 4033) ∧ (I 4033) ≤ 7 + (I 2774)) ∧ 0 ≤ (I 5889) ∧ (I 5889) ≤ (I 2774)) : w_W (z_P L xs) d 263 (0, [(0, .ref 43)], [], M) (m_opens_Q fr X u l I A B C M) := by
  obtain ⟨d, rfl⟩ : ∃ d0, d = d0 + 1 := ⟨d - 1, by omega⟩
  refine w_adv (n := 2) (F' := (3, [(0, .ref 43)], [.int (Int32.ofInt (91)), .ref 43], M)) rfl ?_
  refine w_call (cm := 230) (as := [(0, .ref 43), (1, .int (Int32.ofInt (91)))]) (rest := []) (o := some (9, 43)) rfl (w_fitR hR rfl) (m_isSign (91) hR ⟨by omega, by omega⟩ (show 0 ≤ (I 2774) ∧ (I 2774) < 1501 by omega)) (fun r1 M2 q3 => ?_)
  rcases q3 with ⟨e4, e5, f6⟩ | ⟨e7, e8, f9⟩
  · rw [e4, e5]
    replace f6 : (A 45) ((I 2774)) = 6 ∧ (A 46) ((I 2774)) = 91 := f6
    have w10 : (I 2774) + 1 < (I 2754) := m_TK_lt hTK (by omega) (by omega) (by omega)
    show w_W _ _ _ (6, [(0, .ref 43)], [.int (Int32.ofInt (1))], M) _
    refine w_adv (n := 3) (F' := (57, [(0, .ref 43)], [.int (Int32.ofInt (1))], M)) rfl ?_
    refine w_fin (r := .inl (some (1))) (M' := M) rfl ?_
    exact Or.inl ⟨rfl, rfl⟩
  · rw [e7, e8]
    replace f9 : ¬ ((A 45) ((I 2774)) = 6 ∧ (A 46) ((I 2774)) = 91) := f9
    show w_W _ _ _ (6, [(0, .ref 43)], [.int (Int32.ofInt (0))], M) _
    refine w_adv (n := 3) (F' := (12, [(0, .ref 43)], [.int (Int32.ofInt (40)), .ref 43], M)) rfl ?_
    refine w_call (cm := 230) (as := [(0, .ref 43), (1, .int (Int32.ofInt (40)))]) (rest := []) (o := some (9, 43)) rfl (w_fitR hR rfl) (m_isSign (40) hR ⟨by omega, by omega⟩ (show 0 ≤ (I 2774) ∧ (I 2774) < 1501 by omega)) (fun r11 M12 q13 => ?_)
    rcases q13 with ⟨e14, e15, f16⟩ | ⟨e17, e18, f19⟩
    · rw [e14, e15]
      replace f16 : (A 45) ((I 2774)) = 6 ∧ (A 46) ((I 2774)) = 40 := f16
      have w20 : (I 2774) + 1 < (I 2754) := m_TK_lt hTK (by omega) (by omega) (by omega)
      show w_W _ _ _ (15, [(0, .ref 43)], [.int (Int32.ofInt (1))], M) _
      refine w_adv (n := 3) (F' := (57, [(0, .ref 43)], [.int (Int32.ofInt (1))], M)) rfl ?_
      refine w_fin (r := .inl (some (1))) (M' := M) rfl ?_
      exact Or.inl ⟨rfl, rfl⟩
    · rw [e17, e18]
      replace f19 : ¬ ((A 45) ((I 2774)) = 6 ∧ (A 46) ((I 2774)) = 40) := f19
      show w_W _ _ _ (15, [(0, .ref 43)], [.int (Int32.ofInt (0))], M) _
      refine w_adv (n := 3) (F' := (21, [(0, .ref 43)], [.int (Int32.ofInt (123)), .ref 43], M)) rfl ?_
      refine w_call (cm := 230) (as := [(0, .ref 43), (1, .int (Int32.ofInt (123)))]) (rest := []) (o := some (9, 43)) rfl (w_fitR hR rfl) (m_isSign (123) hR ⟨by omega, by omega⟩ (show 0 ≤ (I 2774) ∧ (I 2774) < 1501 by omega)) (fun r21 M22 q23 => ?_)
      rcases q23 with ⟨e24, e25, f26⟩ | ⟨e27, e28, f29⟩
      · rw [e24, e25]
        replace f26 : (A 45) ((I 2774)) = 6 ∧ (A 46) ((I 2774)) = 123 := f26
        have w30 : (I 2774) + 1 < (I 2754) := m_TK_lt hTK (by omega) (by omega) (by omega)
        show w_W _ _ _ (24, [(0, .ref 43)], [.int (Int32.ofInt (1))], M) _
        refine w_adv (n := 3) (F' := (57, [(0, .ref 43)], [.int (Int32.ofInt (1))], M)) rfl ?_
        refine w_fin (r := .inl (some (1))) (M' := M) rfl ?_
        exact Or.inl ⟨rfl, rfl⟩
      · rw [e27, e28]
        replace f29 : ¬ ((A 45) ((I 2774)) = 6 ∧ (A 46) ((I 2774)) = 123) := f29
        show w_W _ _ _ (24, [(0, .ref 43)], [.int (Int32.ofInt (0))], M) _
        refine w_adv (n := 2) (F' := (28, [(0, .ref 43)], [.ref 43], M)) rfl ?_
        refine w_gf (v := .ref 45) hR rfl rfl rfl rfl ?_
        refine w_adv (n := 1) (F' := (32, [(0, .ref 43)], [.ref 43, .ref 45], M)) rfl ?_
        refine w_gf (v := .int (Int32.ofInt ((I 2774)))) hR rfl rfl rfl rfl ?_
        obtain ⟨r31, r32⟩ : -2147483648 ≤ (I 2774) ∧ (I 2774) ≤ 2147483647 := hR.ri 2774
        refine w_la (n := 1502) hR rfl (Or.inl ⟨rfl, rfl⟩) rfl (show 0 ≤ (I 2774) by omega) (show (I 2774) < (1502 : Int) by omega) (by decide) ?_
        obtain ⟨r33, r34⟩ : -2147483648 ≤ (A 45) ((I 2774)) ∧ (A 45) ((I 2774)) ≤ 2147483647 := hR.ra 45 ((I 2774))
        show w_W _ _ _ (36, [(0, .ref 43)], [.int (Int32.ofInt ((A 45) ((I 2774))))], M) _
        refine w_adv (n := 1) (F' := (37, [(0, .ref 43)], [.int (Int32.ofInt (5)), .int (Int32.ofInt ((A 45) ((I 2774))))], M)) rfl ?_
        refine w_br2 (a := (A 45) ((I 2774))) (b := 5) rfl rfl ⟨by omega, by omega⟩ ⟨by omega, by omega⟩ (fun h35 => ?_) (fun h35 => ?_)
        · have h35 : ¬ (A 45) ((I 2774)) = 5 := h35
          show w_W _ _ _ (56, [(0, .ref 43)], [], M) _
          refine w_adv (n := 1) (F' := (57, [(0, .ref 43)], [.int (Int32.ofInt (0))], M)) rfl ?_
          refine w_fin (r := .inl (some (0))) (M' := M) rfl ?_
          exact Or.inr (⟨rfl, rfl⟩)
        · have h35 : ¬ (¬ (A 45) ((I 2774)) = 5) := h35
          have w36 : (I 2774) + 1 < (I 2754) := m_TK_lt hTK (by omega) (by omega) (by omega)
          show w_W _ _ _ (40, [(0, .ref 43)], [], M) _
          refine w_adv (n := 1) (F' := (41, [(0, .ref 43)], [.ref 43], M)) rfl ?_
          refine w_gf (v := .ref 46) hR rfl rfl rfl rfl ?_
          refine w_adv (n := 1) (F' := (45, [(0, .ref 43)], [.ref 43, .ref 46], M)) rfl ?_
          refine w_gf (v := .int (Int32.ofInt ((I 2774)))) hR rfl rfl rfl rfl ?_
          refine w_la (n := 1502) hR rfl (Or.inl ⟨rfl, rfl⟩) rfl (show 0 ≤ (I 2774) by omega) (show (I 2774) < (1502 : Int) by omega) (by decide) ?_
          obtain ⟨r37, r38⟩ : -2147483648 ≤ (A 46) ((I 2774)) ∧ (A 46) ((I 2774)) ≤ 2147483647 := hR.ra 46 ((I 2774))
          show w_W _ _ _ (49, [(0, .ref 43)], [.int (Int32.ofInt ((A 46) ((I 2774))))], M) _
          refine w_br1 (a := (A 46) ((I 2774))) rfl rfl ⟨by omega, by omega⟩ (fun h39 => ?_) (fun h39 => ?_)
          · have h39 : (A 46) ((I 2774)) = 0 := h39
            show w_W _ _ _ (56, [(0, .ref 43)], [], M) _
            refine w_adv (n := 1) (F' := (57, [(0, .ref 43)], [.int (Int32.ofInt (0))], M)) rfl ?_
            refine w_fin (r := .inl (some (0))) (M' := M) rfl ?_
            exact Or.inr (⟨rfl, rfl⟩)
          · have h39 : ¬ ((A 46) ((I 2774)) = 0) := h39
            show w_W _ _ _ (52, [(0, .ref 43)], [], M) _
            refine w_adv (n := 2) (F' := (57, [(0, .ref 43)], [.int (Int32.ofInt (1))], M)) rfl ?_
            refine w_fin (r := .inl (some (1))) (M' := M) rfl ?_
            exact Or.inl ⟨rfl, rfl⟩
def m_beginsItem_Q (fr : Nat → Bool) (X : Nat → Option (q_C (Nat → Int32))) (u l : Nat) (I : Nat → Int) (A : Nat → Int → Int) (B C : Nat → Nat) (M : w_M) : w_X → w_M → Prop := fun r M' => ((r = .inl (some 1)) ∧ (M' = M) ∧ (1 ≤ (A 45) ((I 2774)) ∧ (A 45) ((I 2774)) ≤ 6) ∧ (m_bi ((A 45) ((I 2774))) ((A 46) ((I 2774))))) ∨ ((r = .inl (some 0)) ∧ (M' = M) ∧ (¬ m_bi ((A 45) ((I 2774))) ((A 46) ((I 2774)))))
set_option maxRecDepth 100000 in
theorem m_beginsItem {L : Nat} {xs : Nat → Int32} {d : Nat} {fr : Nat → Bool} {X : Nat → Option (q_C (Nat → Int32))} {u l : Nat} {I : Nat → Int} {A : Nat → Int → Int} {B C : Nat → Nat} {M : w_M} (hR : w_Rep w_TM fr X u l I A B C M) (hd : 4 ≤ d) (hTK : m_TK I A) (hNU : (0 ≤ (I 2774) ∧ (I 2774) < (I 2754) ∧ (I 2754) ≤ 1501 ∧ 0 ≤ (I 2775) ∧ (I 2775) ≤ 24) ∧ ((I 3393) = (I 3905) ∧ (I 3521) = (I 3905) ∧ (I 3649) = (I 3905) ∧ (I 3777) = (I 3905) ∧ 0 ≤ (I 3905) ∧ (I 3905) ≤ 3 * (I 2774)) ∧ ((I 4161) = (I 4033) ∧ 7 ≤ (I 4289) ∧ (I 4289) ≤ (I 4033) ∧ (I 4033) ≤ 7 + (I 2774)) ∧ 0 ≤ (I 5889) ∧ (I 5889) ≤ (I 2774)) : w_W (z_P L xs) d 228 (0, [(0, .ref 43)], [], M) (m_beginsItem_Q fr X u l I A B C M) := by
  obtain ⟨d, rfl⟩ : ∃ d0, d = d0 + 1 := ⟨d - 1, by omega⟩
  refine w_adv (n := 1) (F' := (1, [(0, .ref 43)], [.ref 43], M)) rfl ?_
  refine w_call (cm := 229) (as := [(0, .ref 43)]) (rest := []) (o := some (9, 43)) rfl (w_fitR hR rfl) (m_beginsExp hR (show 3 ≤ d by omega) (show m_TK I A by exact hTK) (show (0 ≤ (I 2774) ∧ (I 2774) < (I 2754) ∧ (I 2754) ≤ 1501 ∧ 0 ≤ (I 2775) ∧ (I 2775) ≤ 24) ∧ ((I 3393) = (I 3905) ∧ (I 3521) = (I 3905) ∧ (I 3649) = (I 3905) ∧ (I 3777) = (I 3905) ∧ 0 ≤ (I 3905) ∧ (I 3905) ≤ 3 * (I 2774)) ∧ ((I 4161) = (I 4033) ∧ 7 ≤ (I 4289) ∧ (I 4289) ≤ (I 4033) ∧ (I 4033) ≤ 7 + (I 2774)) ∧ 0 ≤ (I 5889) ∧ (I 5889) ≤ (I 2774) by (repeat' apply And.intro) <;> omega)) (fun r1 M2 q3 => ?_)
  rcases q3 with ⟨e4, e5, f6, f7⟩ | ⟨e8, e9, f10⟩
  · rw [e4, e5]
    replace f6 : 1 ≤ (A 45) ((I 2774)) ∧ (A 45) ((I 2774)) ≤ 6 := f6
    replace f7 : m_be ((A 45) ((I 2774))) ((A 46) ((I 2774))) := f7
    have w11 : (I 2774) + 1 < (I 2754) := m_TK_lt hTK (by omega) (by omega) (by omega)
    show w_W _ _ _ (4, [(0, .ref 43)], [.int (Int32.ofInt (1))], M) _
    refine w_adv (n := 3) (F' := (47, [(0, .ref 43)], [.int (Int32.ofInt (1))], M)) rfl ?_
    refine w_fin (r := .inl (some (1))) (M' := M) rfl ?_
    exact Or.inl ⟨rfl, rfl, (show 1 ≤ (A 45) ((I 2774)) ∧ (A 45) ((I 2774)) ≤ 6 by first | assumption | omega), (show m_bi ((A 45) ((I 2774))) ((A 46) ((I 2774))) by first | exact Or.inl (by assumption) | exact Or.inr (by omega))⟩
  · rw [e8, e9]
    replace f10 : ¬ m_be ((A 45) ((I 2774))) ((A 46) ((I 2774))) := f10
    show w_W _ _ _ (4, [(0, .ref 43)], [.int (Int32.ofInt (0))], M) _
    refine w_adv (n := 3) (F' := (9, [(0, .ref 43)], [.int (Int32.ofInt (0)), .ref 43], M)) rfl ?_
    refine w_call (cm := 231) (as := [(0, .ref 43), (1, .int (Int32.ofInt (0)))]) (rest := []) (o := some (9, 43)) rfl (w_fitR hR rfl) (m_isWord (0) hR ⟨by omega, by omega⟩ (show 0 ≤ (I 2774) ∧ (I 2774) < 1501 by omega)) (fun r12 M13 q14 => ?_)
    rcases q14 with ⟨e15, e16, f17⟩ | ⟨e18, e19, f20⟩
    · rw [e15, e16]
      replace f17 : (A 45) ((I 2774)) = 5 ∧ (A 46) ((I 2774)) = 0 := f17
      have w21 : (I 2774) + 1 < (I 2754) := m_TK_lt hTK (by omega) (by omega) (by omega)
      show w_W _ _ _ (12, [(0, .ref 43)], [.int (Int32.ofInt (1))], M) _
      refine w_adv (n := 3) (F' := (47, [(0, .ref 43)], [.int (Int32.ofInt (1))], M)) rfl ?_
      refine w_fin (r := .inl (some (1))) (M' := M) rfl ?_
      exact Or.inl ⟨rfl, rfl, (show 1 ≤ (A 45) ((I 2774)) ∧ (A 45) ((I 2774)) ≤ 6 by first | assumption | omega), (show m_bi ((A 45) ((I 2774))) ((A 46) ((I 2774))) by first | exact Or.inl (by assumption) | exact Or.inr (by omega))⟩
    · rw [e18, e19]
      replace f20 : ¬ ((A 45) ((I 2774)) = 5 ∧ (A 46) ((I 2774)) = 0) := f20
      show w_W _ _ _ (12, [(0, .ref 43)], [.int (Int32.ofInt (0))], M) _
      refine w_adv (n := 3) (F' := (18, [(0, .ref 43)], [.int (Int32.ofInt (13)), .ref 43], M)) rfl ?_
      refine w_call (cm := 231) (as := [(0, .ref 43), (1, .int (Int32.ofInt (13)))]) (rest := []) (o := some (9, 43)) rfl (w_fitR hR rfl) (m_isWord (13) hR ⟨by omega, by omega⟩ (show 0 ≤ (I 2774) ∧ (I 2774) < 1501 by omega)) (fun r22 M23 q24 => ?_)
      rcases q24 with ⟨e25, e26, f27⟩ | ⟨e28, e29, f30⟩
      · rw [e25, e26]
        replace f27 : (A 45) ((I 2774)) = 5 ∧ (A 46) ((I 2774)) = 13 := f27
        have w31 : (I 2774) + 1 < (I 2754) := m_TK_lt hTK (by omega) (by omega) (by omega)
        show w_W _ _ _ (21, [(0, .ref 43)], [.int (Int32.ofInt (1))], M) _
        refine w_adv (n := 3) (F' := (47, [(0, .ref 43)], [.int (Int32.ofInt (1))], M)) rfl ?_
        refine w_fin (r := .inl (some (1))) (M' := M) rfl ?_
        exact Or.inl ⟨rfl, rfl, (show 1 ≤ (A 45) ((I 2774)) ∧ (A 45) ((I 2774)) ≤ 6 by first | assumption | omega), (show m_bi ((A 45) ((I 2774))) ((A 46) ((I 2774))) by first | exact Or.inl (by assumption) | exact Or.inr (by omega))⟩
      · rw [e28, e29]
        replace f30 : ¬ ((A 45) ((I 2774)) = 5 ∧ (A 46) ((I 2774)) = 13) := f30
        show w_W _ _ _ (21, [(0, .ref 43)], [.int (Int32.ofInt (0))], M) _
        refine w_adv (n := 3) (F' := (27, [(0, .ref 43)], [.int (Int32.ofInt (15)), .ref 43], M)) rfl ?_
        refine w_call (cm := 231) (as := [(0, .ref 43), (1, .int (Int32.ofInt (15)))]) (rest := []) (o := some (9, 43)) rfl (w_fitR hR rfl) (m_isWord (15) hR ⟨by omega, by omega⟩ (show 0 ≤ (I 2774) ∧ (I 2774) < 1501 by omega)) (fun r32 M33 q34 => ?_)
        rcases q34 with ⟨e35, e36, f37⟩ | ⟨e38, e39, f40⟩
        · rw [e35, e36]
          replace f37 : (A 45) ((I 2774)) = 5 ∧ (A 46) ((I 2774)) = 15 := f37
          have w41 : (I 2774) + 1 < (I 2754) := m_TK_lt hTK (by omega) (by omega) (by omega)
          show w_W _ _ _ (30, [(0, .ref 43)], [.int (Int32.ofInt (1))], M) _
          refine w_adv (n := 3) (F' := (47, [(0, .ref 43)], [.int (Int32.ofInt (1))], M)) rfl ?_
          refine w_fin (r := .inl (some (1))) (M' := M) rfl ?_
          exact Or.inl ⟨rfl, rfl, (show 1 ≤ (A 45) ((I 2774)) ∧ (A 45) ((I 2774)) ≤ 6 by first | assumption | omega), (show m_bi ((A 45) ((I 2774))) ((A 46) ((I 2774))) by first | exact Or.inl (by assumption) | exact Or.inr (by omega))⟩
        · rw [e38, e39]
          replace f40 : ¬ ((A 45) ((I 2774)) = 5 ∧ (A 46) ((I 2774)) = 15) := f40
          show w_W _ _ _ (30, [(0, .ref 43)], [.int (Int32.ofInt (0))], M) _
          refine w_adv (n := 3) (F' := (36, [(0, .ref 43)], [.int (Int32.ofInt (16)), .ref 43], M)) rfl ?_
          refine w_call (cm := 231) (as := [(0, .ref 43), (1, .int (Int32.ofInt (16)))]) (rest := []) (o := some (9, 43)) rfl (w_fitR hR rfl) (m_isWord (16) hR ⟨by omega, by omega⟩ (show 0 ≤ (I 2774) ∧ (I 2774) < 1501 by omega)) (fun r42 M43 q44 => ?_)
          rcases q44 with ⟨e45, e46, f47⟩ | ⟨e48, e49, f50⟩
          · rw [e45, e46]
            replace f47 : (A 45) ((I 2774)) = 5 ∧ (A 46) ((I 2774)) = 16 := f47
            have w51 : (I 2774) + 1 < (I 2754) := m_TK_lt hTK (by omega) (by omega) (by omega)
            show w_W _ _ _ (39, [(0, .ref 43)], [.int (Int32.ofInt (1))], M) _
            refine w_adv (n := 3) (F' := (47, [(0, .ref 43)], [.int (Int32.ofInt (1))], M)) rfl ?_
            refine w_fin (r := .inl (some (1))) (M' := M) rfl ?_
            exact Or.inl ⟨rfl, rfl, (show 1 ≤ (A 45) ((I 2774)) ∧ (A 45) ((I 2774)) ≤ 6 by first | assumption | omega), (show m_bi ((A 45) ((I 2774))) ((A 46) ((I 2774))) by first | exact Or.inl (by assumption) | exact Or.inr (by omega))⟩
          · rw [e48, e49]
            replace f50 : ¬ ((A 45) ((I 2774)) = 5 ∧ (A 46) ((I 2774)) = 16) := f50
            show w_W _ _ _ (39, [(0, .ref 43)], [.int (Int32.ofInt (0))], M) _
            refine w_adv (n := 2) (F' := (47, [(0, .ref 43)], [.int (Int32.ofInt (0))], M)) rfl ?_
            refine w_fin (r := .inl (some (0))) (M' := M) rfl ?_
            exact Or.inr (⟨rfl, rfl, (show ¬ m_bi ((A 45) ((I 2774))) ((A 46) ((I 2774))) by intro h; rcases h with h | ⟨h1, h2 | h2 | h2 | h2⟩ <;> first | contradiction | omega)⟩)
def m_tooMany_Q (fr : Nat → Bool) (X : Nat → Option (q_C (Nat → Int32))) (u l : Nat) (I : Nat → Int) (A : Nat → Int → Int) (B C : Nat → Nat) (M : w_M) : w_X → w_M → Prop := fun r M' => (∃ (I' : Nat → Int) (A' : Nat → Int → Int) (B' C' : Nat → Nat), (r = .inr 69) ∧ (w_Rep w_TM fr X u l I' A' B' C' M') ∧ (m_fx I A I' A'))
set_option maxRecDepth 100000 in
theorem m_tooMany {L : Nat} {xs : Nat → Int32} {d : Nat} {fr : Nat → Bool} {X : Nat → Option (q_C (Nat → Int32))} {u l : Nat} {I : Nat → Int} {A : Nat → Int → Int} {B C : Nat → Nat} {M : w_M} (hR : w_Rep w_TM fr X u l I A B C M) (hd : 5 ≤ d) (hTK : m_TK I A) (hNU : (0 ≤ (I 2774) ∧ (I 2774) < (I 2754) ∧ (I 2754) ≤ 1501 ∧ 0 ≤ (I 2775) ∧ (I 2775) ≤ 24) ∧ ((I 3393) = (I 3905) ∧ (I 3521) = (I 3905) ∧ (I 3649) = (I 3905) ∧ (I 3777) = (I 3905) ∧ 0 ≤ (I 3905) ∧ (I 3905) ≤ 3 * (I 2774)) ∧ ((I 4161) = (I 4033) ∧ 7 ≤ (I 4289) ∧ (I 4289) ≤ (I 4033) ∧ (I 4033) ≤ 7 + (I 2774)) ∧ 0 ≤ (I 5889) ∧ (I 5889) ≤ (I 2774)) (hSC : m_SC I A) : w_W (z_P L xs) d 261 (0, [(0, .ref 43)], [], M) (m_tooMany_Q fr X u l I A B C M) := by
  obtain ⟨d, rfl⟩ : ∃ d0, d = d0 + 1 := ⟨d - 1, by omega⟩
  refine w_adv (n := 1) (F' := (1, [(0, .ref 43)], [.ref 43], M)) rfl ?_
  refine w_gf (v := .ref 45) hR rfl rfl rfl rfl ?_
  refine w_adv (n := 1) (F' := (5, [(0, .ref 43)], [.ref 43, .ref 45], M)) rfl ?_
  refine w_gf (v := .int (Int32.ofInt ((I 2774)))) hR rfl rfl rfl rfl ?_
  obtain ⟨r1, r2⟩ : -2147483648 ≤ (I 2774) ∧ (I 2774) ≤ 2147483647 := hR.ri 2774
  refine w_la (n := 1502) hR rfl (Or.inl ⟨rfl, rfl⟩) rfl (show 0 ≤ (I 2774) by omega) (show (I 2774) < (1502 : Int) by omega) (by decide) ?_
  obtain ⟨r3, r4⟩ : -2147483648 ≤ (A 45) ((I 2774)) ∧ (A 45) ((I 2774)) ≤ 2147483647 := hR.ra 45 ((I 2774))
  show w_W _ _ _ (9, [(0, .ref 43)], [.int (Int32.ofInt ((A 45) ((I 2774))))], M) _
  refine w_adv (n := 1) (F' := (10, [(0, .ref 43)], [.int (Int32.ofInt (2)), .int (Int32.ofInt ((A 45) ((I 2774))))], M)) rfl ?_
  refine w_br2 (a := (A 45) ((I 2774))) (b := 2) rfl rfl ⟨by omega, by omega⟩ ⟨by omega, by omega⟩ (fun h5 => ?_) (fun h5 => ?_)
  · have h5 : ¬ (A 45) ((I 2774)) = 2 := h5
    show w_W _ _ _ (18, [(0, .ref 43)], [], M) _
    refine w_adv (n := 1) (F' := (19, [(0, .ref 43)], [.ref 43], M)) rfl ?_
    refine w_call (cm := 263) (as := [(0, .ref 43)]) (rest := []) (o := some (9, 43)) rfl (w_fitR hR rfl) (m_opens hR (show 3 ≤ d by omega) (show m_TK I A by exact hTK) (show (0 ≤ (I 2774) ∧ (I 2774) < (I 2754) ∧ (I 2754) ≤ 1501 ∧ 0 ≤ (I 2775) ∧ (I 2775) ≤ 24) ∧ ((I 3393) = (I 3905) ∧ (I 3521) = (I 3905) ∧ (I 3649) = (I 3905) ∧ (I 3777) = (I 3905) ∧ 0 ≤ (I 3905) ∧ (I 3905) ≤ 3 * (I 2774)) ∧ ((I 4161) = (I 4033) ∧ 7 ≤ (I 4289) ∧ (I 4289) ≤ (I 4033) ∧ (I 4033) ≤ 7 + (I 2774)) ∧ 0 ≤ (I 5889) ∧ (I 5889) ≤ (I 2774) by (repeat' apply And.intro) <;> omega)) (fun r6 M7 q8 => ?_)
    rcases q8 with ⟨e9, e10⟩ | ⟨e11, e12⟩
    · rw [e9, e10]
      show w_W _ _ _ (22, [(0, .ref 43)], [.int (Int32.ofInt (1))], M) _
      refine w_adv (n := 2) (F' := (26, [(0, .ref 43)], [.ref 43], M)) rfl ?_
      refine w_gf (v := .int (Int32.ofInt ((I 2775)))) hR rfl rfl rfl rfl ?_
      obtain ⟨r13, r14⟩ : -2147483648 ≤ (I 2775) ∧ (I 2775) ≤ 2147483647 := hR.ri 2775
      refine w_adv (n := 1) (F' := (31, [(0, .ref 43)], [.int (Int32.ofInt (24)), .int (Int32.ofInt ((I 2775)))], M)) rfl ?_
      refine w_br2 (a := (I 2775)) (b := 24) rfl rfl ⟨by omega, by omega⟩ ⟨by omega, by omega⟩ (fun h15 => ?_) (fun h15 => ?_)
      · have h15 : ¬ (I 2775) = 24 := h15
        show w_W _ _ _ (39, [(0, .ref 43)], [], M) _
        refine w_adv (n := 2) (F' := (42, [(0, .ref 43)], [.int (Int32.ofInt (6)), .ref 43], M)) rfl ?_
        refine w_call (cm := 232) (as := [(0, .ref 43), (1, .int (Int32.ofInt (6)))]) (rest := []) (o := some (9, 43)) rfl (w_fitR hR rfl) (m_fail (6) hR ⟨by omega, by omega⟩ (show 0 ≤ (I 2774) ∧ (I 2774) < 1501 by omega) (show 1 ≤ 6 ∧ 6 ≤ 7 by first | assumption | omega)) (fun r16 M17 q18 => ?_)
        rcases q18 with ⟨I18a, A18a, B18a, C18a, e19, hR18a, f20⟩
        rw [e19]
        replace hR18a : w_Rep w_TM fr X u l I18a A18a B18a C18a M17 := hR18a
        replace f20 : m_fx I A I18a A18a := f20
        exact ⟨I18a, A18a, B18a, C18a, rfl, hR18a, (show m_fx I A I18a A18a by exact f20)⟩
      · have h15 : ¬ (¬ (I 2775) = 24) := h15
        show w_W _ _ _ (34, [(0, .ref 43)], [], M) _
        refine w_adv (n := 2) (F' := (36, [(0, .ref 43)], [.int (Int32.ofInt (5)), .ref 43], M)) rfl ?_
        refine w_call (cm := 232) (as := [(0, .ref 43), (1, .int (Int32.ofInt (5)))]) (rest := []) (o := some (9, 43)) rfl (w_fitR hR rfl) (m_fail (5) hR ⟨by omega, by omega⟩ (show 0 ≤ (I 2774) ∧ (I 2774) < 1501 by omega) (show 1 ≤ 5 ∧ 5 ≤ 7 by first | assumption | omega)) (fun r21 M22 q23 => ?_)
        rcases q23 with ⟨I23a, A23a, B23a, C23a, e24, hR23a, f25⟩
        rw [e24]
        replace hR23a : w_Rep w_TM fr X u l I23a A23a B23a C23a M22 := hR23a
        replace f25 : m_fx I A I23a A23a := f25
        exact ⟨I23a, A23a, B23a, C23a, rfl, hR23a, (show m_fx I A I23a A23a by exact f25)⟩
    · rw [e11, e12]
      show w_W _ _ _ (22, [(0, .ref 43)], [.int (Int32.ofInt (0))], M) _
      refine w_adv (n := 3) (F' := (42, [(0, .ref 43)], [.int (Int32.ofInt (6)), .ref 43], M)) rfl ?_
      refine w_call (cm := 232) (as := [(0, .ref 43), (1, .int (Int32.ofInt (6)))]) (rest := []) (o := some (9, 43)) rfl (w_fitR hR rfl) (m_fail (6) hR ⟨by omega, by omega⟩ (show 0 ≤ (I 2774) ∧ (I 2774) < 1501 by omega) (show 1 ≤ 6 ∧ 6 ≤ 7 by first | assumption | omega)) (fun r26 M27 q28 => ?_)
      rcases q28 with ⟨I28a, A28a, B28a, C28a, e29, hR28a, f30⟩
      rw [e29]
      replace hR28a : w_Rep w_TM fr X u l I28a A28a B28a C28a M27 := hR28a
      replace f30 : m_fx I A I28a A28a := f30
      exact ⟨I28a, A28a, B28a, C28a, rfl, hR28a, (show m_fx I A I28a A28a by exact f30)⟩
  · have h5 : ¬ (¬ (A 45) ((I 2774)) = 2) := h5
    have w31 : (I 2774) + 1 < (I 2754) := m_TK_lt hTK (by omega) (by omega) (by omega)
    show w_W _ _ _ (13, [(0, .ref 43)], [], M) _
    refine w_adv (n := 1) (F' := (14, [(0, .ref 43)], [.ref 43], M)) rfl ?_
    refine w_call (cm := 262) (as := [(0, .ref 43)]) (rest := []) (o := some (9, 43)) rfl (w_fitR hR rfl) (m_used hR (show 3 ≤ d by omega) (show (0 ≤ (I 2774) ∧ (I 2774) < (I 2754) ∧ (I 2754) ≤ 1501 ∧ 0 ≤ (I 2775) ∧ (I 2775) ≤ 24) ∧ ((I 3393) = (I 3905) ∧ (I 3521) = (I 3905) ∧ (I 3649) = (I 3905) ∧ (I 3777) = (I 3905) ∧ 0 ≤ (I 3905) ∧ (I 3905) ≤ 3 * (I 2774)) ∧ ((I 4161) = (I 4033) ∧ 7 ≤ (I 4289) ∧ (I 4289) ≤ (I 4033) ∧ (I 4033) ≤ 7 + (I 2774)) ∧ 0 ≤ (I 5889) ∧ (I 5889) ≤ (I 2774) by (repeat' apply And.intro) <;> omega) (show m_SC I A by exact hSC)) (fun r32 M33 q34 => ?_)
    rcases q34 with ⟨v35, e36, ⟨r37, r38⟩, e39, f40⟩ | ⟨v41, z42, e43, ⟨r44, r45⟩, hR34b, f46⟩ | ⟨I34c, A34c, B34c, C34c, e47, hR34c, f48⟩
    · rw [e36, e39]
      replace f40 : 0 ≤ v35 ∧ v35 < (I 4033) := f40
      show w_W _ _ _ (17, [(0, .ref 43)], [.int (Int32.ofInt (v35))], M) _
      refine w_adv (n := 2) (F' := (19, [(1, .int (Int32.ofInt (v35))), (0, .ref 43)], [.ref 43], M)) rfl ?_
      refine w_call (cm := 263) (as := [(0, .ref 43)]) (rest := []) (o := some (9, 43)) rfl (w_fitR hR rfl) (m_opens hR (show 3 ≤ d by omega) (show m_TK I A by exact hTK) (show (0 ≤ (I 2774) ∧ (I 2774) < (I 2754) ∧ (I 2754) ≤ 1501 ∧ 0 ≤ (I 2775) ∧ (I 2775) ≤ 24) ∧ ((I 3393) = (I 3905) ∧ (I 3521) = (I 3905) ∧ (I 3649) = (I 3905) ∧ (I 3777) = (I 3905) ∧ 0 ≤ (I 3905) ∧ (I 3905) ≤ 3 * (I 2774)) ∧ ((I 4161) = (I 4033) ∧ 7 ≤ (I 4289) ∧ (I 4289) ≤ (I 4033) ∧ (I 4033) ≤ 7 + (I 2774)) ∧ 0 ≤ (I 5889) ∧ (I 5889) ≤ (I 2774) by (repeat' apply And.intro) <;> omega)) (fun r49 M50 q51 => ?_)
      rcases q51 with ⟨e52, e53⟩ | ⟨e54, e55⟩
      · rw [e52, e53]
        show w_W _ _ _ (22, [(1, .int (Int32.ofInt (v35))), (0, .ref 43)], [.int (Int32.ofInt (1))], M) _
        refine w_adv (n := 2) (F' := (26, [(1, .int (Int32.ofInt (v35))), (0, .ref 43)], [.ref 43], M)) rfl ?_
        refine w_gf (v := .int (Int32.ofInt ((I 2775)))) hR rfl rfl rfl rfl ?_
        obtain ⟨r56, r57⟩ : -2147483648 ≤ (I 2775) ∧ (I 2775) ≤ 2147483647 := hR.ri 2775
        refine w_adv (n := 1) (F' := (31, [(1, .int (Int32.ofInt (v35))), (0, .ref 43)], [.int (Int32.ofInt (24)), .int (Int32.ofInt ((I 2775)))], M)) rfl ?_
        refine w_br2 (a := (I 2775)) (b := 24) rfl rfl ⟨by omega, by omega⟩ ⟨by omega, by omega⟩ (fun h58 => ?_) (fun h58 => ?_)
        · have h58 : ¬ (I 2775) = 24 := h58
          show w_W _ _ _ (39, [(1, .int (Int32.ofInt (v35))), (0, .ref 43)], [], M) _
          refine w_adv (n := 2) (F' := (42, [(1, .int (Int32.ofInt (v35))), (0, .ref 43)], [.int (Int32.ofInt (6)), .ref 43], M)) rfl ?_
          refine w_call (cm := 232) (as := [(0, .ref 43), (1, .int (Int32.ofInt (6)))]) (rest := []) (o := some (9, 43)) rfl (w_fitR hR rfl) (m_fail (6) hR ⟨by omega, by omega⟩ (show 0 ≤ (I 2774) ∧ (I 2774) < 1501 by omega) (show 1 ≤ 6 ∧ 6 ≤ 7 by first | assumption | omega)) (fun r59 M60 q61 => ?_)
          rcases q61 with ⟨I61a, A61a, B61a, C61a, e62, hR61a, f63⟩
          rw [e62]
          replace hR61a : w_Rep w_TM fr X u l I61a A61a B61a C61a M60 := hR61a
          replace f63 : m_fx I A I61a A61a := f63
          exact ⟨I61a, A61a, B61a, C61a, rfl, hR61a, (show m_fx I A I61a A61a by exact f63)⟩
        · have h58 : ¬ (¬ (I 2775) = 24) := h58
          show w_W _ _ _ (34, [(1, .int (Int32.ofInt (v35))), (0, .ref 43)], [], M) _
          refine w_adv (n := 2) (F' := (36, [(1, .int (Int32.ofInt (v35))), (0, .ref 43)], [.int (Int32.ofInt (5)), .ref 43], M)) rfl ?_
          refine w_call (cm := 232) (as := [(0, .ref 43), (1, .int (Int32.ofInt (5)))]) (rest := []) (o := some (9, 43)) rfl (w_fitR hR rfl) (m_fail (5) hR ⟨by omega, by omega⟩ (show 0 ≤ (I 2774) ∧ (I 2774) < 1501 by omega) (show 1 ≤ 5 ∧ 5 ≤ 7 by first | assumption | omega)) (fun r64 M65 q66 => ?_)
          rcases q66 with ⟨I66a, A66a, B66a, C66a, e67, hR66a, f68⟩
          rw [e67]
          replace hR66a : w_Rep w_TM fr X u l I66a A66a B66a C66a M65 := hR66a
          replace f68 : m_fx I A I66a A66a := f68
          exact ⟨I66a, A66a, B66a, C66a, rfl, hR66a, (show m_fx I A I66a A66a by exact f68)⟩
      · rw [e54, e55]
        show w_W _ _ _ (22, [(1, .int (Int32.ofInt (v35))), (0, .ref 43)], [.int (Int32.ofInt (0))], M) _
        refine w_adv (n := 3) (F' := (42, [(1, .int (Int32.ofInt (v35))), (0, .ref 43)], [.int (Int32.ofInt (6)), .ref 43], M)) rfl ?_
        refine w_call (cm := 232) (as := [(0, .ref 43), (1, .int (Int32.ofInt (6)))]) (rest := []) (o := some (9, 43)) rfl (w_fitR hR rfl) (m_fail (6) hR ⟨by omega, by omega⟩ (show 0 ≤ (I 2774) ∧ (I 2774) < 1501 by omega) (show 1 ≤ 6 ∧ 6 ≤ 7 by first | assumption | omega)) (fun r69 M70 q71 => ?_)
        rcases q71 with ⟨I71a, A71a, B71a, C71a, e72, hR71a, f73⟩
        rw [e72]
        replace hR71a : w_Rep w_TM fr X u l I71a A71a B71a C71a M70 := hR71a
        replace f73 : m_fx I A I71a A71a := f73
        exact ⟨I71a, A71a, B71a, C71a, rfl, hR71a, (show m_fx I A I71a A71a by exact f73)⟩
    · rw [e43]
      replace hR34b : w_Rep w_TM fr X u l (w_up I 2776 (z42)) A B C M33 := hR34b
      replace f46 : 0 ≤ v41 ∧ v41 < (I 4033) := f46
      show w_W _ _ _ (17, [(0, .ref 43)], [.int (Int32.ofInt (v41))], M33) _
      refine w_adv (n := 2) (F' := (19, [(1, .int (Int32.ofInt (v41))), (0, .ref 43)], [.ref 43], M33)) rfl ?_
      refine w_call (cm := 263) (as := [(0, .ref 43)]) (rest := []) (o := some (9, 43)) rfl (w_fitR hR34b rfl) (m_opens hR34b (show 3 ≤ d by omega) (show m_TK (w_up I 2776 (z42)) A by exact hTK) (show (0 ≤ (I 2774) ∧ (I 2774) < (I 2754) ∧ (I 2754) ≤ 1501 ∧ 0 ≤ (I 2775) ∧ (I 2775) ≤ 24) ∧ ((I 3393) = (I 3905) ∧ (I 3521) = (I 3905) ∧ (I 3649) = (I 3905) ∧ (I 3777) = (I 3905) ∧ 0 ≤ (I 3905) ∧ (I 3905) ≤ 3 * (I 2774)) ∧ ((I 4161) = (I 4033) ∧ 7 ≤ (I 4289) ∧ (I 4289) ≤ (I 4033) ∧ (I 4033) ≤ 7 + (I 2774)) ∧ 0 ≤ (I 5889) ∧ (I 5889) ≤ (I 2774) by (repeat' apply And.intro) <;> omega)) (fun r74 M75 q76 => ?_)
      rcases q76 with ⟨e77, e78⟩ | ⟨e79, e80⟩
      · rw [e77, e78]
        show w_W _ _ _ (22, [(1, .int (Int32.ofInt (v41))), (0, .ref 43)], [.int (Int32.ofInt (1))], M33) _
        refine w_adv (n := 2) (F' := (26, [(1, .int (Int32.ofInt (v41))), (0, .ref 43)], [.ref 43], M33)) rfl ?_
        refine w_gf (v := .int (Int32.ofInt ((I 2775)))) hR34b rfl rfl rfl rfl ?_
        obtain ⟨r81, r82⟩ : -2147483648 ≤ (I 2775) ∧ (I 2775) ≤ 2147483647 := hR34b.ri 2775
        refine w_adv (n := 1) (F' := (31, [(1, .int (Int32.ofInt (v41))), (0, .ref 43)], [.int (Int32.ofInt (24)), .int (Int32.ofInt ((I 2775)))], M33)) rfl ?_
        refine w_br2 (a := (I 2775)) (b := 24) rfl rfl ⟨by omega, by omega⟩ ⟨by omega, by omega⟩ (fun h83 => ?_) (fun h83 => ?_)
        · have h83 : ¬ (I 2775) = 24 := h83
          show w_W _ _ _ (39, [(1, .int (Int32.ofInt (v41))), (0, .ref 43)], [], M33) _
          refine w_adv (n := 2) (F' := (42, [(1, .int (Int32.ofInt (v41))), (0, .ref 43)], [.int (Int32.ofInt (6)), .ref 43], M33)) rfl ?_
          refine w_call (cm := 232) (as := [(0, .ref 43), (1, .int (Int32.ofInt (6)))]) (rest := []) (o := some (9, 43)) rfl (w_fitR hR34b rfl) (m_fail (6) hR34b ⟨by omega, by omega⟩ (show 0 ≤ (I 2774) ∧ (I 2774) < 1501 by omega) (show 1 ≤ 6 ∧ 6 ≤ 7 by first | assumption | omega)) (fun r84 M85 q86 => ?_)
          rcases q86 with ⟨I86a, A86a, B86a, C86a, e87, hR86a, f88⟩
          rw [e87]
          replace hR86a : w_Rep w_TM fr X u l I86a A86a B86a C86a M85 := hR86a
          replace f88 : m_fx (w_up I 2776 (z42)) A I86a A86a := f88
          exact ⟨I86a, A86a, B86a, C86a, rfl, hR86a, (show m_fx I A I86a A86a by exact f88)⟩
        · have h83 : ¬ (¬ (I 2775) = 24) := h83
          show w_W _ _ _ (34, [(1, .int (Int32.ofInt (v41))), (0, .ref 43)], [], M33) _
          refine w_adv (n := 2) (F' := (36, [(1, .int (Int32.ofInt (v41))), (0, .ref 43)], [.int (Int32.ofInt (5)), .ref 43], M33)) rfl ?_
          refine w_call (cm := 232) (as := [(0, .ref 43), (1, .int (Int32.ofInt (5)))]) (rest := []) (o := some (9, 43)) rfl (w_fitR hR34b rfl) (m_fail (5) hR34b ⟨by omega, by omega⟩ (show 0 ≤ (I 2774) ∧ (I 2774) < 1501 by omega) (show 1 ≤ 5 ∧ 5 ≤ 7 by first | assumption | omega)) (fun r89 M90 q91 => ?_)
          rcases q91 with ⟨I91a, A91a, B91a, C91a, e92, hR91a, f93⟩
          rw [e92]
          replace hR91a : w_Rep w_TM fr X u l I91a A91a B91a C91a M90 := hR91a
          replace f93 : m_fx (w_up I 2776 (z42)) A I91a A91a := f93
          exact ⟨I91a, A91a, B91a, C91a, rfl, hR91a, (show m_fx I A I91a A91a by exact f93)⟩
      · rw [e79, e80]
        show w_W _ _ _ (22, [(1, .int (Int32.ofInt (v41))), (0, .ref 43)], [.int (Int32.ofInt (0))], M33) _
        refine w_adv (n := 3) (F' := (42, [(1, .int (Int32.ofInt (v41))), (0, .ref 43)], [.int (Int32.ofInt (6)), .ref 43], M33)) rfl ?_
        refine w_call (cm := 232) (as := [(0, .ref 43), (1, .int (Int32.ofInt (6)))]) (rest := []) (o := some (9, 43)) rfl (w_fitR hR34b rfl) (m_fail (6) hR34b ⟨by omega, by omega⟩ (show 0 ≤ (I 2774) ∧ (I 2774) < 1501 by omega) (show 1 ≤ 6 ∧ 6 ≤ 7 by first | assumption | omega)) (fun r94 M95 q96 => ?_)
        rcases q96 with ⟨I96a, A96a, B96a, C96a, e97, hR96a, f98⟩
        rw [e97]
        replace hR96a : w_Rep w_TM fr X u l I96a A96a B96a C96a M95 := hR96a
        replace f98 : m_fx (w_up I 2776 (z42)) A I96a A96a := f98
        exact ⟨I96a, A96a, B96a, C96a, rfl, hR96a, (show m_fx I A I96a A96a by exact f98)⟩
    · rw [e47]
      replace hR34c : w_Rep w_TM fr X u l I34c A34c B34c C34c M33 := hR34c
      replace f48 : m_fx I A I34c A34c := f48
      exact ⟨I34c, A34c, B34c, C34c, rfl, hR34c, (show m_fx I A I34c A34c by exact f48)⟩
def m_anyFeature_Q (fr : Nat → Bool) (X : Nat → Option (q_C (Nat → Int32))) (u l : Nat) (I : Nat → Int) (A : Nat → Int → Int) (B C : Nat → Nat) (M : w_M) : w_X → w_M → Prop := fun r M' => (∃ v : Int, (r = .inl (some v)) ∧ (w_in v) ∧ (w_Rep w_TM fr X u l (w_up I 2774 ((I 2774) + 1)) A B C M') ∧ ((I 2774) + 1 < (I 2754))) ∨ (∃ (I' : Nat → Int) (A' : Nat → Int → Int) (B' C' : Nat → Nat), (r = .inr 69) ∧ (w_Rep w_TM fr X u l I' A' B' C' M') ∧ (m_fx I A I' A'))
set_option maxRecDepth 100000 in
theorem m_anyFeature {L : Nat} {xs : Nat → Int32} {d : Nat} {fr : Nat → Bool} {X : Nat → Option (q_C (Nat → Int32))} {u l : Nat} {I : Nat → Int} {A : Nat → Int → Int} {B C : Nat → Nat} {M : w_M} (hR : w_Rep w_TM fr X u l I A B C M) (hd : 3 ≤ d) (hTK : m_TK I A) (hNU : (0 ≤ (I 2774) ∧ (I 2774) < (I 2754) ∧ (I 2754) ≤ 1501 ∧ 0 ≤ (I 2775) ∧ (I 2775) ≤ 24) ∧ ((I 3393) = (I 3905) ∧ (I 3521) = (I 3905) ∧ (I 3649) = (I 3905) ∧ (I 3777) = (I 3905) ∧ 0 ≤ (I 3905) ∧ (I 3905) ≤ 3 * (I 2774)) ∧ ((I 4161) = (I 4033) ∧ 7 ≤ (I 4289) ∧ (I 4289) ≤ (I 4033) ∧ (I 4033) ≤ 7 + (I 2774)) ∧ 0 ≤ (I 5889) ∧ (I 5889) ≤ (I 2774)) (hf : (A 45) ((I 2774)) = 1 ∨ (A 45) ((I 2774)) = 4) : w_W (z_P L xs) d 256 (0, [(0, .ref 43)], [], M) (m_anyFeature_Q fr X u l I A B C M) := by
  obtain ⟨d, rfl⟩ : ∃ d0, d = d0 + 1 := ⟨d - 1, by omega⟩
  have wl : (I 2774) + 1 < (I 2754) := m_TK_lt hTK (by omega) (by omega) (by omega)
  refine w_adv (n := 1) (F' := (1, [(0, .ref 43)], [.ref 43], M)) rfl ?_
  refine w_gf (v := .ref 45) hR rfl rfl rfl rfl ?_
  refine w_adv (n := 1) (F' := (5, [(0, .ref 43)], [.ref 43, .ref 45], M)) rfl ?_
  refine w_gf (v := .int (Int32.ofInt ((I 2774)))) hR rfl rfl rfl rfl ?_
  obtain ⟨r1, r2⟩ : -2147483648 ≤ (I 2774) ∧ (I 2774) ≤ 2147483647 := hR.ri 2774
  refine w_la (n := 1502) hR rfl (Or.inl ⟨rfl, rfl⟩) rfl (show 0 ≤ (I 2774) by omega) (show (I 2774) < (1502 : Int) by omega) (by decide) ?_
  obtain ⟨r3, r4⟩ : -2147483648 ≤ (A 45) ((I 2774)) ∧ (A 45) ((I 2774)) ≤ 2147483647 := hR.ra 45 ((I 2774))
  show w_W _ _ _ (9, [(0, .ref 43)], [.int (Int32.ofInt ((A 45) ((I 2774))))], M) _
  refine w_adv (n := 1) (F' := (10, [(0, .ref 43)], [.int (Int32.ofInt (4)), .int (Int32.ofInt ((A 45) ((I 2774))))], M)) rfl ?_
  refine w_br2 (a := (A 45) ((I 2774))) (b := 4) rfl rfl ⟨by omega, by omega⟩ ⟨by omega, by omega⟩ (fun h5 => ?_) (fun h5 => ?_)
  · have h5 : ¬ (A 45) ((I 2774)) = 4 := h5
    show w_W _ _ _ (17, [(0, .ref 43)], [], M) _
    refine w_adv (n := 8) (F' := (74, [(1, .int (Int32.ofInt (0))), (0, .ref 43)], [.ref 43, .int (Int32.ofInt ((-1)))], M)) rfl ?_
    refine w_gf (v := .ref 46) hR rfl rfl rfl rfl ?_
    refine w_adv (n := 1) (F' := (78, [(1, .int (Int32.ofInt (0))), (0, .ref 43)], [.ref 43, .ref 46, .int (Int32.ofInt ((-1)))], M)) rfl ?_
    refine w_gf (v := .int (Int32.ofInt ((I 2774)))) hR rfl rfl rfl rfl ?_
    refine w_la (n := 1502) hR rfl (Or.inl ⟨rfl, rfl⟩) rfl (show 0 ≤ (I 2774) by omega) (show (I 2774) < (1502 : Int) by omega) (by decide) ?_
    obtain ⟨r6, r7⟩ : -2147483648 ≤ (A 46) ((I 2774)) ∧ (A 46) ((I 2774)) ≤ 2147483647 := hR.ra 46 ((I 2774))
    show w_W _ _ _ (82, [(1, .int (Int32.ofInt (0))), (0, .ref 43)], [.int (Int32.ofInt ((A 46) ((I 2774)))), .int (Int32.ofInt ((-1)))], M) _
    refine w_sub rfl ?_
    refine w_adv (n := 3) (F' := (86, [(2, .int (Int32.ofInt ((-1) - ((A 46) ((I 2774)))))), (1, .int (Int32.ofInt (0))), (0, .ref 43)], [.ref 43, .ref 43], M)) rfl ?_
    refine w_gf (v := .int (Int32.ofInt ((I 2774)))) hR rfl rfl rfl rfl ?_
    refine w_adv (n := 1) (F' := (90, [(2, .int (Int32.ofInt ((-1) - ((A 46) ((I 2774)))))), (1, .int (Int32.ofInt (0))), (0, .ref 43)], [.int (Int32.ofInt (1)), .int (Int32.ofInt ((I 2774))), .ref 43], M)) rfl ?_
    refine w_add rfl ?_
    refine w_pf hR rfl rfl rfl rfl (show w_in ((I 2774) + 1) from ⟨by omega, by omega⟩) (fun h => absurd h (by decide)) (fun M8 hR9 => ?_)
    replace hR9 : w_Rep w_TM fr X u l (w_up I 2774 ((I 2774) + 1)) A B C M8 := hR9
    refine w_adv (n := 1) (F' := (95, [(2, .int (Int32.ofInt ((-1) - ((A 46) ((I 2774)))))), (1, .int (Int32.ofInt (0))), (0, .ref 43)], [.int (Int32.ofInt ((-1) - ((A 46) ((I 2774)))))], M8)) rfl ?_
    refine w_fin (r := .inl (some ((-1) - ((A 46) ((I 2774)))))) (M' := M8) rfl ?_
    exact Or.inl ⟨(-1) - ((A 46) ((I 2774))), rfl, ⟨by omega, by omega⟩, hR9, (show (I 2774) + 1 < (I 2754) by first | assumption | omega)⟩
  · have h5 : ¬ (¬ (A 45) ((I 2774)) = 4) := h5
    have w10 : (I 2774) + 1 < (I 2754) := m_TK_lt hTK (by omega) (by omega) (by omega)
    show w_W _ _ _ (13, [(0, .ref 43)], [], M) _
    refine w_adv (n := 6) (F' := (24, [(1, .int (Int32.ofInt (1))), (0, .ref 43)], [.ref 43], M)) rfl ?_
    refine w_gf (v := .ref 46) hR rfl rfl rfl rfl ?_
    refine w_adv (n := 1) (F' := (28, [(1, .int (Int32.ofInt (1))), (0, .ref 43)], [.ref 43, .ref 46], M)) rfl ?_
    refine w_gf (v := .int (Int32.ofInt ((I 2774)))) hR rfl rfl rfl rfl ?_
    refine w_la (n := 1502) hR rfl (Or.inl ⟨rfl, rfl⟩) rfl (show 0 ≤ (I 2774) by omega) (show (I 2774) < (1502 : Int) by omega) (by decide) ?_
    obtain ⟨r11, r12⟩ : -2147483648 ≤ (A 46) ((I 2774)) ∧ (A 46) ((I 2774)) ≤ 2147483647 := hR.ra 46 ((I 2774))
    show w_W _ _ _ (32, [(1, .int (Int32.ofInt (1))), (0, .ref 43)], [.int (Int32.ofInt ((A 46) ((I 2774))))], M) _
    refine w_adv (n := 1) (F' := (33, [(1, .int (Int32.ofInt (1))), (0, .ref 43)], [.int (Int32.ofInt (1)), .int (Int32.ofInt ((A 46) ((I 2774))))], M)) rfl ?_
    refine w_br2 (a := (A 46) ((I 2774))) (b := 1) rfl rfl ⟨by omega, by omega⟩ ⟨by omega, by omega⟩ (fun h13 => ?_) (fun h13 => ?_)
    · have h13 : (A 46) ((I 2774)) < 1 := h13
      show w_W _ _ _ (50, [(1, .int (Int32.ofInt (1))), (0, .ref 43)], [], M) _
      refine w_adv (n := 2) (F' := (53, [(1, .int (Int32.ofInt (1))), (0, .ref 43)], [.int (Int32.ofInt (7)), .ref 43], M)) rfl ?_
      refine w_call (cm := 232) (as := [(0, .ref 43), (1, .int (Int32.ofInt (7)))]) (rest := []) (o := some (9, 43)) rfl (w_fitR hR rfl) (m_fail (7) hR ⟨by omega, by omega⟩ (show 0 ≤ (I 2774) ∧ (I 2774) < 1501 by omega) (show 1 ≤ 7 ∧ 7 ≤ 7 by first | assumption | omega)) (fun r14 M15 q16 => ?_)
      rcases q16 with ⟨I16a, A16a, B16a, C16a, e17, hR16a, f18⟩
      rw [e17]
      replace hR16a : w_Rep w_TM fr X u l I16a A16a B16a C16a M15 := hR16a
      replace f18 : m_fx I A I16a A16a := f18
      exact Or.inr (⟨I16a, A16a, B16a, C16a, rfl, hR16a, (show m_fx I A I16a A16a by exact f18)⟩)
    · have h13 : ¬ ((A 46) ((I 2774)) < 1) := h13
      show w_W _ _ _ (36, [(1, .int (Int32.ofInt (1))), (0, .ref 43)], [], M) _
      refine w_adv (n := 1) (F' := (37, [(1, .int (Int32.ofInt (1))), (0, .ref 43)], [.ref 43], M)) rfl ?_
      refine w_gf (v := .ref 46) hR rfl rfl rfl rfl ?_
      refine w_adv (n := 1) (F' := (41, [(1, .int (Int32.ofInt (1))), (0, .ref 43)], [.ref 43, .ref 46], M)) rfl ?_
      refine w_gf (v := .int (Int32.ofInt ((I 2774)))) hR rfl rfl rfl rfl ?_
      refine w_la (n := 1502) hR rfl (Or.inl ⟨rfl, rfl⟩) rfl (show 0 ≤ (I 2774) by omega) (show (I 2774) < (1502 : Int) by omega) (by decide) ?_
      show w_W _ _ _ (45, [(1, .int (Int32.ofInt (1))), (0, .ref 43)], [.int (Int32.ofInt ((A 46) ((I 2774))))], M) _
      refine w_adv (n := 1) (F' := (47, [(1, .int (Int32.ofInt (1))), (0, .ref 43)], [.int (Int32.ofInt (32)), .int (Int32.ofInt ((A 46) ((I 2774))))], M)) rfl ?_
      refine w_br2 (a := (A 46) ((I 2774))) (b := 32) rfl rfl ⟨by omega, by omega⟩ ⟨by omega, by omega⟩ (fun h19 => ?_) (fun h19 => ?_)
      · have h19 : (A 46) ((I 2774)) ≤ 32 := h19
        show w_W _ _ _ (56, [(1, .int (Int32.ofInt (1))), (0, .ref 43)], [], M) _
        refine w_adv (n := 3) (F' := (61, [(1, .int (Int32.ofInt (1))), (0, .ref 43)], [.ref 43], M)) rfl ?_
        refine w_gf (v := .ref 46) hR rfl rfl rfl rfl ?_
        refine w_adv (n := 1) (F' := (65, [(1, .int (Int32.ofInt (1))), (0, .ref 43)], [.ref 43, .ref 46], M)) rfl ?_
        refine w_gf (v := .int (Int32.ofInt ((I 2774)))) hR rfl rfl rfl rfl ?_
        refine w_la (n := 1502) hR rfl (Or.inl ⟨rfl, rfl⟩) rfl (show 0 ≤ (I 2774) by omega) (show (I 2774) < (1502 : Int) by omega) (by decide) ?_
        show w_W _ _ _ (69, [(1, .int (Int32.ofInt (1))), (0, .ref 43)], [.int (Int32.ofInt ((A 46) ((I 2774))))], M) _
        refine w_adv (n := 4) (F' := (86, [(2, .int (Int32.ofInt ((A 46) ((I 2774))))), (1, .int (Int32.ofInt (1))), (0, .ref 43)], [.ref 43, .ref 43], M)) rfl ?_
        refine w_gf (v := .int (Int32.ofInt ((I 2774)))) hR rfl rfl rfl rfl ?_
        refine w_adv (n := 1) (F' := (90, [(2, .int (Int32.ofInt ((A 46) ((I 2774))))), (1, .int (Int32.ofInt (1))), (0, .ref 43)], [.int (Int32.ofInt (1)), .int (Int32.ofInt ((I 2774))), .ref 43], M)) rfl ?_
        refine w_add rfl ?_
        refine w_pf hR rfl rfl rfl rfl (show w_in ((I 2774) + 1) from ⟨by omega, by omega⟩) (fun h => absurd h (by decide)) (fun M20 hR21 => ?_)
        replace hR21 : w_Rep w_TM fr X u l (w_up I 2774 ((I 2774) + 1)) A B C M20 := hR21
        refine w_adv (n := 1) (F' := (95, [(2, .int (Int32.ofInt ((A 46) ((I 2774))))), (1, .int (Int32.ofInt (1))), (0, .ref 43)], [.int (Int32.ofInt ((A 46) ((I 2774))))], M20)) rfl ?_
        refine w_fin (r := .inl (some ((A 46) ((I 2774))))) (M' := M20) rfl ?_
        exact Or.inl ⟨(A 46) ((I 2774)), rfl, ⟨by omega, by omega⟩, hR21, (show (I 2774) + 1 < (I 2754) by first | assumption | omega)⟩
      · have h19 : ¬ ((A 46) ((I 2774)) ≤ 32) := h19
        show w_W _ _ _ (50, [(1, .int (Int32.ofInt (1))), (0, .ref 43)], [], M) _
        refine w_adv (n := 2) (F' := (53, [(1, .int (Int32.ofInt (1))), (0, .ref 43)], [.int (Int32.ofInt (7)), .ref 43], M)) rfl ?_
        refine w_call (cm := 232) (as := [(0, .ref 43), (1, .int (Int32.ofInt (7)))]) (rest := []) (o := some (9, 43)) rfl (w_fitR hR rfl) (m_fail (7) hR ⟨by omega, by omega⟩ (show 0 ≤ (I 2774) ∧ (I 2774) < 1501 by omega) (show 1 ≤ 7 ∧ 7 ≤ 7 by first | assumption | omega)) (fun r22 M23 q24 => ?_)
        rcases q24 with ⟨I24a, A24a, B24a, C24a, e25, hR24a, f26⟩
        rw [e25]
        replace hR24a : w_Rep w_TM fr X u l I24a A24a B24a C24a M23 := hR24a
        replace f26 : m_fx I A I24a A24a := f26
        exact Or.inr (⟨I24a, A24a, B24a, C24a, rfl, hR24a, (show m_fx I A I24a A24a by exact f26)⟩)
def m_feature_Q (fr : Nat → Bool) (X : Nat → Option (q_C (Nat → Int32))) (u l : Nat) (I : Nat → Int) (A : Nat → Int → Int) (B C : Nat → Nat) (M : w_M) : w_X → w_M → Prop := fun r M' => (∃ v : Int, (r = .inl (some v)) ∧ (w_in v) ∧ (w_Rep w_TM fr X u l (w_up I 2774 ((I 2774) + 1)) A B C M') ∧ ((I 2774) + 1 < (I 2754))) ∨ (∃ (I' : Nat → Int) (A' : Nat → Int → Int) (B' C' : Nat → Nat), (r = .inr 69) ∧ (w_Rep w_TM fr X u l I' A' B' C' M') ∧ (m_fx I A I' A'))
set_option maxRecDepth 100000 in
theorem m_feature {L : Nat} {xs : Nat → Int32} {d : Nat} {fr : Nat → Bool} {X : Nat → Option (q_C (Nat → Int32))} {u l : Nat} {I : Nat → Int} {A : Nat → Int → Int} {B C : Nat → Nat} {M : w_M} (hR : w_Rep w_TM fr X u l I A B C M) (hd : 4 ≤ d) (hTK : m_TK I A) (hNU : (0 ≤ (I 2774) ∧ (I 2774) < (I 2754) ∧ (I 2754) ≤ 1501 ∧ 0 ≤ (I 2775) ∧ (I 2775) ≤ 24) ∧ ((I 3393) = (I 3905) ∧ (I 3521) = (I 3905) ∧ (I 3649) = (I 3905) ∧ (I 3777) = (I 3905) ∧ 0 ≤ (I 3905) ∧ (I 3905) ≤ 3 * (I 2774)) ∧ ((I 4161) = (I 4033) ∧ 7 ≤ (I 4289) ∧ (I 4289) ≤ (I 4033) ∧ (I 4033) ≤ 7 + (I 2774)) ∧ 0 ≤ (I 5889) ∧ (I 5889) ≤ (I 2774)) : w_W (z_P L xs) d 273 (0, [(0, .ref 43)], [], M) (m_feature_Q fr X u l I A B C M) := by
  obtain ⟨d, rfl⟩ : ∃ d0, d = d0 + 1 := ⟨d - 1, by omega⟩
  refine w_adv (n := 1) (F' := (1, [(0, .ref 43)], [.ref 43], M)) rfl ?_
  refine w_call (cm := 253) (as := [(0, .ref 43)]) (rest := []) (o := some (9, 43)) rfl (w_fitR hR rfl) (m_isFeature hR (show 0 ≤ (I 2774) ∧ (I 2774) < 1501 by omega)) (fun r1 M2 q3 => ?_)
  rcases q3 with ⟨e4, e5, f6⟩ | ⟨e7, e8, f9⟩
  · rw [e4, e5]
    replace f6 : (A 45) ((I 2774)) = 1 ∨ (A 45) ((I 2774)) = 4 := f6
    have w10 : (I 2774) + 1 < (I 2754) := m_TK_lt hTK (by omega) (by omega) (by omega)
    show w_W _ _ _ (4, [(0, .ref 43)], [.int (Int32.ofInt (1))], M) _
    refine w_adv (n := 2) (F' := (13, [(0, .ref 43)], [.ref 43], M)) rfl ?_
    refine w_call (cm := 256) (as := [(0, .ref 43)]) (rest := []) (o := some (9, 43)) rfl (w_fitR hR rfl) (m_anyFeature hR (show 3 ≤ d by omega) (show m_TK I A by exact hTK) (show (0 ≤ (I 2774) ∧ (I 2774) < (I 2754) ∧ (I 2754) ≤ 1501 ∧ 0 ≤ (I 2775) ∧ (I 2775) ≤ 24) ∧ ((I 3393) = (I 3905) ∧ (I 3521) = (I 3905) ∧ (I 3649) = (I 3905) ∧ (I 3777) = (I 3905) ∧ 0 ≤ (I 3905) ∧ (I 3905) ≤ 3 * (I 2774)) ∧ ((I 4161) = (I 4033) ∧ 7 ≤ (I 4289) ∧ (I 4289) ≤ (I 4033) ∧ (I 4033) ≤ 7 + (I 2774)) ∧ 0 ≤ (I 5889) ∧ (I 5889) ≤ (I 2774) by (repeat' apply And.intro) <;> omega) (show (A 45) ((I 2774)) = 1 ∨ (A 45) ((I 2774)) = 4 by first | assumption | omega)) (fun r11 M12 q13 => ?_)
    rcases q13 with ⟨v14, e15, ⟨r16, r17⟩, hR13a, f18⟩ | ⟨I13b, A13b, B13b, C13b, e19, hR13b, f20⟩
    · rw [e15]
      replace hR13a : w_Rep w_TM fr X u l (w_up I 2774 ((I 2774) + 1)) A B C M12 := hR13a
      replace f18 : (I 2774) + 1 < (I 2754) := f18
      show w_W _ _ _ (16, [(0, .ref 43)], [.int (Int32.ofInt (v14))], M12) _
      refine w_fin (r := .inl (some (v14))) (M' := M12) rfl ?_
      exact Or.inl ⟨v14, rfl, ⟨by omega, by omega⟩, hR13a, (show (I 2774) + 1 < (I 2754) by first | assumption | omega)⟩
    · rw [e19]
      replace hR13b : w_Rep w_TM fr X u l I13b A13b B13b C13b M12 := hR13b
      replace f20 : m_fx I A I13b A13b := f20
      exact Or.inr (⟨I13b, A13b, B13b, C13b, rfl, hR13b, (show m_fx I A I13b A13b by exact f20)⟩)
  · rw [e7, e8]
    replace f9 : ¬ ((A 45) ((I 2774)) = 1 ∨ (A 45) ((I 2774)) = 4) := f9
    show w_W _ _ _ (4, [(0, .ref 43)], [.int (Int32.ofInt (0))], M) _
    refine w_adv (n := 3) (F' := (9, [(0, .ref 43)], [.int (Int32.ofInt (1)), .ref 43], M)) rfl ?_
    refine w_call (cm := 232) (as := [(0, .ref 43), (1, .int (Int32.ofInt (1)))]) (rest := []) (o := some (9, 43)) rfl (w_fitR hR rfl) (m_fail (1) hR ⟨by omega, by omega⟩ (show 0 ≤ (I 2774) ∧ (I 2774) < 1501 by omega) (show 1 ≤ 1 ∧ 1 ≤ 7 by first | assumption | omega)) (fun r21 M22 q23 => ?_)
    rcases q23 with ⟨I23a, A23a, B23a, C23a, e24, hR23a, f25⟩
    rw [e24]
    replace hR23a : w_Rep w_TM fr X u l I23a A23a B23a C23a M22 := hR23a
    replace f25 : m_fx I A I23a A23a := f25
    exact Or.inr (⟨I23a, A23a, B23a, C23a, rfl, hR23a, (show m_fx I A I23a A23a by exact f25)⟩)
theorem m_bind_SC {I I' : Nat → Int} {A A' : Nat → Int → Int} (h : m_SC I A) (hn : 0 ≤ I 4033) (hs : 0 ≤ I 4289) (e1 : I' 4289 = I 4289 + 1) (e2 : I' 4033 = I 4033 + 1) (h67 : ∀ i, 0 ≤ i → i < I 4289 → A' 67 i = A 67 i) (g67 : A' 67 (I 4289) = I 4033) (h63 : ∀ i, 0 ≤ i → i < I 4033 → A' 63 i = A 63 i) (g63 : 0 ≤ A' 63 (I 4033) ∧ A' 63 (I 4033) < 400) : m_SC I' A' := by
  obtain ⟨a1, a2⟩ := h
  unfold m_SC
  rw [e1, e2]
  refine ⟨fun i h0 h1 => ?_, fun i h0 h1 => ?_⟩
  · by_cases e : i = I 4289
    · rw [e, g67]; omega
    · have := a1 i h0 (by omega)
      rw [h67 i h0 (by omega)]; omega
  · by_cases e : i = I 4033
    · rw [e]; exact g63
    · rw [h63 i h0 (by omega)]; exact a2 i h0 (by omega)
theorem m_bind_TR {lo : Int → Int} {I I' : Nat → Int} {A A' : Nat → Int → Int} (h : m_TR lo I A) (e1 : I' 3905 = I 3905) (e2 : I 4033 ≤ I' 4033) (h53 : A' 53 = A 53) (h55 : A' 55 = A 55) (h57 : A' 57 = A 57) (h59 : A' 59 = A 59) (h61 : A' 61 = A 61) : m_TR lo I' A' := by
  intro p h0 hp
  rw [e1] at hp ⊢
  rw [h53, h55, h57, h59, h61]
  obtain ⟨g1, g2⟩ := h p h0 hp
  exact ⟨t_N_cong (n := I 3905) (fun _ _ _ => rfl) (fun _ _ _ => rfl) e2 h0 hp g1, g2⟩
def m_bind_Q (fr : Nat → Bool) (X : Nat → Option (q_C (Nat → Int32))) (u l : Nat) (I : Nat → Int) (A : Nat → Int → Int) (B C : Nat → Nat) (M : w_M) (mark : Int) (n : Int) (lo : Int → Int) : w_X → w_M → Prop := fun r M' => (∃ v : Int, ∃ lo' : Int → Int, ∃ (I' : Nat → Int) (A' : Nat → Int → Int) (B' C' : Nat → Nat), (r = .inl (some v)) ∧ (w_in v) ∧ (w_Rep w_TM fr X u l I' A' B' C' M') ∧ (m_fx I A I' A') ∧ (((0 ≤ (I' 2774) ∧ (I' 2774) < (I' 2754) ∧ (I' 2754) ≤ 1501 ∧ 0 ≤ (I' 2775) ∧ (I' 2775) ≤ 24) ∧ ((I' 3393) = (I' 3905) ∧ (I' 3521) = (I' 3905) ∧ (I' 3649) = (I' 3905) ∧ (I' 3777) = (I' 3905) ∧ 0 ≤ (I' 3905) ∧ (I' 3905) ≤ 3 * (I' 2774)) ∧ ((I' 4161) = (I' 4033) ∧ 7 ≤ (I' 4289) ∧ (I' 4289) ≤ (I' 4033) ∧ (I' 4033) ≤ 7 + (I' 2774)) ∧ 0 ≤ (I' 5889) ∧ (I' 5889) ≤ (I' 2774)) ∧ ((I' 2754) = (I 2754) ∧ (I 2774) + 1 ≤ (I' 2774) ∧ (I' 2775) = (I 2775) ∧ (I' 4289) = (I 4289) + 1 ∧ (I' 5889) = (I 5889)) ∧ ((I' 3905) + 2 ≤ (I 3905) + 3 * ((I' 2774) - (I 2774)) ∧ (I 3905) ≤ v ∧ v + 1 = (I' 3905) ∧ (I 4033) ≤ (I' 4033) ∧ (I' 4033) ≤ (I 4033) + ((I' 2774) - (I 2774)))) ∧ (m_SC I' A') ∧ (m_TR lo' I' A') ∧ (m_ST lo I A lo' I' A') ∧ ((fun k => k = 28) ((A' 53) (v))) ∧ (m_rt lo' (I' 3905) v)) ∨ (∃ (I' : Nat → Int) (A' : Nat → Int → Int) (B' C' : Nat → Nat), (r = .inr 69) ∧ (w_Rep w_TM fr X u l I' A' B' C' M') ∧ (m_fx I A I' A'))
set_option maxRecDepth 100000 in
theorem m_bind {L : Nat} {xs : Nat → Int32} {d : Nat} {fr : Nat → Bool} {X : Nat → Option (q_C (Nat → Int32))} {u l : Nat} {I : Nat → Int} {A : Nat → Int → Int} {B C : Nat → Nat} {M : w_M} (mark : Int) (n : Int) (lo : Int → Int) (hR : w_Rep w_TM fr X u l I A B C M) (hd : 20 * (24 - (I 2775)) + 6 ≤ (d : Int)) (r_mark : w_in mark) (r_n : w_in n) (hTK : m_TK I A) (hNU : (0 ≤ (I 2774) ∧ (I 2774) < (I 2754) ∧ (I 2754) ≤ 1501 ∧ 0 ≤ (I 2775) ∧ (I 2775) ≤ 24) ∧ ((I 3393) = (I 3905) ∧ (I 3521) = (I 3905) ∧ (I 3649) = (I 3905) ∧ (I 3777) = (I 3905) ∧ 0 ≤ (I 3905) ∧ (I 3905) ≤ 3 * (I 2774)) ∧ ((I 4161) = (I 4033) ∧ 7 ≤ (I 4289) ∧ (I 4289) ≤ (I 4033) ∧ (I 4033) ≤ 7 + (I 2774)) ∧ 0 ≤ (I 5889) ∧ (I 5889) ≤ (I 2774)) (hSC : m_SC I A) (hTR : m_TR lo I A) (hk : (A 45) ((I 2774)) = 2) (hm : 0 ≤ mark ∧ mark ≤ (I 4289)) : w_W (z_P L xs) d 237 (0, [(0, .ref 43), (1, .int (Int32.ofInt (mark))), (2, .int (Int32.ofInt (n)))], [], M) (m_bind_Q fr X u l I A B C M mark n lo) := by
  obtain ⟨ra_mark, rb_mark⟩ := r_mark
  obtain ⟨ra_n, rb_n⟩ := r_n
  obtain ⟨d, rfl⟩ : ∃ d0, d = d0 + 1 := ⟨d - 1, by omega⟩
  have wl : (I 2774) + 1 < (I 2754) := m_TK_lt hTK (by omega) (by omega) (by omega)
  refine w_adv (n := 1) (F' := (1, [(0, .ref 43), (1, .int (Int32.ofInt (mark))), (2, .int (Int32.ofInt (n)))], [.ref 43], M)) rfl ?_
  refine w_gf (v := .ref 46) hR rfl rfl rfl rfl ?_
  refine w_adv (n := 1) (F' := (5, [(0, .ref 43), (1, .int (Int32.ofInt (mark))), (2, .int (Int32.ofInt (n)))], [.ref 43, .ref 46], M)) rfl ?_
  refine w_gf (v := .int (Int32.ofInt ((I 2774)))) hR rfl rfl rfl rfl ?_
  obtain ⟨r1, r2⟩ : -2147483648 ≤ (I 2774) ∧ (I 2774) ≤ 2147483647 := hR.ri 2774
  refine w_la (n := 1502) hR rfl (Or.inl ⟨rfl, rfl⟩) rfl (show 0 ≤ (I 2774) by omega) (show (I 2774) < (1502 : Int) by omega) (by decide) ?_
  obtain ⟨r3, r4⟩ : -2147483648 ≤ (A 46) ((I 2774)) ∧ (A 46) ((I 2774)) ≤ 2147483647 := hR.ra 46 ((I 2774))
  show w_W _ _ _ (9, [(0, .ref 43), (1, .int (Int32.ofInt (mark))), (2, .int (Int32.ofInt (n)))], [.int (Int32.ofInt ((A 46) ((I 2774))))], M) _
  refine w_adv (n := 3) (F' := (13, [(4, .int (Int32.ofInt (mark))), (3, .int (Int32.ofInt ((A 46) ((I 2774))))), (0, .ref 43), (1, .int (Int32.ofInt (mark))), (2, .int (Int32.ofInt (n)))], [], M)) rfl ?_
  have lp13 : ∀ fu : Nat, ∀ (y13_4 : Int), w_in y13_4 → 0 ≤ y13_4 → (if y13_4 < (I 4289) then (I 4289) - y13_4 else 0) < (fu : Int) → w_W (z_P L xs) (d + 1) 237 (13, [(0, .ref 43), (1, .int (Int32.ofInt (mark))), (2, .int (Int32.ofInt (n))), (3, .int (Int32.ofInt ((A 46) ((I 2774))))), (4, .int (Int32.ofInt (y13_4)))], [], M) (m_bind_Q fr X u l I A B C M mark n lo) := by
    intro fu
    induction fu with
    | zero =>
      intro y13_4 ⟨ra_y13_4, rb_y13_4⟩ hi13_0 hn13
      exfalso
      omega
    | succ fu ih13 =>
      intro y13_4 ⟨ra_y13_4, rb_y13_4⟩ hi13_0 hn13
      refine w_adv (n := 2) (F' := (16, [(0, .ref 43), (1, .int (Int32.ofInt (mark))), (2, .int (Int32.ofInt (n))), (3, .int (Int32.ofInt ((A 46) ((I 2774))))), (4, .int (Int32.ofInt (y13_4)))], [.ref 43, .int (Int32.ofInt (y13_4))], M)) rfl ?_
      refine w_gf (v := .ref 67) hR rfl rfl rfl rfl ?_
      refine w_gf (v := .int (Int32.ofInt ((I 4289)))) hR rfl rfl rfl rfl ?_
      obtain ⟨r5, r6⟩ : -2147483648 ≤ (I 4289) ∧ (I 4289) ≤ 2147483647 := hR.ri 4289
      obtain ⟨r7a, r7b, r7c⟩ : 0 ≤ (I 4289) ∧ (I 4289) ≤ (C 67 : Int) ∧ (C 67 : Int) ≤ 131072 := hR.sz (show 67 ∈ w_TM.2.2 by decide)
      refine w_br2 (a := y13_4) (b := (I 4289)) rfl rfl ⟨by omega, by omega⟩ ⟨by omega, by omega⟩ (fun h8 => ?_) (fun h8 => ?_)
      · have h8 : y13_4 ≥ (I 4289) := h8
        show w_W _ _ _ (56, [(0, .ref 43), (1, .int (Int32.ofInt (mark))), (2, .int (Int32.ofInt (n))), (3, .int (Int32.ofInt ((A 46) ((I 2774))))), (4, .int (Int32.ofInt (y13_4)))], [], M) _
        refine w_adv (n := 2) (F' := (59, [(0, .ref 43), (1, .int (Int32.ofInt (mark))), (2, .int (Int32.ofInt (n))), (3, .int (Int32.ofInt ((A 46) ((I 2774))))), (4, .int (Int32.ofInt (y13_4)))], [.int (Int32.ofInt (32)), .int (Int32.ofInt (n))], M)) rfl ?_
        refine w_br2 (a := n) (b := 32) rfl rfl ⟨by omega, by omega⟩ ⟨by omega, by omega⟩ (fun h9 => ?_) (fun h9 => ?_)
        · have h9 : n < 32 := h9
          show w_W _ _ _ (68, [(0, .ref 43), (1, .int (Int32.ofInt (mark))), (2, .int (Int32.ofInt (n))), (3, .int (Int32.ofInt ((A 46) ((I 2774))))), (4, .int (Int32.ofInt (y13_4)))], [], M) _
          refine w_adv (n := 1) (F' := (69, [(0, .ref 43), (1, .int (Int32.ofInt (mark))), (2, .int (Int32.ofInt (n))), (3, .int (Int32.ofInt ((A 46) ((I 2774))))), (4, .int (Int32.ofInt (y13_4)))], [.ref 43], M)) rfl ?_
          refine w_gf (v := .ref 63) hR rfl rfl rfl rfl ?_
          refine w_adv (n := 1) (F' := (73, [(0, .ref 43), (1, .int (Int32.ofInt (mark))), (2, .int (Int32.ofInt (n))), (3, .int (Int32.ofInt ((A 46) ((I 2774))))), (4, .int (Int32.ofInt (y13_4)))], [.int (Int32.ofInt ((A 46) ((I 2774)))), .ref 63], M)) rfl ?_
          obtain ⟨r10a, r10b, r10c⟩ : 0 ≤ (I 4033) ∧ (I 4033) ≤ (C 63 : Int) ∧ (C 63 : Int) ≤ 131072 := hR.sz (show 63 ∈ w_TM.2.2 by decide)
          refine w_call (cm := 207) (as := [(0, .ref 63), (1, .int (Int32.ofInt ((A 46) ((I 2774)))))]) (rest := []) (o := some (10, 63)) rfl (w_fitR hR rfl) (m_add ((A 46) ((I 2774))) 63 (by decide) rfl hR ⟨by omega, by omega⟩ (show (I 4033) < 65536 by first | assumption | omega)) (fun r11 M12 q13 => ?_)
          rcases q13 with ⟨g13a, b13a, c13a, e14, hR13a, f15, f16⟩
          rw [e14]
          replace hR13a : w_Rep w_TM fr X u l (w_up I 4033 ((I 4033) + 1)) (w_upF A 63 g13a) (w_upN B 63 b13a) (w_upN C 63 c13a) M12 := hR13a
          replace f15 : ∀ i, 0 ≤ i → i < (I 4033) → g13a i = (A 63) i := f15
          replace f16 : g13a ((I 4033)) = (A 46) ((I 2774)) := f16
          show w_W _ _ _ (76, [(0, .ref 43), (1, .int (Int32.ofInt (mark))), (2, .int (Int32.ofInt (n))), (3, .int (Int32.ofInt ((A 46) ((I 2774))))), (4, .int (Int32.ofInt (y13_4)))], [.int (Int32.ofInt ((I 4033)))], M12) _
          refine w_adv (n := 2) (F' := (79, [(4, .int (Int32.ofInt ((I 4033)))), (0, .ref 43), (1, .int (Int32.ofInt (mark))), (2, .int (Int32.ofInt (n))), (3, .int (Int32.ofInt ((A 46) ((I 2774)))))], [.ref 43], M12)) rfl ?_
          refine w_gf (v := .ref 65) hR13a rfl rfl rfl rfl ?_
          refine w_adv (n := 1) (F' := (83, [(4, .int (Int32.ofInt ((I 4033)))), (0, .ref 43), (1, .int (Int32.ofInt (mark))), (2, .int (Int32.ofInt (n))), (3, .int (Int32.ofInt ((A 46) ((I 2774)))))], [.int (Int32.ofInt ((-1))), .ref 65], M12)) rfl ?_
          obtain ⟨r17a, r17b, r17c⟩ : 0 ≤ (I 4161) ∧ (I 4161) ≤ (C 65 : Int) ∧ (C 65 : Int) ≤ 131072 := hR13a.sz (show 65 ∈ w_TM.2.2 by decide)
          refine w_call (cm := 207) (as := [(0, .ref 65), (1, .int (Int32.ofInt ((-1))))]) (rest := []) (o := some (10, 65)) rfl (w_fitR hR13a rfl) (m_add ((-1)) 65 (by decide) rfl hR13a ⟨by omega, by omega⟩ (show (I 4161) < 65536 by first | assumption | omega)) (fun r18 M19 q20 => ?_)
          rcases q20 with ⟨g20a, b20a, c20a, e21, hR20a, f22, f23⟩
          rw [e21]
          replace hR20a : w_Rep w_TM fr X u l (w_up (w_up I 4033 ((I 4033) + 1)) 4161 ((I 4161) + 1)) (w_upF (w_upF A 63 g13a) 65 g20a) (w_upN (w_upN B 63 b13a) 65 b20a) (w_upN (w_upN C 63 c13a) 65 c20a) M19 := hR20a
          replace f22 : ∀ i, 0 ≤ i → i < (I 4161) → g20a i = (A 65) i := f22
          replace f23 : g20a ((I 4161)) = (-1) := f23
          show w_W _ _ _ (86, [(4, .int (Int32.ofInt ((I 4033)))), (0, .ref 43), (1, .int (Int32.ofInt (mark))), (2, .int (Int32.ofInt (n))), (3, .int (Int32.ofInt ((A 46) ((I 2774)))))], [.int (Int32.ofInt ((I 4161)))], M19) _
          refine w_adv (n := 2) (F' := (89, [(4, .int (Int32.ofInt ((I 4161)))), (0, .ref 43), (1, .int (Int32.ofInt (mark))), (2, .int (Int32.ofInt (n))), (3, .int (Int32.ofInt ((A 46) ((I 2774)))))], [.ref 43], M19)) rfl ?_
          refine w_gf (v := .ref 67) hR20a rfl rfl rfl rfl ?_
          refine w_adv (n := 1) (F' := (94, [(4, .int (Int32.ofInt ((I 4161)))), (0, .ref 43), (1, .int (Int32.ofInt (mark))), (2, .int (Int32.ofInt (n))), (3, .int (Int32.ofInt ((A 46) ((I 2774)))))], [.int (Int32.ofInt ((I 4161))), .ref 67], M19)) rfl ?_
          refine w_call (cm := 207) (as := [(0, .ref 67), (1, .int (Int32.ofInt ((I 4161))))]) (rest := []) (o := some (10, 67)) rfl (w_fitR hR20a rfl) (m_add ((I 4161)) 67 (by decide) rfl hR20a ⟨by omega, by omega⟩ (show (I 4289) < 65536 by first | assumption | omega)) (fun r24 M25 q26 => ?_)
          rcases q26 with ⟨g26a, b26a, c26a, e27, hR26a, f28, f29⟩
          rw [e27]
          replace hR26a : w_Rep w_TM fr X u l (w_up (w_up (w_up I 4033 ((I 4033) + 1)) 4161 ((I 4161) + 1)) 4289 ((I 4289) + 1)) (w_upF (w_upF (w_upF A 63 g13a) 65 g20a) 67 g26a) (w_upN (w_upN (w_upN B 63 b13a) 65 b20a) 67 b26a) (w_upN (w_upN (w_upN C 63 c13a) 65 c20a) 67 c26a) M25 := hR26a
          replace f28 : ∀ i, 0 ≤ i → i < (I 4289) → g26a i = (A 67) i := f28
          replace f29 : g26a ((I 4289)) = (I 4161) := f29
          have hSC2 : m_SC (w_up (w_up (w_up I 4033 ((I 4033) + 1)) 4161 ((I 4161) + 1)) 4289 ((I 4289) + 1)) (w_upF (w_upF (w_upF A 63 g13a) 65 g20a) 67 g26a) := m_bind_SC hSC (by omega) (by omega) rfl rfl f28 (show g26a (I 4289) = I 4033 by have q := f29; omega) f15 (by have q := f16; have w := hTK.2.2.2 (I 2774) (by omega) (by omega) (by omega); show 0 ≤ g13a (I 4033) ∧ g13a (I 4033) < 400; rw [q]; exact w)
          have hTR2 : m_TR lo (w_up (w_up (w_up I 4033 ((I 4033) + 1)) 4161 ((I 4161) + 1)) 4289 ((I 4289) + 1)) (w_upF (w_upF (w_upF A 63 g13a) 65 g20a) 67 g26a) := m_bind_TR hTR rfl (show (I 4033) ≤ (I 4033) + 1 by omega) rfl rfl rfl rfl rfl
          have hST2 : m_ST lo I A lo (w_up (w_up (w_up I 4033 ((I 4033) + 1)) 4161 ((I 4161) + 1)) 4289 ((I 4289) + 1)) (w_upF (w_upF (w_upF A 63 g13a) 65 g20a) 67 g26a) := ⟨fun _ _ _ => ⟨rfl, rfl, rfl, rfl, rfl, rfl⟩, fun q h1 h2 => absurd h2 (by show ¬ q < I 3905; omega), f28, fun _ _ _ => rfl⟩
          show w_W _ _ _ (97, [(4, .int (Int32.ofInt ((I 4161)))), (0, .ref 43), (1, .int (Int32.ofInt (mark))), (2, .int (Int32.ofInt (n))), (3, .int (Int32.ofInt ((A 46) ((I 2774)))))], [.int (Int32.ofInt ((I 4289)))], M25) _
          refine w_adv (n := 3) (F' := (101, [(5, .int (Int32.ofInt ((I 4289)))), (4, .int (Int32.ofInt ((I 4161)))), (0, .ref 43), (1, .int (Int32.ofInt (mark))), (2, .int (Int32.ofInt (n))), (3, .int (Int32.ofInt ((A 46) ((I 2774)))))], [.ref 43, .ref 43], M25)) rfl ?_
          refine w_gf (v := .int (Int32.ofInt ((I 2774)))) hR26a rfl rfl rfl rfl ?_
          refine w_adv (n := 1) (F' := (105, [(5, .int (Int32.ofInt ((I 4289)))), (4, .int (Int32.ofInt ((I 4161)))), (0, .ref 43), (1, .int (Int32.ofInt (mark))), (2, .int (Int32.ofInt (n))), (3, .int (Int32.ofInt ((A 46) ((I 2774)))))], [.int (Int32.ofInt (1)), .int (Int32.ofInt ((I 2774))), .ref 43], M25)) rfl ?_
          refine w_add rfl ?_
          refine w_pf hR26a rfl rfl rfl rfl (show w_in ((I 2774) + 1) from ⟨by omega, by omega⟩) (fun h => absurd h (by decide)) (fun M30 hR31 => ?_)
          replace hR31 : w_Rep w_TM fr X u l (w_up (w_up (w_up (w_up I 4033 ((I 4033) + 1)) 4161 ((I 4161) + 1)) 4289 ((I 4289) + 1)) 2774 ((I 2774) + 1)) (w_upF (w_upF (w_upF A 63 g13a) 65 g20a) 67 g26a) (w_upN (w_upN (w_upN B 63 b13a) 65 b20a) 67 b26a) (w_upN (w_upN (w_upN C 63 c13a) 65 c20a) 67 c26a) M30 := hR31
          refine w_adv (n := 5) (F' := (116, [(5, .int (Int32.ofInt ((I 4289)))), (4, .int (Int32.ofInt ((I 4161)))), (0, .ref 43), (1, .int (Int32.ofInt (mark))), (2, .int (Int32.ofInt (n))), (3, .int (Int32.ofInt ((A 46) ((I 2774)))))], [.int (Int32.ofInt (0)), .int (Int32.ofInt (0)), .int (Int32.ofInt ((I 4161))), .int (Int32.ofInt (28)), .ref 43], M30)) rfl ?_
          refine w_call (cm := 239) (as := [(0, .ref 43), (1, .int (Int32.ofInt (28))), (2, .int (Int32.ofInt ((I 4161)))), (3, .int (Int32.ofInt (0))), (4, .int (Int32.ofInt (0)))]) (rest := []) (o := some (9, 43)) rfl (w_fitR hR31 rfl) (m_node (28) ((I 4161)) (0) (0) hR31 (show 2 ≤ d by omega) ⟨by omega, by omega⟩ ⟨by omega, by omega⟩ ⟨by omega, by omega⟩ ⟨by omega, by omega⟩ (show (I 3393) = (I 3905) by first | assumption | omega) (show (I 3521) = (I 3905) by first | assumption | omega) (show (I 3649) = (I 3905) by first | assumption | omega) (show (I 3777) = (I 3905) by first | assumption | omega) (show (I 3905) < 65536 by first | assumption | omega)) (fun r32 M33 q34 => ?_)
          rcases q34 with ⟨v35, I34a, A34a, B34a, C34a, e36, ⟨r37, r38⟩, hR34a, f39, f40⟩
          rw [e36]
          replace hR34a : w_Rep w_TM fr X u l I34a A34a B34a C34a M33 := hR34a
          replace f39 : m_fx (w_up (w_up (w_up (w_up I 4033 ((I 4033) + 1)) 4161 ((I 4161) + 1)) 4289 ((I 4289) + 1)) 2774 ((I 2774) + 1)) (w_upF (w_upF (w_upF A 63 g13a) 65 g20a) 67 g26a) I34a A34a := f39
          replace f40 : m_nd (w_up (w_up (w_up (w_up I 4033 ((I 4033) + 1)) 4161 ((I 4161) + 1)) 4289 ((I 4289) + 1)) 2774 ((I 2774) + 1)) (w_upF (w_upF (w_upF A 63 g13a) 65 g20a) 67 g26a) I34a A34a v35 28 (I 4161) 0 0 := f40
          have j41 : (v35 = (I 3905) ∧ (I34a 3905) = (I 3905) + 1 ∧ (I34a 3393) = (I 3393) + 1 ∧ (I34a 3521) = (I 3521) + 1 ∧ (I34a 3649) = (I 3649) + 1 ∧ (I34a 3777) = (I 3777) + 1) ∧ ((I34a 2774) = (I 2774) + 1 ∧ (I34a 2754) = (I 2754) ∧ (I34a 2775) = (I 2775) ∧ (I34a 4289) = (I 4289) + 1 ∧ (I34a 4033) = (I 4033) + 1 ∧ (I34a 4161) = (I 4161) + 1 ∧ (I34a 5889) = (I 5889)) := m_nd_num f40
          have tk42 : m_TK I34a A34a := m_TK_fx f39 hTK
          have sc43 := m_SC_nd f40 hSC2
          have tr44 : m_TR (t_up lo v35 (I 3905)) I34a A34a := m_TR_nd (show m_TR lo (w_up (w_up (w_up (w_up I 4033 ((I 4033) + 1)) 4161 ((I 4161) + 1)) 4289 ((I 4289) + 1)) 2774 ((I 2774) + 1)) (w_upF (w_upF (w_upF A 63 g13a) 65 g20a) 67 g26a) from hTR2) f40 (by omega) (by omega) (m_cl_ST (show m_ST lo I A lo (w_up (w_up (w_up (w_up I 4033 ((I 4033) + 1)) 4161 ((I 4161) + 1)) 4289 ((I 4289) + 1)) 2774 ((I 2774) + 1)) (w_upF (w_upF (w_upF A 63 g13a) 65 g20a) 67 g26a) from hST2) hTR (by omega)) (t_N_mk28 t_up_same (by omega) (by omega) ⟨by omega, by omega⟩)
          have s45 := m_ST_nd (l := (I 3905)) (show m_ST lo I A lo (w_up (w_up (w_up (w_up I 4033 ((I 4033) + 1)) 4161 ((I 4161) + 1)) 4289 ((I 4289) + 1)) 2774 ((I 2774) + 1)) (w_upF (w_upF (w_upF A 63 g13a) 65 g20a) 67 g26a) from hST2) f40 (show (I 3905) ≤ (I 3905) by omega) (show (I 3905) ≤ (I 3905) by omega)
          have k46 : m_kd (t_up lo v35 (I 3905)) I34a A34a (I 3905) v35 (fun k => k = 28) := m_kd_new f40 (by omega) (by omega) rfl
          have j47 := k46.1
          have rt48 : m_rt (t_up lo v35 (I 3905)) (I34a 3905) v35 := m_rt_new f40
          show w_W _ _ _ (119, [(5, .int (Int32.ofInt ((I 4289)))), (4, .int (Int32.ofInt ((I 4161)))), (0, .ref 43), (1, .int (Int32.ofInt (mark))), (2, .int (Int32.ofInt (n))), (3, .int (Int32.ofInt ((A 46) ((I 2774)))))], [.int (Int32.ofInt (v35))], M33) _
          refine w_fin (r := .inl (some (v35))) (M' := M33) rfl ?_
          exact Or.inl ⟨v35, (t_up lo v35 (I 3905)), I34a, A34a, B34a, C34a, rfl, ⟨by omega, by omega⟩, hR34a, (show m_fx I A I34a A34a by exact f39), (show ((0 ≤ (I34a 2774) ∧ (I34a 2774) < (I34a 2754) ∧ (I34a 2754) ≤ 1501 ∧ 0 ≤ (I34a 2775) ∧ (I34a 2775) ≤ 24) ∧ ((I34a 3393) = (I34a 3905) ∧ (I34a 3521) = (I34a 3905) ∧ (I34a 3649) = (I34a 3905) ∧ (I34a 3777) = (I34a 3905) ∧ 0 ≤ (I34a 3905) ∧ (I34a 3905) ≤ 3 * (I34a 2774)) ∧ ((I34a 4161) = (I34a 4033) ∧ 7 ≤ (I34a 4289) ∧ (I34a 4289) ≤ (I34a 4033) ∧ (I34a 4033) ≤ 7 + (I34a 2774)) ∧ 0 ≤ (I34a 5889) ∧ (I34a 5889) ≤ (I34a 2774)) ∧ ((I34a 2754) = (I 2754) ∧ (I 2774) + 1 ≤ (I34a 2774) ∧ (I34a 2775) = (I 2775) ∧ (I34a 4289) = (I 4289) + 1 ∧ (I34a 5889) = (I 5889)) ∧ ((I34a 3905) + 2 ≤ (I 3905) + 3 * ((I34a 2774) - (I 2774)) ∧ (I 3905) ≤ v35 ∧ v35 + 1 = (I34a 3905) ∧ (I 4033) ≤ (I34a 4033) ∧ (I34a 4033) ≤ (I 4033) + ((I34a 2774) - (I 2774))) by (repeat' apply And.intro) <;> omega), (show m_SC I34a A34a by exact sc43), (show m_TR (t_up lo v35 (I 3905)) I34a A34a by exact tr44), (show m_ST lo I A (t_up lo v35 (I 3905)) I34a A34a by exact s45), (show (fun k => k = 28) ((A34a 53) (v35)) by exact (k46).2), (show m_rt (t_up lo v35 (I 3905)) (I34a 3905) v35 by exact rt48)⟩
        · have h9 : ¬ (n < 32) := h9
          show w_W _ _ _ (62, [(0, .ref 43), (1, .int (Int32.ofInt (mark))), (2, .int (Int32.ofInt (n))), (3, .int (Int32.ofInt ((A 46) ((I 2774))))), (4, .int (Int32.ofInt (y13_4)))], [], M) _
          refine w_adv (n := 2) (F' := (65, [(0, .ref 43), (1, .int (Int32.ofInt (mark))), (2, .int (Int32.ofInt (n))), (3, .int (Int32.ofInt ((A 46) ((I 2774))))), (4, .int (Int32.ofInt (y13_4)))], [.int (Int32.ofInt (6)), .ref 43], M)) rfl ?_
          refine w_call (cm := 232) (as := [(0, .ref 43), (1, .int (Int32.ofInt (6)))]) (rest := []) (o := some (9, 43)) rfl (w_fitR hR rfl) (m_fail (6) hR ⟨by omega, by omega⟩ (show 0 ≤ (I 2774) ∧ (I 2774) < 1501 by omega) (show 1 ≤ 6 ∧ 6 ≤ 7 by first | assumption | omega)) (fun r49 M50 q51 => ?_)
          rcases q51 with ⟨I51a, A51a, B51a, C51a, e52, hR51a, f53⟩
          rw [e52]
          replace hR51a : w_Rep w_TM fr X u l I51a A51a B51a C51a M50 := hR51a
          replace f53 : m_fx I A I51a A51a := f53
          exact Or.inr (⟨I51a, A51a, B51a, C51a, rfl, hR51a, (show m_fx I A I51a A51a by exact f53)⟩)
      · have h8 : ¬ (y13_4 ≥ (I 4289)) := h8
        show w_W _ _ _ (25, [(0, .ref 43), (1, .int (Int32.ofInt (mark))), (2, .int (Int32.ofInt (n))), (3, .int (Int32.ofInt ((A 46) ((I 2774))))), (4, .int (Int32.ofInt (y13_4)))], [], M) _
        refine w_adv (n := 1) (F' := (26, [(0, .ref 43), (1, .int (Int32.ofInt (mark))), (2, .int (Int32.ofInt (n))), (3, .int (Int32.ofInt ((A 46) ((I 2774))))), (4, .int (Int32.ofInt (y13_4)))], [.ref 43], M)) rfl ?_
        refine w_gf (v := .ref 63) hR rfl rfl rfl rfl ?_
        refine w_adv (n := 1) (F' := (30, [(0, .ref 43), (1, .int (Int32.ofInt (mark))), (2, .int (Int32.ofInt (n))), (3, .int (Int32.ofInt ((A 46) ((I 2774))))), (4, .int (Int32.ofInt (y13_4)))], [.ref 43, .ref 63], M)) rfl ?_
        refine w_gf (v := .ref 67) hR rfl rfl rfl rfl ?_
        refine w_adv (n := 1) (F' := (35, [(0, .ref 43), (1, .int (Int32.ofInt (mark))), (2, .int (Int32.ofInt (n))), (3, .int (Int32.ofInt ((A 46) ((I 2774))))), (4, .int (Int32.ofInt (y13_4)))], [.int (Int32.ofInt (y13_4)), .ref 67, .ref 63], M)) rfl ?_
        refine w_call (cm := 238) (as := [(0, .ref 67), (1, .int (Int32.ofInt (y13_4)))]) (rest := [.ref 63]) (o := some (10, 67)) rfl (w_fitR hR rfl) (m_get (y13_4) 67 (by decide) rfl hR ⟨by omega, by omega⟩ (show 0 ≤ y13_4 by first | assumption | omega) (show y13_4 < (C 67 : Int) by first | assumption | omega)) (fun r54 M55 q56 => ?_)
        rcases q56 with ⟨e57, e58⟩
        rw [e57, e58]
        obtain ⟨r59, r60⟩ : -2147483648 ≤ (A 67) (y13_4) ∧ (A 67) (y13_4) ≤ 2147483647 := hR.ra 67 (y13_4)
        obtain ⟨u1, u2⟩ := hSC.1 (y13_4) (by omega) (by omega)
        show w_W _ _ _ (38, [(0, .ref 43), (1, .int (Int32.ofInt (mark))), (2, .int (Int32.ofInt (n))), (3, .int (Int32.ofInt ((A 46) ((I 2774))))), (4, .int (Int32.ofInt (y13_4)))], [.int (Int32.ofInt ((A 67) (y13_4))), .ref 63], M) _
        obtain ⟨r61a, r61b, r61c⟩ : 0 ≤ (I 4033) ∧ (I 4033) ≤ (C 63 : Int) ∧ (C 63 : Int) ≤ 131072 := hR.sz (show 63 ∈ w_TM.2.2 by decide)
        refine w_call (cm := 238) (as := [(0, .ref 63), (1, .int (Int32.ofInt ((A 67) (y13_4))))]) (rest := []) (o := some (10, 63)) rfl (w_fitR hR rfl) (m_get ((A 67) (y13_4)) 63 (by decide) rfl hR ⟨by omega, by omega⟩ (show 0 ≤ (A 67) (y13_4) by first | assumption | omega) (show (A 67) (y13_4) < (C 63 : Int) by first | assumption | omega)) (fun r62 M63 q64 => ?_)
        rcases q64 with ⟨e65, e66⟩
        rw [e65, e66]
        obtain ⟨r67, r68⟩ : -2147483648 ≤ (A 63) ((A 67) (y13_4)) ∧ (A 63) ((A 67) (y13_4)) ≤ 2147483647 := hR.ra 63 ((A 67) (y13_4))
        show w_W _ _ _ (41, [(0, .ref 43), (1, .int (Int32.ofInt (mark))), (2, .int (Int32.ofInt (n))), (3, .int (Int32.ofInt ((A 46) ((I 2774))))), (4, .int (Int32.ofInt (y13_4)))], [.int (Int32.ofInt ((A 63) ((A 67) (y13_4))))], M) _
        refine w_adv (n := 1) (F' := (42, [(0, .ref 43), (1, .int (Int32.ofInt (mark))), (2, .int (Int32.ofInt (n))), (3, .int (Int32.ofInt ((A 46) ((I 2774))))), (4, .int (Int32.ofInt (y13_4)))], [.int (Int32.ofInt ((A 46) ((I 2774)))), .int (Int32.ofInt ((A 63) ((A 67) (y13_4))))], M)) rfl ?_
        refine w_br2 (a := (A 63) ((A 67) (y13_4))) (b := (A 46) ((I 2774))) rfl rfl ⟨by omega, by omega⟩ ⟨by omega, by omega⟩ (fun h69 => ?_) (fun h69 => ?_)
        · have h69 : ¬ (A 63) ((A 67) (y13_4)) = (A 46) ((I 2774)) := h69
          show w_W _ _ _ (50, [(0, .ref 43), (1, .int (Int32.ofInt (mark))), (2, .int (Int32.ofInt (n))), (3, .int (Int32.ofInt ((A 46) ((I 2774))))), (4, .int (Int32.ofInt (y13_4)))], [], M) _
          refine w_inc (nL := 6) (a := y13_4) rfl rfl rfl (by decide) ?_
          refine w_adv (n := 1) (F' := (13, [(4, .int (Int32.ofInt (y13_4 + 1))), (0, .ref 43), (1, .int (Int32.ofInt (mark))), (2, .int (Int32.ofInt (n))), (3, .int (Int32.ofInt ((A 46) ((I 2774)))))], [], M)) rfl ?_
          refine w_ls (ls := [(0, .ref 43), (1, .int (Int32.ofInt (mark))), (2, .int (Int32.ofInt (n))), (3, .int (Int32.ofInt ((A 46) ((I 2774))))), (4, .int (Int32.ofInt (y13_4 + 1)))]) (show List.Nodup [0, 1, 2, 3, 4] by decide) (show List.Nodup [4, 0, 1, 2, 3] by decide) (List.forall_mem_cons.mpr ⟨(List.Mem.tail _ (List.Mem.head _)), (List.forall_mem_cons.mpr ⟨(List.Mem.tail _ (List.Mem.tail _ (List.Mem.head _))), (List.forall_mem_cons.mpr ⟨(List.Mem.tail _ (List.Mem.tail _ (List.Mem.tail _ (List.Mem.head _)))), (List.forall_mem_cons.mpr ⟨(List.Mem.tail _ (List.Mem.tail _ (List.Mem.tail _ (List.Mem.tail _ (List.Mem.head _))))), (List.forall_mem_cons.mpr ⟨(List.Mem.head _), (fun _ h => by cases h)⟩)⟩)⟩)⟩)⟩) ?_
          exact ih13  (y13_4 + 1) ⟨by omega, by omega⟩ (show 0 ≤ y13_4 + 1 by first | assumption | omega) (by omega)
        · have h69 : ¬ (¬ (A 63) ((A 67) (y13_4)) = (A 46) ((I 2774))) := h69
          show w_W _ _ _ (45, [(0, .ref 43), (1, .int (Int32.ofInt (mark))), (2, .int (Int32.ofInt (n))), (3, .int (Int32.ofInt ((A 46) ((I 2774))))), (4, .int (Int32.ofInt (y13_4)))], [], M) _
          refine w_adv (n := 2) (F' := (47, [(0, .ref 43), (1, .int (Int32.ofInt (mark))), (2, .int (Int32.ofInt (n))), (3, .int (Int32.ofInt ((A 46) ((I 2774))))), (4, .int (Int32.ofInt (y13_4)))], [.int (Int32.ofInt (4)), .ref 43], M)) rfl ?_
          refine w_call (cm := 232) (as := [(0, .ref 43), (1, .int (Int32.ofInt (4)))]) (rest := []) (o := some (9, 43)) rfl (w_fitR hR rfl) (m_fail (4) hR ⟨by omega, by omega⟩ (show 0 ≤ (I 2774) ∧ (I 2774) < 1501 by omega) (show 1 ≤ 4 ∧ 4 ≤ 7 by first | assumption | omega)) (fun r70 M71 q72 => ?_)
          rcases q72 with ⟨I72a, A72a, B72a, C72a, e73, hR72a, f74⟩
          rw [e73]
          replace hR72a : w_Rep w_TM fr X u l I72a A72a B72a C72a M71 := hR72a
          replace f74 : m_fx I A I72a A72a := f74
          exact Or.inr (⟨I72a, A72a, B72a, C72a, rfl, hR72a, (show m_fx I A I72a A72a by exact f74)⟩)
  refine w_ls (ls := [(0, .ref 43), (1, .int (Int32.ofInt (mark))), (2, .int (Int32.ofInt (n))), (3, .int (Int32.ofInt ((A 46) ((I 2774))))), (4, .int (Int32.ofInt (mark)))]) (show List.Nodup [0, 1, 2, 3, 4] by decide) (show List.Nodup [4, 3, 0, 1, 2] by decide) (List.forall_mem_cons.mpr ⟨(List.Mem.tail _ (List.Mem.tail _ (List.Mem.head _))), (List.forall_mem_cons.mpr ⟨(List.Mem.tail _ (List.Mem.tail _ (List.Mem.tail _ (List.Mem.head _)))), (List.forall_mem_cons.mpr ⟨(List.Mem.tail _ (List.Mem.tail _ (List.Mem.tail _ (List.Mem.tail _ (List.Mem.head _))))), (List.forall_mem_cons.mpr ⟨(List.Mem.tail _ (List.Mem.head _)), (List.forall_mem_cons.mpr ⟨(List.Mem.head _), (fun _ h => by cases h)⟩)⟩)⟩)⟩)⟩) ?_
  exact lp13 (((if mark < (I 4289) then (I 4289) - mark else 0)).toNat + 1)  (mark) ⟨by omega, by omega⟩ (show 0 ≤ mark by first | assumption | omega) (by omega)
