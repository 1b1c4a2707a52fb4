def m_procedure_Q (fr : Nat → Bool) (X : Nat → Option (q_C (Nat → Int32))) (u l : Nat) (I : Nat → Int) (A : Nat → Int → Int) (B C : Nat → Nat) (M : w_M) (lo : Int → Int) : w_X → w_M → Prop := fun r M' => (∃ v : Int, ∃ lo' : Int → Int, ∃ (I' : Nat → Int) (A' : Nat → Int → Int) (B' C' : Nat → Nat), (r = .inl (some v)) ∧ (w_in v) ∧ (w_Rep w_TM fr X u l I' A' B' C' M') ∧ (m_fx I A I' A') ∧ (((0 ≤ (I' 2774) ∧ (I' 2774) < (I' 2754) ∧ (I' 2754) ≤ 1501 ∧ 0 ≤ (I' 2775) ∧ (I' 2775) ≤ 24) ∧ ((I' 3393) = (I' 3905) ∧ (I' 3521) = (I' 3905) ∧ (I' 3649) = (I' 3905) ∧ (I' 3777) = (I' 3905) ∧ 0 ≤ (I' 3905) ∧ (I' 3905) ≤ 3 * (I' 2774)) ∧ ((I' 4161) = (I' 4033) ∧ 7 ≤ (I' 4289) ∧ (I' 4289) ≤ (I' 4033) ∧ (I' 4033) ≤ 7 + (I' 2774)) ∧ 0 ≤ (I' 5889) ∧ (I' 5889) ≤ (I' 2774)) ∧ ((I' 2754) = (I 2754) ∧ (I 2774) + 1 ≤ (I' 2774) ∧ (I' 2775) = (I 2775) ∧ (I' 4289) = (I 4289) + 0 ∧ (I' 5889) = (I 5889)) ∧ ((I' 3905) + 2 ≤ (I 3905) + 3 * ((I' 2774) - (I 2774)) ∧ (I 3905) ≤ v ∧ v + 1 = (I' 3905) ∧ (I 4033) ≤ (I' 4033) ∧ (I' 4033) ≤ (I 4033) + ((I' 2774) - (I 2774)))) ∧ (m_SC I' A') ∧ (m_TR lo' I' A') ∧ (m_ST lo I A lo' I' A') ∧ (t_E ((A' 53) (v))) ∧ (m_rt lo' (I' 3905) v)) ∨ (∃ (I' : Nat → Int) (A' : Nat → Int → Int) (B' C' : Nat → Nat), (r = .inr 69) ∧ (w_Rep w_TM fr X u l I' A' B' C' M') ∧ (m_fx I A I' A'))
set_option maxRecDepth 100000 in
theorem m_procedure {L : Nat} {xs : Nat → Int32} {d : Nat} {fr : Nat → Bool} {X : Nat → Option (q_C (Nat → Int32))} {u l : Nat} {I : Nat → Int} {A : Nat → Int → Int} {B C : Nat → Nat} {M : w_M} {N : Int} (hA : m_all L xs N) (lo : Int → Int) (hR : w_Rep w_TM fr X u l I A B C M) (hd : 20 * (24 - (I 2775)) + 11 ≤ (d : Int)) (hTK : m_TK I A) (hNU : (0 ≤ (I 2774) ∧ (I 2774) < (I 2754) ∧ (I 2754) ≤ 1501 ∧ 0 ≤ (I 2775) ∧ (I 2775) ≤ 24) ∧ ((I 3393) = (I 3905) ∧ (I 3521) = (I 3905) ∧ (I 3649) = (I 3905) ∧ (I 3777) = (I 3905) ∧ 0 ≤ (I 3905) ∧ (I 3905) ≤ 3 * (I 2774)) ∧ ((I 4161) = (I 4033) ∧ 7 ≤ (I 4289) ∧ (I 4289) ≤ (I 4033) ∧ (I 4033) ≤ 7 + (I 2774)) ∧ 0 ≤ (I 5889) ∧ (I 5889) ≤ (I 2774)) (hSC : m_SC I A) (hTR : m_TR lo I A) (hk : 1 ≤ (A 45) ((I 2774)) ∧ (A 45) ((I 2774)) ≤ 6) (hm : (I 2754) - (I 2774) ≤ N) : w_W (z_P L xs) d 267 (0, [(0, .ref 43)], [], M) (m_procedure_Q fr X u l I A B C M lo) := by
  obtain ⟨d, rfl⟩ : ∃ d0, d = d0 + 1 := ⟨d - 1, by omega⟩
  have wl : (I 2774) + 1 < (I 2754) := m_TK_lt hTK (by omega) (by omega) (by omega)
  refine w_adv (n := 2) (F' := (3, [(0, .ref 43)], [.int (Int32.ofInt (11)), .ref 43], M)) rfl ?_
  refine w_call (cm := 231) (as := [(0, .ref 43), (1, .int (Int32.ofInt (11)))]) (rest := []) (o := some (9, 43)) rfl (w_fitR hR rfl) (m_isWord (11) hR ⟨by omega, by omega⟩ (show 0 ≤ (I 2774) ∧ (I 2774) < 1501 by omega)) (fun r1 M2 q3 => ?_)
  rcases q3 with ⟨e4, e5, f6⟩ | ⟨e7, e8, f9⟩
  · rw [e4, e5]
    replace f6 : (A 45) ((I 2774)) = 5 ∧ (A 46) ((I 2774)) = 11 := f6
    have w10 : (I 2774) + 1 < (I 2754) := m_TK_lt hTK (by omega) (by omega) (by omega)
    show w_W _ _ _ (6, [(0, .ref 43)], [.int (Int32.ofInt (1))], M) _
    refine w_adv (n := 2) (F' := (8, [(1, .int (Int32.ofInt (1))), (0, .ref 43)], [.ref 43], M)) rfl ?_
    refine w_gf (v := .ref 67) hR rfl rfl rfl rfl ?_
    refine w_gf (v := .int (Int32.ofInt ((I 4289)))) hR rfl rfl rfl rfl ?_
    obtain ⟨r11, r12⟩ : -2147483648 ≤ (I 4289) ∧ (I 4289) ≤ 2147483647 := hR.ri 4289
    obtain ⟨r13a, r13b, r13c⟩ : 0 ≤ (I 4289) ∧ (I 4289) ≤ (C 67 : Int) ∧ (C 67 : Int) ≤ 131072 := hR.sz (show 67 ∈ w_TM.2.2 by decide)
    refine w_adv (n := 2) (F' := (16, [(2, .int (Int32.ofInt ((I 4289)))), (1, .int (Int32.ofInt (1))), (0, .ref 43)], [.ref 43], M)) rfl ?_
    refine w_call (cm := 235) (as := [(0, .ref 43)]) (rest := []) (o := some (9, 43)) rfl (w_fitR hR rfl) (m_enter hR (show 2 ≤ d by omega) (show 0 ≤ (I 2774) ∧ (I 2774) < 1501 by omega) (show 0 ≤ (I 2775) ∧ (I 2775) ≤ 24 by first | assumption | omega)) (fun r14 M15 q16 => ?_)
    rcases q16 with ⟨e17, hR16a, f18⟩ | ⟨I16b, A16b, B16b, C16b, e19, hR16b, f20⟩
    · rw [e17]
      replace hR16a : w_Rep w_TM fr X u l (w_up (w_up I 2775 ((I 2775) + 1)) 2774 ((I 2774) + 1)) A B C M15 := hR16a
      replace f18 : (I 2775) < 24 := f18
      have w21 : (I 2774) + 1 < (I 2754) := m_TK_lt hTK (show (I 2774) < (I 2754) by omega) (show 1 ≤ (A 45) ((I 2774)) by omega) (show (A 45) ((I 2774)) ≤ 6 by omega)
      show w_W _ _ _ (19, [(2, .int (Int32.ofInt ((I 4289)))), (1, .int (Int32.ofInt (1))), (0, .ref 43)], [], M15) _
      refine w_adv (n := 2) (F' := (22, [(2, .int (Int32.ofInt ((I 4289)))), (1, .int (Int32.ofInt (1))), (0, .ref 43)], [.int (Int32.ofInt (123)), .ref 43], M15)) rfl ?_
      refine w_call (cm := 230) (as := [(0, .ref 43), (1, .int (Int32.ofInt (123)))]) (rest := []) (o := some (9, 43)) rfl (w_fitR hR16a rfl) (m_isSign (123) hR16a ⟨by omega, by omega⟩ (show 0 ≤ (I 2774) + 1 ∧ (I 2774) + 1 < 1501 by omega)) (fun r22 M23 q24 => ?_)
      rcases q24 with ⟨e25, e26, f27⟩ | ⟨e28, e29, f30⟩
      · rw [e25, e26]
        replace f27 : (A 45) ((I 2774) + 1) = 6 ∧ (A 46) ((I 2774) + 1) = 123 := f27
        have w31 : ((I 2774) + 1) + 1 < (I 2754) := m_TK_lt hTK (by omega) (by omega) (by omega)
        show w_W _ _ _ (25, [(2, .int (Int32.ofInt ((I 4289)))), (1, .int (Int32.ofInt (1))), (0, .ref 43)], [.int (Int32.ofInt (1))], M15) _
        refine w_adv (n := 2) (F' := (34, [(2, .int (Int32.ofInt ((I 4289)))), (1, .int (Int32.ofInt (1))), (0, .ref 43)], [.ref 43], M15)) rfl ?_
        refine w_call (cm := 235) (as := [(0, .ref 43)]) (rest := []) (o := some (9, 43)) rfl (w_fitR hR16a rfl) (m_enter hR16a (show 2 ≤ d by omega) (show 0 ≤ (I 2774) + 1 ∧ (I 2774) + 1 < 1501 by omega) (show 0 ≤ (I 2775) + 1 ∧ (I 2775) + 1 ≤ 24 by first | assumption | omega)) (fun r32 M33 q34 => ?_)
        rcases q34 with ⟨e35, hR34a, f36⟩ | ⟨I34b, A34b, B34b, C34b, e37, hR34b, f38⟩
        · rw [e35]
          replace hR34a : w_Rep w_TM fr X u l (w_up (w_up I 2775 ((I 2775) + 1 + 1)) 2774 ((I 2774) + 1 + 1)) A B C M33 := hR34a
          replace f36 : (I 2775) + 1 < 24 := f36
          have w39 : ((I 2774) + 1) + 1 < (I 2754) := m_TK_lt hTK (show (I 2774) + 1 < (I 2754) by omega) (show 1 ≤ (A 45) ((I 2774) + 1) by omega) (show (A 45) ((I 2774) + 1) ≤ 6 by omega)
          show w_W _ _ _ (37, [(2, .int (Int32.ofInt ((I 4289)))), (1, .int (Int32.ofInt (1))), (0, .ref 43)], [], M33) _
          refine w_adv (n := 1) (F' := (38, [(2, .int (Int32.ofInt ((I 4289)))), (1, .int (Int32.ofInt (1))), (0, .ref 43)], [.ref 43], M33)) rfl ?_
          refine w_call (cm := 236) (as := [(0, .ref 43)]) (rest := []) (o := some (9, 43)) rfl (w_fitR hR34a rfl) (m_binds (lo) hR34a (show 20 * (24 - ((I 2775) + 1 + 1)) + 8 ≤ (d : Int) by omega) (show m_TK (w_up (w_up I 2775 ((I 2775) + 1 + 1)) 2774 ((I 2774) + 1 + 1)) A by exact hTK) (show (0 ≤ (I 2774) + 1 + 1 ∧ (I 2774) + 1 + 1 < (I 2754) ∧ (I 2754) ≤ 1501 ∧ 0 ≤ (I 2775) + 1 + 1 ∧ (I 2775) + 1 + 1 ≤ 24) ∧ ((I 3393) = (I 3905) ∧ (I 3521) = (I 3905) ∧ (I 3649) = (I 3905) ∧ (I 3777) = (I 3905) ∧ 0 ≤ (I 3905) ∧ (I 3905) ≤ 3 * ((I 2774) + 1 + 1)) ∧ ((I 4161) = (I 4033) ∧ 7 ≤ (I 4289) ∧ (I 4289) ≤ (I 4033) ∧ (I 4033) ≤ 7 + ((I 2774) + 1 + 1)) ∧ 0 ≤ (I 5889) ∧ (I 5889) ≤ (I 2774) + 1 + 1 by (repeat' apply And.intro) <;> omega) (show m_SC (w_up (w_up I 2775 ((I 2775) + 1 + 1)) 2774 ((I 2774) + 1 + 1)) A by exact hSC) (show m_TR lo (w_up (w_up I 2775 ((I 2775) + 1 + 1)) 2774 ((I 2774) + 1 + 1)) A by exact hTR)) (fun r40 M41 q42 => ?_)
          rcases q42 with ⟨v43, lo44, I42a, A42a, B42a, C42a, e45, ⟨r46, r47⟩, hR42a, f48, f49, f50, f51, f52, f53, f54⟩ | ⟨I42b, A42b, B42b, C42b, e55, hR42b, f56⟩
          · rw [e45]
            replace hR42a : w_Rep w_TM fr X u l I42a A42a B42a C42a M41 := hR42a
            replace f48 : m_fx (w_up (w_up I 2775 ((I 2775) + 1 + 1)) 2774 ((I 2774) + 1 + 1)) A I42a A42a := f48
            replace f49 : ((0 ≤ (I42a 2774) ∧ (I42a 2774) < (I42a 2754) ∧ (I42a 2754) ≤ 1501 ∧ 0 ≤ (I42a 2775) ∧ (I42a 2775) ≤ 24) ∧ ((I42a 3393) = (I42a 3905) ∧ (I42a 3521) = (I42a 3905) ∧ (I42a 3649) = (I42a 3905) ∧ (I42a 3777) = (I42a 3905) ∧ 0 ≤ (I42a 3905) ∧ (I42a 3905) ≤ 3 * (I42a 2774)) ∧ ((I42a 4161) = (I42a 4033) ∧ 7 ≤ (I42a 4289) ∧ (I42a 4289) ≤ (I42a 4033) ∧ (I42a 4033) ≤ 7 + (I42a 2774)) ∧ 0 ≤ (I42a 5889) ∧ (I42a 5889) ≤ (I42a 2774)) ∧ ((I42a 2754) = (I 2754) ∧ ((I 2774) + 1 + 1) + 0 ≤ (I42a 2774) ∧ (I42a 2775) = (I 2775) + 1 + 1 ∧ (I 4289) ≤ (I42a 4289) ∧ (I42a 5889) = (I 5889)) ∧ ((I42a 3905) + 0 ≤ (I 3905) + 3 * ((I42a 2774) - ((I 2774) + 1 + 1)) ∧ (I 3905) ≤ (I42a 3905) ∧ -1 ≤ v43 ∧ v43 < (I42a 3905) ∧ (I 4033) ≤ (I42a 4033) ∧ (I42a 4033) ≤ (I 4033) + ((I42a 2774) - ((I 2774) + 1 + 1))) := f49
            replace f50 : m_SC I42a A42a := f50
            replace f51 : m_TR lo44 I42a A42a := f51
            replace f52 : m_ST lo (w_up (w_up I 2775 ((I 2775) + 1 + 1)) 2774 ((I 2774) + 1 + 1)) A lo44 I42a A42a := f52
            replace f53 : v43 = -1 ∨ m_kd lo44 I42a A42a (I 3905) v43 (fun k => k = 28) := f53
            replace f54 : v43 = -1 ∨ m_rt lo44 (I42a 3905) v43 := f54
            have tk57 : m_TK I42a A42a := m_TK_fx f48 hTK
            have s58 : m_ST lo I A lo44 I42a A42a := f52
            show w_W _ _ _ (41, [(2, .int (Int32.ofInt ((I 4289)))), (1, .int (Int32.ofInt (1))), (0, .ref 43)], [.int (Int32.ofInt (v43))], M41) _
            refine w_adv (n := 3) (F' := (45, [(3, .int (Int32.ofInt (v43))), (2, .int (Int32.ofInt ((I 4289)))), (1, .int (Int32.ofInt (1))), (0, .ref 43)], [.int (Int32.ofInt (125)), .ref 43], M41)) rfl ?_
            refine w_call (cm := 264) (as := [(0, .ref 43), (1, .int (Int32.ofInt (125)))]) (rest := []) (o := some (9, 43)) rfl (w_fitR hR42a rfl) (m_closeSign (125) hR42a (show 3 ≤ d by omega) ⟨by omega, by omega⟩ (show 0 ≤ (I42a 2774) ∧ (I42a 2774) < 1501 by omega) (show 1 ≤ (I42a 2775) ∧ (I42a 2775) ≤ 24 by first | assumption | omega)) (fun r59 M60 q61 => ?_)
            rcases q61 with ⟨e62, hR61a, f63⟩ | ⟨I61b, A61b, B61b, C61b, e64, hR61b, f65⟩
            · rw [e62]
              replace hR61a : w_Rep w_TM fr X u l (w_up (w_up I42a 2774 ((I42a 2774) + 1)) 2775 ((I42a 2775) - 1)) A42a B42a C42a M60 := hR61a
              replace f63 : (A42a 45) ((I42a 2774)) = 6 ∧ (A42a 46) ((I42a 2774)) = 125 := f63
              have w66 : (I42a 2774) + 1 < (I42a 2754) := m_TK_lt tk57 (show (I42a 2774) < (I42a 2754) by omega) (show 1 ≤ (A42a 45) ((I42a 2774)) by omega) (show (A42a 45) ((I42a 2774)) ≤ 6 by omega)
              show w_W _ _ _ (48, [(3, .int (Int32.ofInt (v43))), (2, .int (Int32.ofInt ((I 4289)))), (1, .int (Int32.ofInt (1))), (0, .ref 43)], [], M60) _
              refine w_adv (n := 3) (F' := (53, [(3, .int (Int32.ofInt (v43))), (2, .int (Int32.ofInt ((I 4289)))), (1, .int (Int32.ofInt (1))), (0, .ref 43)], [.ref 43], M60)) rfl ?_
              refine w_call (cm := 243) (as := [(0, .ref 43)]) (rest := []) (o := some (9, 43)) rfl (w_fitR hR61a rfl) (hA.2.2 (lo44) hR61a (show 20 * (24 - ((I42a 2775) - 1)) + 20 ≤ (d : Int) by omega) (show m_TK (w_up (w_up I42a 2774 ((I42a 2774) + 1)) 2775 ((I42a 2775) - 1)) A42a by exact tk57) (show (0 ≤ (I42a 2774) + 1 ∧ (I42a 2774) + 1 < (I42a 2754) ∧ (I42a 2754) ≤ 1501 ∧ 0 ≤ (I42a 2775) - 1 ∧ (I42a 2775) - 1 ≤ 24) ∧ ((I42a 3393) = (I42a 3905) ∧ (I42a 3521) = (I42a 3905) ∧ (I42a 3649) = (I42a 3905) ∧ (I42a 3777) = (I42a 3905) ∧ 0 ≤ (I42a 3905) ∧ (I42a 3905) ≤ 3 * ((I42a 2774) + 1)) ∧ ((I42a 4161) = (I42a 4033) ∧ 7 ≤ (I42a 4289) ∧ (I42a 4289) ≤ (I42a 4033) ∧ (I42a 4033) ≤ 7 + ((I42a 2774) + 1)) ∧ 0 ≤ (I42a 5889) ∧ (I42a 5889) ≤ (I42a 2774) + 1 by (repeat' apply And.intro) <;> omega) (show m_SC (w_up (w_up I42a 2774 ((I42a 2774) + 1)) 2775 ((I42a 2775) - 1)) A42a by exact f50) (show m_TR lo44 (w_up (w_up I42a 2774 ((I42a 2774) + 1)) 2775 ((I42a 2775) - 1)) A42a by exact f51) (show (I42a 2754) - ((I42a 2774) + 1) < N by first | assumption | omega)) (fun r67 M68 q69 => ?_)
              rcases q69 with ⟨v70, lo71, I69a, A69a, B69a, C69a, e72, ⟨r73, r74⟩, hR69a, f75, f76, f77, f78, f79, f80, f81⟩ | ⟨I69b, A69b, B69b, C69b, e82, hR69b, f83⟩
              · rw [e72]
                replace hR69a : w_Rep w_TM fr X u l I69a A69a B69a C69a M68 := hR69a
                replace f75 : m_fx (w_up (w_up I42a 2774 ((I42a 2774) + 1)) 2775 ((I42a 2775) - 1)) A42a I69a A69a := f75
                replace f76 : ((0 ≤ (I69a 2774) ∧ (I69a 2774) < (I69a 2754) ∧ (I69a 2754) ≤ 1501 ∧ 0 ≤ (I69a 2775) ∧ (I69a 2775) ≤ 24) ∧ ((I69a 3393) = (I69a 3905) ∧ (I69a 3521) = (I69a 3905) ∧ (I69a 3649) = (I69a 3905) ∧ (I69a 3777) = (I69a 3905) ∧ 0 ≤ (I69a 3905) ∧ (I69a 3905) ≤ 3 * (I69a 2774)) ∧ ((I69a 4161) = (I69a 4033) ∧ 7 ≤ (I69a 4289) ∧ (I69a 4289) ≤ (I69a 4033) ∧ (I69a 4033) ≤ 7 + (I69a 2774)) ∧ 0 ≤ (I69a 5889) ∧ (I69a 5889) ≤ (I69a 2774)) ∧ ((I69a 2754) = (I42a 2754) ∧ ((I42a 2774) + 1) + 1 ≤ (I69a 2774) ∧ (I69a 2775) = (I42a 2775) - 1 ∧ (I69a 4289) = (I42a 4289) + 0 ∧ (I69a 5889) = (I42a 5889)) ∧ ((I69a 3905) + 1 ≤ (I42a 3905) + 3 * ((I69a 2774) - ((I42a 2774) + 1)) ∧ (I42a 3905) ≤ v70 ∧ v70 + 1 = (I69a 3905) ∧ (I42a 4033) ≤ (I69a 4033) ∧ (I69a 4033) ≤ (I42a 4033) + ((I69a 2774) - ((I42a 2774) + 1))) := f76
                replace f77 : m_SC I69a A69a := f77
                replace f78 : m_TR lo71 I69a A69a := f78
                replace f79 : m_ST lo44 (w_up (w_up I42a 2774 ((I42a 2774) + 1)) 2775 ((I42a 2775) - 1)) A42a lo71 I69a A69a := f79
                replace f80 : (fun k => k = 19) ((A69a 53) (v70)) := f80
                replace f81 : m_rt lo71 (I69a 3905) v70 := f81
                have tk84 : m_TK I69a A69a := m_TK_fx f75 tk57
                have s85 : m_ST lo I A lo71 I69a A69a := m_ST_trans (show m_ST lo I A lo44 (w_up (w_up I42a 2774 ((I42a 2774) + 1)) 2775 ((I42a 2775) - 1)) A42a from s58) f79 (by omega) (by omega) (by omega) (by omega)
                have o86 := f53.imp_right (fun q => m_kd_ST f79 (by omega) q)
                have k87 : m_kd lo71 I69a A69a (I42a 3905) v70 (fun k => k = 19) := m_kd_of f79 f78 (by omega) (by omega) (by omega) f80
                have j88 := k87.1
                show w_W _ _ _ (56, [(3, .int (Int32.ofInt (v43))), (2, .int (Int32.ofInt ((I 4289)))), (1, .int (Int32.ofInt (1))), (0, .ref 43)], [.int (Int32.ofInt (v70))], M68) _
                refine w_adv (n := 4) (F' := (67, [(4, .int (Int32.ofInt (v70))), (3, .int (Int32.ofInt (v43))), (2, .int (Int32.ofInt ((I 4289)))), (1, .int (Int32.ofInt (1))), (0, .ref 43)], [.int (Int32.ofInt (3)), .ref 43], M68)) rfl ?_
                refine w_call (cm := 244) (as := [(0, .ref 43), (1, .int (Int32.ofInt (3)))]) (rest := []) (o := some (9, 43)) rfl (w_fitR hR69a rfl) (m_closeWord (3) hR69a (show 3 ≤ d by omega) ⟨by omega, by omega⟩ (show 0 ≤ (I69a 2774) ∧ (I69a 2774) < 1501 by omega) (show 1 ≤ (I69a 2775) ∧ (I69a 2775) ≤ 24 by first | assumption | omega)) (fun r89 M90 q91 => ?_)
                rcases q91 with ⟨e92, hR91a, f93⟩ | ⟨I91b, A91b, B91b, C91b, e94, hR91b, f95⟩
                · rw [e92]
                  replace hR91a : w_Rep w_TM fr X u l (w_up (w_up I69a 2774 ((I69a 2774) + 1)) 2775 ((I69a 2775) - 1)) A69a B69a C69a M90 := hR91a
                  replace f93 : (A69a 45) ((I69a 2774)) = 5 ∧ (A69a 46) ((I69a 2774)) = 3 := f93
                  have w96 : (I69a 2774) + 1 < (I69a 2754) := m_TK_lt tk84 (show (I69a 2774) < (I69a 2754) by omega) (show 1 ≤ (A69a 45) ((I69a 2774)) by omega) (show (A69a 45) ((I69a 2774)) ≤ 6 by omega)
                  show w_W _ _ _ (70, [(4, .int (Int32.ofInt (v70))), (3, .int (Int32.ofInt (v43))), (2, .int (Int32.ofInt ((I 4289)))), (1, .int (Int32.ofInt (1))), (0, .ref 43)], [], M90) _
                  refine w_adv (n := 1) (F' := (71, [(4, .int (Int32.ofInt (v70))), (3, .int (Int32.ofInt (v43))), (2, .int (Int32.ofInt ((I 4289)))), (1, .int (Int32.ofInt (1))), (0, .ref 43)], [.ref 43], M90)) rfl ?_
                  refine w_gf (v := .ref 67) hR91a rfl rfl rfl rfl ?_
                  refine w_adv (n := 1) (F' := (75, [(4, .int (Int32.ofInt (v70))), (3, .int (Int32.ofInt (v43))), (2, .int (Int32.ofInt ((I 4289)))), (1, .int (Int32.ofInt (1))), (0, .ref 43)], [.int (Int32.ofInt ((I 4289))), .ref 67], M90)) rfl ?_
                  refine w_pf hR91a rfl rfl rfl rfl (show w_in ((I 4289)) from ⟨by omega, by omega⟩) (fun _ _ => (show 0 ≤ (I 4289) ∧ (I 4289) ≤ (C69a 67 : Int) by omega)) (fun M97 hR98 => ?_)
                  replace hR98 : w_Rep w_TM fr X u l (w_up (w_up (w_up I69a 2774 ((I69a 2774) + 1)) 2775 ((I69a 2775) - 1)) 4289 ((I 4289))) A69a B69a C69a M97 := hR98
                  have sc99 : m_SC (w_up (w_up (w_up I69a 2774 ((I69a 2774) + 1)) 2775 ((I69a 2775) - 1)) 4289 ((I 4289))) A69a := m_SC_cut f77 (show (I 4289) ≤ (I69a 4289) by omega) rfl rfl
                  refine w_adv (n := 8) (F' := (94, [(4, .int (Int32.ofInt (v70))), (3, .int (Int32.ofInt (v43))), (2, .int (Int32.ofInt ((I 4289)))), (1, .int (Int32.ofInt (1))), (0, .ref 43)], [.int (Int32.ofInt (0)), .int (Int32.ofInt (v70)), .int (Int32.ofInt (v43)), .int (Int32.ofInt (13)), .ref 43], M97)) rfl ?_
                  refine w_call (cm := 239) (as := [(0, .ref 43), (1, .int (Int32.ofInt (13))), (2, .int (Int32.ofInt (v43))), (3, .int (Int32.ofInt (v70))), (4, .int (Int32.ofInt (0)))]) (rest := []) (o := some (9, 43)) rfl (w_fitR hR98 rfl) (m_node (13) (v43) (v70) (0) hR98 (show 2 ≤ d by omega) ⟨by omega, by omega⟩ ⟨by omega, by omega⟩ ⟨by omega, by omega⟩ ⟨by omega, by omega⟩ (show (I69a 3393) = (I69a 3905) by first | assumption | omega) (show (I69a 3521) = (I69a 3905) by first | assumption | omega) (show (I69a 3649) = (I69a 3905) by first | assumption | omega) (show (I69a 3777) = (I69a 3905) by first | assumption | omega) (show (I69a 3905) < 65536 by first | assumption | omega)) (fun r100 M101 q102 => ?_)
                  rcases q102 with ⟨v103, I102a, A102a, B102a, C102a, e104, ⟨r105, r106⟩, hR102a, f107, f108⟩
                  rw [e104]
                  replace hR102a : w_Rep w_TM fr X u l I102a A102a B102a C102a M101 := hR102a
                  replace f107 : m_fx (w_up (w_up (w_up I69a 2774 ((I69a 2774) + 1)) 2775 ((I69a 2775) - 1)) 4289 ((I 4289))) A69a I102a A102a := f107
                  replace f108 : m_nd (w_up (w_up (w_up I69a 2774 ((I69a 2774) + 1)) 2775 ((I69a 2775) - 1)) 4289 ((I 4289))) A69a I102a A102a v103 13 v43 v70 0 := f108
                  have j109 : (v103 = (I69a 3905) ∧ (I102a 3905) = (I69a 3905) + 1 ∧ (I102a 3393) = (I69a 3393) + 1 ∧ (I102a 3521) = (I69a 3521) + 1 ∧ (I102a 3649) = (I69a 3649) + 1 ∧ (I102a 3777) = (I69a 3777) + 1) ∧ ((I102a 2774) = (I69a 2774) + 1 ∧ (I102a 2754) = (I69a 2754) ∧ (I102a 2775) = (I69a 2775) - 1 ∧ (I102a 4289) = (I 4289) ∧ (I102a 4033) = (I69a 4033) ∧ (I102a 4161) = (I69a 4161) ∧ (I102a 5889) = (I69a 5889)) := m_nd_num f108
                  have tk110 : m_TK I102a A102a := m_TK_fx f107 tk84
                  have sc111 := m_SC_nd f108 sc99
                  have tr112 : m_TR (t_up lo71 v103 (I 3905)) I102a A102a := m_TR_nd (show m_TR lo71 (w_up (w_up (w_up I69a 2774 ((I69a 2774) + 1)) 2775 ((I69a 2775) - 1)) 4289 ((I 4289))) A69a from f78) f108 (by omega) (by omega) (m_cl_ST (show m_ST lo I A lo71 (w_up (w_up (w_up I69a 2774 ((I69a 2774) + 1)) 2775 ((I69a 2775) - 1)) 4289 ((I 4289))) A69a from s85) hTR (by omega)) (t_N_mk13 t_up_same (by omega) (by omega) ⟨(o86.imp_right (fun q => m_ch f108 (by omega) q)), m_ch f108 (by omega) k87, (o86.imp_right (fun q => m_od f108 k87 (by have := q.1; omega))), (by omega)⟩)
                  have s113 := m_ST_nd (l := (I 3905)) (show m_ST lo I A lo71 (w_up (w_up (w_up I69a 2774 ((I69a 2774) + 1)) 2775 ((I69a 2775) - 1)) 4289 ((I 4289))) A69a from s85) f108 (show (I 3905) ≤ (I 3905) by omega) (show (I 3905) ≤ (I69a 3905) by omega)
                  have k114 : m_kd (t_up lo71 v103 (I 3905)) I102a A102a (I 3905) v103 (fun k => k = 13) := m_kd_new f108 (by omega) (by omega) rfl
                  have j115 := k114.1
                  have rt116 : m_rt (t_up lo71 v103 (I 3905)) (I102a 3905) v103 := m_rt_new f108
                  show w_W _ _ _ (97, [(4, .int (Int32.ofInt (v70))), (3, .int (Int32.ofInt (v43))), (2, .int (Int32.ofInt ((I 4289)))), (1, .int (Int32.ofInt (1))), (0, .ref 43)], [.int (Int32.ofInt (v103))], M101) _
                  refine w_fin (r := .inl (some (v103))) (M' := M101) rfl ?_
                  exact Or.inl ⟨v103, (t_up lo71 v103 (I 3905)), I102a, A102a, B102a, C102a, rfl, ⟨by omega, by omega⟩, hR102a, (show m_fx I A I102a A102a by exact (m_fx_trans (m_fx_trans f48 f75) f107)), (show ((0 ≤ (I102a 2774) ∧ (I102a 2774) < (I102a 2754) ∧ (I102a 2754) ≤ 1501 ∧ 0 ≤ (I102a 2775) ∧ (I102a 2775) ≤ 24) ∧ ((I102a 3393) = (I102a 3905) ∧ (I102a 3521) = (I102a 3905) ∧ (I102a 3649) = (I102a 3905) ∧ (I102a 3777) = (I102a 3905) ∧ 0 ≤ (I102a 3905) ∧ (I102a 3905) ≤ 3 * (I102a 2774)) ∧ ((I102a 4161) = (I102a 4033) ∧ 7 ≤ (I102a 4289) ∧ (I102a 4289) ≤ (I102a 4033) ∧ (I102a 4033) ≤ 7 + (I102a 2774)) ∧ 0 ≤ (I102a 5889) ∧ (I102a 5889) ≤ (I102a 2774)) ∧ ((I102a 2754) = (I 2754) ∧ (I 2774) + 1 ≤ (I102a 2774) ∧ (I102a 2775) = (I 2775) ∧ (I102a 4289) = (I 4289) + 0 ∧ (I102a 5889) = (I 5889)) ∧ ((I102a 3905) + 2 ≤ (I 3905) + 3 * ((I102a 2774) - (I 2774)) ∧ (I 3905) ≤ v103 ∧ v103 + 1 = (I102a 3905) ∧ (I 4033) ≤ (I102a 4033) ∧ (I102a 4033) ≤ (I 4033) + ((I102a 2774) - (I 2774))) by (repeat' apply And.intro) <;> omega), (show m_SC I102a A102a by exact sc111), (show m_TR (t_up lo71 v103 (I 3905)) I102a A102a by exact tr112), (show m_ST lo I A (t_up lo71 v103 (I 3905)) I102a A102a by exact s113), (show t_E ((A102a 53) (v103)) by exact ((m_kd_K k114 (fun k h => by have h : k = 13 := h; unfold t_E; omega))).2), (show m_rt (t_up lo71 v103 (I 3905)) (I102a 3905) v103 by exact rt116)⟩
                · rw [e94]
                  replace hR91b : w_Rep w_TM fr X u l I91b A91b B91b C91b M90 := hR91b
                  replace f95 : m_fx I69a A69a I91b A91b := f95
                  exact Or.inr (⟨I91b, A91b, B91b, C91b, rfl, hR91b, (show m_fx I A I91b A91b by exact (m_fx_trans (m_fx_trans f48 f75) f95))⟩)
              · rw [e82]
                replace hR69b : w_Rep w_TM fr X u l I69b A69b B69b C69b M68 := hR69b
                replace f83 : m_fx (w_up (w_up I42a 2774 ((I42a 2774) + 1)) 2775 ((I42a 2775) - 1)) A42a I69b A69b := f83
                exact Or.inr (⟨I69b, A69b, B69b, C69b, rfl, hR69b, (show m_fx I A I69b A69b by exact (m_fx_trans f48 f83))⟩)
            · rw [e64]
              replace hR61b : w_Rep w_TM fr X u l I61b A61b B61b C61b M60 := hR61b
              replace f65 : m_fx I42a A42a I61b A61b := f65
              exact Or.inr (⟨I61b, A61b, B61b, C61b, rfl, hR61b, (show m_fx I A I61b A61b by exact (m_fx_trans f48 f65))⟩)
          · rw [e55]
            replace hR42b : w_Rep w_TM fr X u l I42b A42b B42b C42b M41 := hR42b
            replace f56 : m_fx (w_up (w_up I 2775 ((I 2775) + 1 + 1)) 2774 ((I 2774) + 1 + 1)) A I42b A42b := f56
            exact Or.inr (⟨I42b, A42b, B42b, C42b, rfl, hR42b, (show m_fx I A I42b A42b by exact f56)⟩)
        · rw [e37]
          replace hR34b : w_Rep w_TM fr X u l I34b A34b B34b C34b M33 := hR34b
          replace f38 : m_fx (w_up (w_up I 2775 ((I 2775) + 1)) 2774 ((I 2774) + 1)) A I34b A34b := f38
          exact Or.inr (⟨I34b, A34b, B34b, C34b, rfl, hR34b, (show m_fx I A I34b A34b by exact f38)⟩)
      · rw [e28, e29]
        replace f30 : ¬ ((A 45) ((I 2774) + 1) = 6 ∧ (A 46) ((I 2774) + 1) = 123) := f30
        show w_W _ _ _ (25, [(2, .int (Int32.ofInt ((I 4289)))), (1, .int (Int32.ofInt (1))), (0, .ref 43)], [.int (Int32.ofInt (0))], M15) _
        refine w_adv (n := 3) (F' := (30, [(2, .int (Int32.ofInt ((I 4289)))), (1, .int (Int32.ofInt (1))), (0, .ref 43)], [.int (Int32.ofInt (1)), .ref 43], M15)) rfl ?_
        refine w_call (cm := 232) (as := [(0, .ref 43), (1, .int (Int32.ofInt (1)))]) (rest := []) (o := some (9, 43)) rfl (w_fitR hR16a rfl) (m_fail (1) hR16a ⟨by omega, by omega⟩ (show 0 ≤ (I 2774) + 1 ∧ (I 2774) + 1 < 1501 by omega) (show 1 ≤ 1 ∧ 1 ≤ 7 by first | assumption | omega)) (fun r117 M118 q119 => ?_)
        rcases q119 with ⟨I119a, A119a, B119a, C119a, e120, hR119a, f121⟩
        rw [e120]
        replace hR119a : w_Rep w_TM fr X u l I119a A119a B119a C119a M118 := hR119a
        replace f121 : m_fx (w_up (w_up I 2775 ((I 2775) + 1)) 2774 ((I 2774) + 1)) A I119a A119a := f121
        exact Or.inr (⟨I119a, A119a, B119a, C119a, rfl, hR119a, (show m_fx I A I119a A119a by exact f121)⟩)
    · rw [e19]
      replace hR16b : w_Rep w_TM fr X u l I16b A16b B16b C16b M15 := hR16b
      replace f20 : m_fx I A I16b A16b := f20
      exact Or.inr (⟨I16b, A16b, B16b, C16b, rfl, hR16b, (show m_fx I A I16b A16b by exact f20)⟩)
  · rw [e7, e8]
    replace f9 : ¬ ((A 45) ((I 2774)) = 5 ∧ (A 46) ((I 2774)) = 11) := f9
    show w_W _ _ _ (6, [(0, .ref 43)], [.int (Int32.ofInt (0))], M) _
    refine w_adv (n := 2) (F' := (8, [(1, .int (Int32.ofInt (0))), (0, .ref 43)], [.ref 43], M)) rfl ?_
    refine w_gf (v := .ref 67) hR rfl rfl rfl rfl ?_
    refine w_gf (v := .int (Int32.ofInt ((I 4289)))) hR rfl rfl rfl rfl ?_
    obtain ⟨r122, r123⟩ : -2147483648 ≤ (I 4289) ∧ (I 4289) ≤ 2147483647 := hR.ri 4289
    obtain ⟨r124a, r124b, r124c⟩ : 0 ≤ (I 4289) ∧ (I 4289) ≤ (C 67 : Int) ∧ (C 67 : Int) ≤ 131072 := hR.sz (show 67 ∈ w_TM.2.2 by decide)
    refine w_adv (n := 2) (F' := (16, [(2, .int (Int32.ofInt ((I 4289)))), (1, .int (Int32.ofInt (0))), (0, .ref 43)], [.ref 43], M)) rfl ?_
    refine w_call (cm := 235) (as := [(0, .ref 43)]) (rest := []) (o := some (9, 43)) rfl (w_fitR hR rfl) (m_enter hR (show 2 ≤ d by omega) (show 0 ≤ (I 2774) ∧ (I 2774) < 1501 by omega) (show 0 ≤ (I 2775) ∧ (I 2775) ≤ 24 by first | assumption | omega)) (fun r125 M126 q127 => ?_)
    rcases q127 with ⟨e128, hR127a, f129⟩ | ⟨I127b, A127b, B127b, C127b, e130, hR127b, f131⟩
    · rw [e128]
      replace hR127a : w_Rep w_TM fr X u l (w_up (w_up I 2775 ((I 2775) + 1)) 2774 ((I 2774) + 1)) A B C M126 := hR127a
      replace f129 : (I 2775) < 24 := f129
      have w132 : (I 2774) + 1 < (I 2754) := m_TK_lt hTK (show (I 2774) < (I 2754) by omega) (show 1 ≤ (A 45) ((I 2774)) by omega) (show (A 45) ((I 2774)) ≤ 6 by omega)
      show w_W _ _ _ (19, [(2, .int (Int32.ofInt ((I 4289)))), (1, .int (Int32.ofInt (0))), (0, .ref 43)], [], M126) _
      refine w_adv (n := 2) (F' := (22, [(2, .int (Int32.ofInt ((I 4289)))), (1, .int (Int32.ofInt (0))), (0, .ref 43)], [.int (Int32.ofInt (123)), .ref 43], M126)) rfl ?_
      refine w_call (cm := 230) (as := [(0, .ref 43), (1, .int (Int32.ofInt (123)))]) (rest := []) (o := some (9, 43)) rfl (w_fitR hR127a rfl) (m_isSign (123) hR127a ⟨by omega, by omega⟩ (show 0 ≤ (I 2774) + 1 ∧ (I 2774) + 1 < 1501 by omega)) (fun r133 M134 q135 => ?_)
      rcases q135 with ⟨e136, e137, f138⟩ | ⟨e139, e140, f141⟩
      · rw [e136, e137]
        replace f138 : (A 45) ((I 2774) + 1) = 6 ∧ (A 46) ((I 2774) + 1) = 123 := f138
        have w142 : ((I 2774) + 1) + 1 < (I 2754) := m_TK_lt hTK (by omega) (by omega) (by omega)
        show w_W _ _ _ (25, [(2, .int (Int32.ofInt ((I 4289)))), (1, .int (Int32.ofInt (0))), (0, .ref 43)], [.int (Int32.ofInt (1))], M126) _
        refine w_adv (n := 2) (F' := (34, [(2, .int (Int32.ofInt ((I 4289)))), (1, .int (Int32.ofInt (0))), (0, .ref 43)], [.ref 43], M126)) rfl ?_
        refine w_call (cm := 235) (as := [(0, .ref 43)]) (rest := []) (o := some (9, 43)) rfl (w_fitR hR127a rfl) (m_enter hR127a (show 2 ≤ d by omega) (show 0 ≤ (I 2774) + 1 ∧ (I 2774) + 1 < 1501 by omega) (show 0 ≤ (I 2775) + 1 ∧ (I 2775) + 1 ≤ 24 by first | assumption | omega)) (fun r143 M144 q145 => ?_)
        rcases q145 with ⟨e146, hR145a, f147⟩ | ⟨I145b, A145b, B145b, C145b, e148, hR145b, f149⟩
        · rw [e146]
          replace hR145a : w_Rep w_TM fr X u l (w_up (w_up I 2775 ((I 2775) + 1 + 1)) 2774 ((I 2774) + 1 + 1)) A B C M144 := hR145a
          replace f147 : (I 2775) + 1 < 24 := f147
          have w150 : ((I 2774) + 1) + 1 < (I 2754) := m_TK_lt hTK (show (I 2774) + 1 < (I 2754) by omega) (show 1 ≤ (A 45) ((I 2774) + 1) by omega) (show (A 45) ((I 2774) + 1) ≤ 6 by omega)
          show w_W _ _ _ (37, [(2, .int (Int32.ofInt ((I 4289)))), (1, .int (Int32.ofInt (0))), (0, .ref 43)], [], M144) _
          refine w_adv (n := 1) (F' := (38, [(2, .int (Int32.ofInt ((I 4289)))), (1, .int (Int32.ofInt (0))), (0, .ref 43)], [.ref 43], M144)) rfl ?_
          refine w_call (cm := 236) (as := [(0, .ref 43)]) (rest := []) (o := some (9, 43)) rfl (w_fitR hR145a rfl) (m_binds (lo) hR145a (show 20 * (24 - ((I 2775) + 1 + 1)) + 8 ≤ (d : Int) by omega) (show m_TK (w_up (w_up I 2775 ((I 2775) + 1 + 1)) 2774 ((I 2774) + 1 + 1)) A by exact hTK) (show (0 ≤ (I 2774) + 1 + 1 ∧ (I 2774) + 1 + 1 < (I 2754) ∧ (I 2754) ≤ 1501 ∧ 0 ≤ (I 2775) + 1 + 1 ∧ (I 2775) + 1 + 1 ≤ 24) ∧ ((I 3393) = (I 3905) ∧ (I 3521) = (I 3905) ∧ (I 3649) = (I 3905) ∧ (I 3777) = (I 3905) ∧ 0 ≤ (I 3905) ∧ (I 3905) ≤ 3 * ((I 2774) + 1 + 1)) ∧ ((I 4161) = (I 4033) ∧ 7 ≤ (I 4289) ∧ (I 4289) ≤ (I 4033) ∧ (I 4033) ≤ 7 + ((I 2774) + 1 + 1)) ∧ 0 ≤ (I 5889) ∧ (I 5889) ≤ (I 2774) + 1 + 1 by (repeat' apply And.intro) <;> omega) (show m_SC (w_up (w_up I 2775 ((I 2775) + 1 + 1)) 2774 ((I 2774) + 1 + 1)) A by exact hSC) (show m_TR lo (w_up (w_up I 2775 ((I 2775) + 1 + 1)) 2774 ((I 2774) + 1 + 1)) A by exact hTR)) (fun r151 M152 q153 => ?_)
          rcases q153 with ⟨v154, lo155, I153a, A153a, B153a, C153a, e156, ⟨r157, r158⟩, hR153a, f159, f160, f161, f162, f163, f164, f165⟩ | ⟨I153b, A153b, B153b, C153b, e166, hR153b, f167⟩
          · rw [e156]
            replace hR153a : w_Rep w_TM fr X u l I153a A153a B153a C153a M152 := hR153a
            replace f159 : m_fx (w_up (w_up I 2775 ((I 2775) + 1 + 1)) 2774 ((I 2774) + 1 + 1)) A I153a A153a := f159
            replace f160 : ((0 ≤ (I153a 2774) ∧ (I153a 2774) < (I153a 2754) ∧ (I153a 2754) ≤ 1501 ∧ 0 ≤ (I153a 2775) ∧ (I153a 2775) ≤ 24) ∧ ((I153a 3393) = (I153a 3905) ∧ (I153a 3521) = (I153a 3905) ∧ (I153a 3649) = (I153a 3905) ∧ (I153a 3777) = (I153a 3905) ∧ 0 ≤ (I153a 3905) ∧ (I153a 3905) ≤ 3 * (I153a 2774)) ∧ ((I153a 4161) = (I153a 4033) ∧ 7 ≤ (I153a 4289) ∧ (I153a 4289) ≤ (I153a 4033) ∧ (I153a 4033) ≤ 7 + (I153a 2774)) ∧ 0 ≤ (I153a 5889) ∧ (I153a 5889) ≤ (I153a 2774)) ∧ ((I153a 2754) = (I 2754) ∧ ((I 2774) + 1 + 1) + 0 ≤ (I153a 2774) ∧ (I153a 2775) = (I 2775) + 1 + 1 ∧ (I 4289) ≤ (I153a 4289) ∧ (I153a 5889) = (I 5889)) ∧ ((I153a 3905) + 0 ≤ (I 3905) + 3 * ((I153a 2774) - ((I 2774) + 1 + 1)) ∧ (I 3905) ≤ (I153a 3905) ∧ -1 ≤ v154 ∧ v154 < (I153a 3905) ∧ (I 4033) ≤ (I153a 4033) ∧ (I153a 4033) ≤ (I 4033) + ((I153a 2774) - ((I 2774) + 1 + 1))) := f160
            replace f161 : m_SC I153a A153a := f161
            replace f162 : m_TR lo155 I153a A153a := f162
            replace f163 : m_ST lo (w_up (w_up I 2775 ((I 2775) + 1 + 1)) 2774 ((I 2774) + 1 + 1)) A lo155 I153a A153a := f163
            replace f164 : v154 = -1 ∨ m_kd lo155 I153a A153a (I 3905) v154 (fun k => k = 28) := f164
            replace f165 : v154 = -1 ∨ m_rt lo155 (I153a 3905) v154 := f165
            have tk168 : m_TK I153a A153a := m_TK_fx f159 hTK
            have s169 : m_ST lo I A lo155 I153a A153a := f163
            show w_W _ _ _ (41, [(2, .int (Int32.ofInt ((I 4289)))), (1, .int (Int32.ofInt (0))), (0, .ref 43)], [.int (Int32.ofInt (v154))], M152) _
            refine w_adv (n := 3) (F' := (45, [(3, .int (Int32.ofInt (v154))), (2, .int (Int32.ofInt ((I 4289)))), (1, .int (Int32.ofInt (0))), (0, .ref 43)], [.int (Int32.ofInt (125)), .ref 43], M152)) rfl ?_
            refine w_call (cm := 264) (as := [(0, .ref 43), (1, .int (Int32.ofInt (125)))]) (rest := []) (o := some (9, 43)) rfl (w_fitR hR153a rfl) (m_closeSign (125) hR153a (show 3 ≤ d by omega) ⟨by omega, by omega⟩ (show 0 ≤ (I153a 2774) ∧ (I153a 2774) < 1501 by omega) (show 1 ≤ (I153a 2775) ∧ (I153a 2775) ≤ 24 by first | assumption | omega)) (fun r170 M171 q172 => ?_)
            rcases q172 with ⟨e173, hR172a, f174⟩ | ⟨I172b, A172b, B172b, C172b, e175, hR172b, f176⟩
            · rw [e173]
              replace hR172a : w_Rep w_TM fr X u l (w_up (w_up I153a 2774 ((I153a 2774) + 1)) 2775 ((I153a 2775) - 1)) A153a B153a C153a M171 := hR172a
              replace f174 : (A153a 45) ((I153a 2774)) = 6 ∧ (A153a 46) ((I153a 2774)) = 125 := f174
              have w177 : (I153a 2774) + 1 < (I153a 2754) := m_TK_lt tk168 (show (I153a 2774) < (I153a 2754) by omega) (show 1 ≤ (A153a 45) ((I153a 2774)) by omega) (show (A153a 45) ((I153a 2774)) ≤ 6 by omega)
              show w_W _ _ _ (48, [(3, .int (Int32.ofInt (v154))), (2, .int (Int32.ofInt ((I 4289)))), (1, .int (Int32.ofInt (0))), (0, .ref 43)], [], M171) _
              refine w_adv (n := 3) (F' := (60, [(3, .int (Int32.ofInt (v154))), (2, .int (Int32.ofInt ((I 4289)))), (1, .int (Int32.ofInt (0))), (0, .ref 43)], [.ref 43], M171)) rfl ?_
              refine w_call (cm := 227) (as := [(0, .ref 43)]) (rest := []) (o := some (9, 43)) rfl (w_fitR hR172a rfl) (hA.2.1 (lo155) hR172a (show 20 * (24 - ((I153a 2775) - 1)) + 19 ≤ (d : Int) by omega) (show m_TK (w_up (w_up I153a 2774 ((I153a 2774) + 1)) 2775 ((I153a 2775) - 1)) A153a by exact tk168) (show (0 ≤ (I153a 2774) + 1 ∧ (I153a 2774) + 1 < (I153a 2754) ∧ (I153a 2754) ≤ 1501 ∧ 0 ≤ (I153a 2775) - 1 ∧ (I153a 2775) - 1 ≤ 24) ∧ ((I153a 3393) = (I153a 3905) ∧ (I153a 3521) = (I153a 3905) ∧ (I153a 3649) = (I153a 3905) ∧ (I153a 3777) = (I153a 3905) ∧ 0 ≤ (I153a 3905) ∧ (I153a 3905) ≤ 3 * ((I153a 2774) + 1)) ∧ ((I153a 4161) = (I153a 4033) ∧ 7 ≤ (I153a 4289) ∧ (I153a 4289) ≤ (I153a 4033) ∧ (I153a 4033) ≤ 7 + ((I153a 2774) + 1)) ∧ 0 ≤ (I153a 5889) ∧ (I153a 5889) ≤ (I153a 2774) + 1 by (repeat' apply And.intro) <;> omega) (show m_SC (w_up (w_up I153a 2774 ((I153a 2774) + 1)) 2775 ((I153a 2775) - 1)) A153a by exact f161) (show m_TR lo155 (w_up (w_up I153a 2774 ((I153a 2774) + 1)) 2775 ((I153a 2775) - 1)) A153a by exact f162) (show (I153a 2754) - ((I153a 2774) + 1) < N by first | assumption | omega)) (fun r178 M179 q180 => ?_)
              rcases q180 with ⟨v181, lo182, I180a, A180a, B180a, C180a, e183, ⟨r184, r185⟩, hR180a, f186, f187, f188, f189, f190, f191, f192⟩ | ⟨I180b, A180b, B180b, C180b, e193, hR180b, f194⟩
              · rw [e183]
                replace hR180a : w_Rep w_TM fr X u l I180a A180a B180a C180a M179 := hR180a
                replace f186 : m_fx (w_up (w_up I153a 2774 ((I153a 2774) + 1)) 2775 ((I153a 2775) - 1)) A153a I180a A180a := f186
                replace f187 : ((0 ≤ (I180a 2774) ∧ (I180a 2774) < (I180a 2754) ∧ (I180a 2754) ≤ 1501 ∧ 0 ≤ (I180a 2775) ∧ (I180a 2775) ≤ 24) ∧ ((I180a 3393) = (I180a 3905) ∧ (I180a 3521) = (I180a 3905) ∧ (I180a 3649) = (I180a 3905) ∧ (I180a 3777) = (I180a 3905) ∧ 0 ≤ (I180a 3905) ∧ (I180a 3905) ≤ 3 * (I180a 2774)) ∧ ((I180a 4161) = (I180a 4033) ∧ 7 ≤ (I180a 4289) ∧ (I180a 4289) ≤ (I180a 4033) ∧ (I180a 4033) ≤ 7 + (I180a 2774)) ∧ 0 ≤ (I180a 5889) ∧ (I180a 5889) ≤ (I180a 2774)) ∧ ((I180a 2754) = (I153a 2754) ∧ ((I153a 2774) + 1) + 1 ≤ (I180a 2774) ∧ (I180a 2775) = (I153a 2775) - 1 ∧ (I180a 4289) = (I153a 4289) + 0 ∧ (I180a 5889) = (I153a 5889)) ∧ ((I180a 3905) + 1 ≤ (I153a 3905) + 3 * ((I180a 2774) - ((I153a 2774) + 1)) ∧ (I153a 3905) ≤ v181 ∧ v181 + 1 = (I180a 3905) ∧ (I153a 4033) ≤ (I180a 4033) ∧ (I180a 4033) ≤ (I153a 4033) + ((I180a 2774) - ((I153a 2774) + 1))) := f187
                replace f188 : m_SC I180a A180a := f188
                replace f189 : m_TR lo182 I180a A180a := f189
                replace f190 : m_ST lo155 (w_up (w_up I153a 2774 ((I153a 2774) + 1)) 2775 ((I153a 2775) - 1)) A153a lo182 I180a A180a := f190
                replace f191 : (fun k => k = 25) ((A180a 53) (v181)) := f191
                replace f192 : m_rt lo182 (I180a 3905) v181 := f192
                have tk195 : m_TK I180a A180a := m_TK_fx f186 tk168
                have s196 : m_ST lo I A lo182 I180a A180a := m_ST_trans (show m_ST lo I A lo155 (w_up (w_up I153a 2774 ((I153a 2774) + 1)) 2775 ((I153a 2775) - 1)) A153a from s169) f190 (by omega) (by omega) (by omega) (by omega)
                have o197 := f164.imp_right (fun q => m_kd_ST f190 (by omega) q)
                have k198 : m_kd lo182 I180a A180a (I153a 3905) v181 (fun k => k = 25) := m_kd_of f190 f189 (by omega) (by omega) (by omega) f191
                have j199 := k198.1
                show w_W _ _ _ (63, [(3, .int (Int32.ofInt (v154))), (2, .int (Int32.ofInt ((I 4289)))), (1, .int (Int32.ofInt (0))), (0, .ref 43)], [.int (Int32.ofInt (v181))], M179) _
                refine w_adv (n := 3) (F' := (67, [(4, .int (Int32.ofInt (v181))), (3, .int (Int32.ofInt (v154))), (2, .int (Int32.ofInt ((I 4289)))), (1, .int (Int32.ofInt (0))), (0, .ref 43)], [.int (Int32.ofInt (3)), .ref 43], M179)) rfl ?_
                refine w_call (cm := 244) (as := [(0, .ref 43), (1, .int (Int32.ofInt (3)))]) (rest := []) (o := some (9, 43)) rfl (w_fitR hR180a rfl) (m_closeWord (3) hR180a (show 3 ≤ d by omega) ⟨by omega, by omega⟩ (show 0 ≤ (I180a 2774) ∧ (I180a 2774) < 1501 by omega) (show 1 ≤ (I180a 2775) ∧ (I180a 2775) ≤ 24 by first | assumption | omega)) (fun r200 M201 q202 => ?_)
                rcases q202 with ⟨e203, hR202a, f204⟩ | ⟨I202b, A202b, B202b, C202b, e205, hR202b, f206⟩
                · rw [e203]
                  replace hR202a : w_Rep w_TM fr X u l (w_up (w_up I180a 2774 ((I180a 2774) + 1)) 2775 ((I180a 2775) - 1)) A180a B180a C180a M201 := hR202a
                  replace f204 : (A180a 45) ((I180a 2774)) = 5 ∧ (A180a 46) ((I180a 2774)) = 3 := f204
                  have w207 : (I180a 2774) + 1 < (I180a 2754) := m_TK_lt tk195 (show (I180a 2774) < (I180a 2754) by omega) (show 1 ≤ (A180a 45) ((I180a 2774)) by omega) (show (A180a 45) ((I180a 2774)) ≤ 6 by omega)
                  show w_W _ _ _ (70, [(4, .int (Int32.ofInt (v181))), (3, .int (Int32.ofInt (v154))), (2, .int (Int32.ofInt ((I 4289)))), (1, .int (Int32.ofInt (0))), (0, .ref 43)], [], M201) _
                  refine w_adv (n := 1) (F' := (71, [(4, .int (Int32.ofInt (v181))), (3, .int (Int32.ofInt (v154))), (2, .int (Int32.ofInt ((I 4289)))), (1, .int (Int32.ofInt (0))), (0, .ref 43)], [.ref 43], M201)) rfl ?_
                  refine w_gf (v := .ref 67) hR202a rfl rfl rfl rfl ?_
                  refine w_adv (n := 1) (F' := (75, [(4, .int (Int32.ofInt (v181))), (3, .int (Int32.ofInt (v154))), (2, .int (Int32.ofInt ((I 4289)))), (1, .int (Int32.ofInt (0))), (0, .ref 43)], [.int (Int32.ofInt ((I 4289))), .ref 67], M201)) rfl ?_
                  refine w_pf hR202a rfl rfl rfl rfl (show w_in ((I 4289)) from ⟨by omega, by omega⟩) (fun _ _ => (show 0 ≤ (I 4289) ∧ (I 4289) ≤ (C180a 67 : Int) by omega)) (fun M208 hR209 => ?_)
                  replace hR209 : w_Rep w_TM fr X u l (w_up (w_up (w_up I180a 2774 ((I180a 2774) + 1)) 2775 ((I180a 2775) - 1)) 4289 ((I 4289))) A180a B180a C180a M208 := hR209
                  have sc210 : m_SC (w_up (w_up (w_up I180a 2774 ((I180a 2774) + 1)) 2775 ((I180a 2775) - 1)) 4289 ((I 4289))) A180a := m_SC_cut f188 (show (I 4289) ≤ (I180a 4289) by omega) rfl rfl
                  refine w_adv (n := 7) (F' := (94, [(4, .int (Int32.ofInt (v181))), (3, .int (Int32.ofInt (v154))), (2, .int (Int32.ofInt ((I 4289)))), (1, .int (Int32.ofInt (0))), (0, .ref 43)], [.int (Int32.ofInt (0)), .int (Int32.ofInt (v181)), .int (Int32.ofInt (v154)), .int (Int32.ofInt (12)), .ref 43], M208)) rfl ?_
                  refine w_call (cm := 239) (as := [(0, .ref 43), (1, .int (Int32.ofInt (12))), (2, .int (Int32.ofInt (v154))), (3, .int (Int32.ofInt (v181))), (4, .int (Int32.ofInt (0)))]) (rest := []) (o := some (9, 43)) rfl (w_fitR hR209 rfl) (m_node (12) (v154) (v181) (0) hR209 (show 2 ≤ d by omega) ⟨by omega, by omega⟩ ⟨by omega, by omega⟩ ⟨by omega, by omega⟩ ⟨by omega, by omega⟩ (show (I180a 3393) = (I180a 3905) by first | assumption | omega) (show (I180a 3521) = (I180a 3905) by first | assumption | omega) (show (I180a 3649) = (I180a 3905) by first | assumption | omega) (show (I180a 3777) = (I180a 3905) by first | assumption | omega) (show (I180a 3905) < 65536 by first | assumption | omega)) (fun r211 M212 q213 => ?_)
                  rcases q213 with ⟨v214, I213a, A213a, B213a, C213a, e215, ⟨r216, r217⟩, hR213a, f218, f219⟩
                  rw [e215]
                  replace hR213a : w_Rep w_TM fr X u l I213a A213a B213a C213a M212 := hR213a
                  replace f218 : m_fx (w_up (w_up (w_up I180a 2774 ((I180a 2774) + 1)) 2775 ((I180a 2775) - 1)) 4289 ((I 4289))) A180a I213a A213a := f218
                  replace f219 : m_nd (w_up (w_up (w_up I180a 2774 ((I180a 2774) + 1)) 2775 ((I180a 2775) - 1)) 4289 ((I 4289))) A180a I213a A213a v214 12 v154 v181 0 := f219
                  have j220 : (v214 = (I180a 3905) ∧ (I213a 3905) = (I180a 3905) + 1 ∧ (I213a 3393) = (I180a 3393) + 1 ∧ (I213a 3521) = (I180a 3521) + 1 ∧ (I213a 3649) = (I180a 3649) + 1 ∧ (I213a 3777) = (I180a 3777) + 1) ∧ ((I213a 2774) = (I180a 2774) + 1 ∧ (I213a 2754) = (I180a 2754) ∧ (I213a 2775) = (I180a 2775) - 1 ∧ (I213a 4289) = (I 4289) ∧ (I213a 4033) = (I180a 4033) ∧ (I213a 4161) = (I180a 4161) ∧ (I213a 5889) = (I180a 5889)) := m_nd_num f219
                  have tk221 : m_TK I213a A213a := m_TK_fx f218 tk195
                  have sc222 := m_SC_nd f219 sc210
                  have tr223 : m_TR (t_up lo182 v214 (I 3905)) I213a A213a := m_TR_nd (show m_TR lo182 (w_up (w_up (w_up I180a 2774 ((I180a 2774) + 1)) 2775 ((I180a 2775) - 1)) 4289 ((I 4289))) A180a from f189) f219 (by omega) (by omega) (m_cl_ST (show m_ST lo I A lo182 (w_up (w_up (w_up I180a 2774 ((I180a 2774) + 1)) 2775 ((I180a 2775) - 1)) 4289 ((I 4289))) A180a from s196) hTR (by omega)) (t_N_mk12 t_up_same (by omega) (by omega) ⟨(o197.imp_right (fun q => m_ch f219 (by omega) q)), m_ch f219 (by omega) k198, (o197.imp_right (fun q => m_od f219 k198 (by have := q.1; omega))), (by omega)⟩)
                  have s224 := m_ST_nd (l := (I 3905)) (show m_ST lo I A lo182 (w_up (w_up (w_up I180a 2774 ((I180a 2774) + 1)) 2775 ((I180a 2775) - 1)) 4289 ((I 4289))) A180a from s196) f219 (show (I 3905) ≤ (I 3905) by omega) (show (I 3905) ≤ (I180a 3905) by omega)
                  have k225 : m_kd (t_up lo182 v214 (I 3905)) I213a A213a (I 3905) v214 (fun k => k = 12) := m_kd_new f219 (by omega) (by omega) rfl
                  have j226 := k225.1
                  have rt227 : m_rt (t_up lo182 v214 (I 3905)) (I213a 3905) v214 := m_rt_new f219
                  show w_W _ _ _ (97, [(4, .int (Int32.ofInt (v181))), (3, .int (Int32.ofInt (v154))), (2, .int (Int32.ofInt ((I 4289)))), (1, .int (Int32.ofInt (0))), (0, .ref 43)], [.int (Int32.ofInt (v214))], M212) _
                  refine w_fin (r := .inl (some (v214))) (M' := M212) rfl ?_
                  exact Or.inl ⟨v214, (t_up lo182 v214 (I 3905)), I213a, A213a, B213a, C213a, rfl, ⟨by omega, by omega⟩, hR213a, (show m_fx I A I213a A213a by exact (m_fx_trans (m_fx_trans f159 f186) f218)), (show ((0 ≤ (I213a 2774) ∧ (I213a 2774) < (I213a 2754) ∧ (I213a 2754) ≤ 1501 ∧ 0 ≤ (I213a 2775) ∧ (I213a 2775) ≤ 24) ∧ ((I213a 3393) = (I213a 3905) ∧ (I213a 3521) = (I213a 3905) ∧ (I213a 3649) = (I213a 3905) ∧ (I213a 3777) = (I213a 3905) ∧ 0 ≤ (I213a 3905) ∧ (I213a 3905) ≤ 3 * (I213a 2774)) ∧ ((I213a 4161) = (I213a 4033) ∧ 7 ≤ (I213a 4289) ∧ (I213a 4289) ≤ (I213a 4033) ∧ (I213a 4033) ≤ 7 + (I213a 2774)) ∧ 0 ≤ (I213a 5889) ∧ (I213a 5889) ≤ (I213a 2774)) ∧ ((I213a 2754) = (I 2754) ∧ (I 2774) + 1 ≤ (I213a 2774) ∧ (I213a 2775) = (I 2775) ∧ (I213a 4289) = (I 4289) + 0 ∧ (I213a 5889) = (I 5889)) ∧ ((I213a 3905) + 2 ≤ (I 3905) + 3 * ((I213a 2774) - (I 2774)) ∧ (I 3905) ≤ v214 ∧ v214 + 1 = (I213a 3905) ∧ (I 4033) ≤ (I213a 4033) ∧ (I213a 4033) ≤ (I 4033) + ((I213a 2774) - (I 2774))) by (repeat' apply And.intro) <;> omega), (show m_SC I213a A213a by exact sc222), (show m_TR (t_up lo182 v214 (I 3905)) I213a A213a by exact tr223), (show m_ST lo I A (t_up lo182 v214 (I 3905)) I213a A213a by exact s224), (show t_E ((A213a 53) (v214)) by exact ((m_kd_K k225 (fun k h => by have h : k = 12 := h; unfold t_E; omega))).2), (show m_rt (t_up lo182 v214 (I 3905)) (I213a 3905) v214 by exact rt227)⟩
                · rw [e205]
                  replace hR202b : w_Rep w_TM fr X u l I202b A202b B202b C202b M201 := hR202b
                  replace f206 : m_fx I180a A180a I202b A202b := f206
                  exact Or.inr (⟨I202b, A202b, B202b, C202b, rfl, hR202b, (show m_fx I A I202b A202b by exact (m_fx_trans (m_fx_trans f159 f186) f206))⟩)
              · rw [e193]
                replace hR180b : w_Rep w_TM fr X u l I180b A180b B180b C180b M179 := hR180b
                replace f194 : m_fx (w_up (w_up I153a 2774 ((I153a 2774) + 1)) 2775 ((I153a 2775) - 1)) A153a I180b A180b := f194
                exact Or.inr (⟨I180b, A180b, B180b, C180b, rfl, hR180b, (show m_fx I A I180b A180b by exact (m_fx_trans f159 f194))⟩)
            · rw [e175]
              replace hR172b : w_Rep w_TM fr X u l I172b A172b B172b C172b M171 := hR172b
              replace f176 : m_fx I153a A153a I172b A172b := f176
              exact Or.inr (⟨I172b, A172b, B172b, C172b, rfl, hR172b, (show m_fx I A I172b A172b by exact (m_fx_trans f159 f176))⟩)
          · rw [e166]
            replace hR153b : w_Rep w_TM fr X u l I153b A153b B153b C153b M152 := hR153b
            replace f167 : m_fx (w_up (w_up I 2775 ((I 2775) + 1 + 1)) 2774 ((I 2774) + 1 + 1)) A I153b A153b := f167
            exact Or.inr (⟨I153b, A153b, B153b, C153b, rfl, hR153b, (show m_fx I A I153b A153b by exact f167)⟩)
        · rw [e148]
          replace hR145b : w_Rep w_TM fr X u l I145b A145b B145b C145b M144 := hR145b
          replace f149 : m_fx (w_up (w_up I 2775 ((I 2775) + 1)) 2774 ((I 2774) + 1)) A I145b A145b := f149
          exact Or.inr (⟨I145b, A145b, B145b, C145b, rfl, hR145b, (show m_fx I A I145b A145b by exact f149)⟩)
      · rw [e139, e140]
        replace f141 : ¬ ((A 45) ((I 2774) + 1) = 6 ∧ (A 46) ((I 2774) + 1) = 123) := f141
        show w_W _ _ _ (25, [(2, .int (Int32.ofInt ((I 4289)))), (1, .int (Int32.ofInt (0))), (0, .ref 43)], [.int (Int32.ofInt (0))], M126) _
        refine w_adv (n := 3) (F' := (30, [(2, .int (Int32.ofInt ((I 4289)))), (1, .int (Int32.ofInt (0))), (0, .ref 43)], [.int (Int32.ofInt (1)), .ref 43], M126)) rfl ?_
        refine w_call (cm := 232) (as := [(0, .ref 43), (1, .int (Int32.ofInt (1)))]) (rest := []) (o := some (9, 43)) rfl (w_fitR hR127a rfl) (m_fail (1) hR127a ⟨by omega, by omega⟩ (show 0 ≤ (I 2774) + 1 ∧ (I 2774) + 1 < 1501 by omega) (show 1 ≤ 1 ∧ 1 ≤ 7 by first | assumption | omega)) (fun r228 M229 q230 => ?_)
        rcases q230 with ⟨I230a, A230a, B230a, C230a, e231, hR230a, f232⟩
        rw [e231]
        replace hR230a : w_Rep w_TM fr X u l I230a A230a B230a C230a M229 := hR230a
        replace f232 : m_fx (w_up (w_up I 2775 ((I 2775) + 1)) 2774 ((I 2774) + 1)) A I230a A230a := f232
        exact Or.inr (⟨I230a, A230a, B230a, C230a, rfl, hR230a, (show m_fx I A I230a A230a by exact f232)⟩)
    · rw [e130]
      replace hR127b : w_Rep w_TM fr X u l I127b A127b B127b C127b M126 := hR127b
      replace f131 : m_fx I A I127b A127b := f131
      exact Or.inr (⟨I127b, A127b, B127b, C127b, rfl, hR127b, (show m_fx I A I127b A127b by exact f131)⟩)
