def m_attempt_Q (fr : Nat → Bool) (X : Nat → Option (q_C (Nat → Int32))) (u l : Nat) (I : Nat → Int) (A : Nat → Int → Int) (B C : Nat → Nat) (M : w_M) (lo : Int → Int) : w_X → w_M → Prop := fun r M' => (∃ v : Int, ∃ lo' : Int → Int, ∃ (I' : Nat → Int) (A' : Nat → Int → Int) (B' C' : Nat → Nat), (r = .inl (some v)) ∧ (w_in v) ∧ (w_Rep w_TM fr X u l I' A' B' C' M') ∧ (m_fx I A I' A') ∧ (((0 ≤ (I' 2774) ∧ (I' 2774) < (I' 2754) ∧ (I' 2754) ≤ 1501 ∧ 0 ≤ (I' 2775) ∧ (I' 2775) ≤ 24) ∧ ((I' 3393) = (I' 3905) ∧ (I' 3521) = (I' 3905) ∧ (I' 3649) = (I' 3905) ∧ (I' 3777) = (I' 3905) ∧ 0 ≤ (I' 3905) ∧ (I' 3905) ≤ 3 * (I' 2774)) ∧ ((I' 4161) = (I' 4033) ∧ 7 ≤ (I' 4289) ∧ (I' 4289) ≤ (I' 4033) ∧ (I' 4033) ≤ 7 + (I' 2774)) ∧ 0 ≤ (I' 5889) ∧ (I' 5889) ≤ (I' 2774)) ∧ ((I' 2754) = (I 2754) ∧ (I 2774) + 1 ≤ (I' 2774) ∧ (I' 2775) = (I 2775) ∧ (I' 4289) = (I 4289) + 0 ∧ (I' 5889) = (I 5889)) ∧ ((I' 3905) + 2 ≤ (I 3905) + 3 * ((I' 2774) - (I 2774)) ∧ (I 3905) ≤ v ∧ v + 1 = (I' 3905) ∧ (I 4033) ≤ (I' 4033) ∧ (I' 4033) ≤ (I 4033) + ((I' 2774) - (I 2774)))) ∧ (m_SC I' A') ∧ (m_TR lo' I' A') ∧ (m_ST lo I A lo' I' A') ∧ ((fun k => k = 21) ((A' 53) (v))) ∧ (m_rt lo' (I' 3905) v)) ∨ (∃ (I' : Nat → Int) (A' : Nat → Int → Int) (B' C' : Nat → Nat), (r = .inr 69) ∧ (w_Rep w_TM fr X u l I' A' B' C' M') ∧ (m_fx I A I' A'))
set_option maxRecDepth 100000 in
theorem m_attempt {L : Nat} {xs : Nat → Int32} {d : Nat} {fr : Nat → Bool} {X : Nat → Option (q_C (Nat → Int32))} {u l : Nat} {I : Nat → Int} {A : Nat → Int → Int} {B C : Nat → Nat} {M : w_M} {N : Int} (hA : m_all L xs N) (lo : Int → Int) (hR : w_Rep w_TM fr X u l I A B C M) (hd : 20 * (24 - (I 2775)) + 11 ≤ (d : Int)) (hTK : m_TK I A) (hNU : (0 ≤ (I 2774) ∧ (I 2774) < (I 2754) ∧ (I 2754) ≤ 1501 ∧ 0 ≤ (I 2775) ∧ (I 2775) ≤ 24) ∧ ((I 3393) = (I 3905) ∧ (I 3521) = (I 3905) ∧ (I 3649) = (I 3905) ∧ (I 3777) = (I 3905) ∧ 0 ≤ (I 3905) ∧ (I 3905) ≤ 3 * (I 2774)) ∧ ((I 4161) = (I 4033) ∧ 7 ≤ (I 4289) ∧ (I 4289) ≤ (I 4033) ∧ (I 4033) ≤ 7 + (I 2774)) ∧ 0 ≤ (I 5889) ∧ (I 5889) ≤ (I 2774)) (hSC : m_SC I A) (hTR : m_TR lo I A) (hk : 1 ≤ (A 45) ((I 2774)) ∧ (A 45) ((I 2774)) ≤ 6) (hm : (I 2754) - (I 2774) ≤ N) : w_W (z_P L xs) d 275 (0, [(0, .ref 43)], [], M) (m_attempt_Q fr X u l I A B C M lo) := by
  obtain ⟨d, rfl⟩ : ∃ d0, d = d0 + 1 := ⟨d - 1, by omega⟩
  have wl : (I 2774) + 1 < (I 2754) := m_TK_lt hTK (by omega) (by omega) (by omega)
  refine w_adv (n := 2) (F' := (2, [(0, .ref 43)], [.ref 43, .ref 43], M)) rfl ?_
  refine w_gf (v := .int (Int32.ofInt ((I 2776)))) hR rfl rfl rfl rfl ?_
  obtain ⟨r1, r2⟩ : -2147483648 ≤ (I 2776) ∧ (I 2776) ≤ 2147483647 := hR.ri 2776
  refine w_adv (n := 2) (F' := (7, [(0, .ref 43)], [.int ((Int32.ofInt ((I 2776))) ||| (Int32.ofInt (2))), .ref 43], M)) rfl ?_
  refine w_int (fun x3 r4 e5 => ?_)
  obtain ⟨r4a, r4b⟩ := r4
  refine w_pf hR rfl rfl rfl rfl (show w_in (x3) from ⟨by omega, by omega⟩) (fun h => absurd h (by decide)) (fun M6 hR7 => ?_)
  replace hR7 : w_Rep w_TM fr X u l (w_up I 2776 (x3)) A B C M6 := hR7
  refine w_adv (n := 1) (F' := (11, [(0, .ref 43)], [.ref 43], M6)) rfl ?_
  refine w_call (cm := 235) (as := [(0, .ref 43)]) (rest := []) (o := some (9, 43)) rfl (w_fitR hR7 rfl) (m_enter hR7 (show 2 ≤ d by omega) (show 0 ≤ (I 2774) ∧ (I 2774) < 1501 by omega) (show 0 ≤ (I 2775) ∧ (I 2775) ≤ 24 by first | assumption | omega)) (fun r8 M9 q10 => ?_)
  rcases q10 with ⟨e11, hR10a, f12⟩ | ⟨I10b, A10b, B10b, C10b, e13, hR10b, f14⟩
  · rw [e11]
    replace hR10a : w_Rep w_TM fr X u l (w_up (w_up (w_up I 2776 (x3)) 2775 ((I 2775) + 1)) 2774 ((I 2774) + 1)) A B C M9 := hR10a
    replace f12 : (I 2775) < 24 := f12
    have w15 : (I 2774) + 1 < (I 2754) := m_TK_lt hTK (show (I 2774) < (I 2754) by omega) (show 1 ≤ (A 45) ((I 2774)) by omega) (show (A 45) ((I 2774)) ≤ 6 by omega)
    show w_W _ _ _ (14, [(0, .ref 43)], [], M9) _
    refine w_adv (n := 1) (F' := (15, [(0, .ref 43)], [.ref 43], M9)) rfl ?_
    refine w_call (cm := 227) (as := [(0, .ref 43)]) (rest := []) (o := some (9, 43)) rfl (w_fitR hR10a rfl) (hA.2.1 (lo) hR10a (show 20 * (24 - ((I 2775) + 1)) + 19 ≤ (d : Int) by omega) (show m_TK (w_up (w_up (w_up I 2776 (x3)) 2775 ((I 2775) + 1)) 2774 ((I 2774) + 1)) A by exact hTK) (show (0 ≤ (I 2774) + 1 ∧ (I 2774) + 1 < (I 2754) ∧ (I 2754) ≤ 1501 ∧ 0 ≤ (I 2775) + 1 ∧ (I 2775) + 1 ≤ 24) ∧ ((I 3393) = (I 3905) ∧ (I 3521) = (I 3905) ∧ (I 3649) = (I 3905) ∧ (I 3777) = (I 3905) ∧ 0 ≤ (I 3905) ∧ (I 3905) ≤ 3 * ((I 2774) + 1)) ∧ ((I 4161) = (I 4033) ∧ 7 ≤ (I 4289) ∧ (I 4289) ≤ (I 4033) ∧ (I 4033) ≤ 7 + ((I 2774) + 1)) ∧ 0 ≤ (I 5889) ∧ (I 5889) ≤ (I 2774) + 1 by (repeat' apply And.intro) <;> omega) (show m_SC (w_up (w_up (w_up I 2776 (x3)) 2775 ((I 2775) + 1)) 2774 ((I 2774) + 1)) A by exact hSC) (show m_TR lo (w_up (w_up (w_up I 2776 (x3)) 2775 ((I 2775) + 1)) 2774 ((I 2774) + 1)) A by exact hTR) (show (I 2754) - ((I 2774) + 1) < N by first | assumption | omega)) (fun r16 M17 q18 => ?_)
    rcases q18 with ⟨v19, lo20, I18a, A18a, B18a, C18a, e21, ⟨r22, r23⟩, hR18a, f24, f25, f26, f27, f28, f29, f30⟩ | ⟨I18b, A18b, B18b, C18b, e31, hR18b, f32⟩
    · rw [e21]
      replace hR18a : w_Rep w_TM fr X u l I18a A18a B18a C18a M17 := hR18a
      replace f24 : m_fx (w_up (w_up (w_up I 2776 (x3)) 2775 ((I 2775) + 1)) 2774 ((I 2774) + 1)) A I18a A18a := f24
      replace f25 : ((0 ≤ (I18a 2774) ∧ (I18a 2774) < (I18a 2754) ∧ (I18a 2754) ≤ 1501 ∧ 0 ≤ (I18a 2775) ∧ (I18a 2775) ≤ 24) ∧ ((I18a 3393) = (I18a 3905) ∧ (I18a 3521) = (I18a 3905) ∧ (I18a 3649) = (I18a 3905) ∧ (I18a 3777) = (I18a 3905) ∧ 0 ≤ (I18a 3905) ∧ (I18a 3905) ≤ 3 * (I18a 2774)) ∧ ((I18a 4161) = (I18a 4033) ∧ 7 ≤ (I18a 4289) ∧ (I18a 4289) ≤ (I18a 4033) ∧ (I18a 4033) ≤ 7 + (I18a 2774)) ∧ 0 ≤ (I18a 5889) ∧ (I18a 5889) ≤ (I18a 2774)) ∧ ((I18a 2754) = (I 2754) ∧ ((I 2774) + 1) + 1 ≤ (I18a 2774) ∧ (I18a 2775) = (I 2775) + 1 ∧ (I18a 4289) = (I 4289) + 0 ∧ (I18a 5889) = (I 5889)) ∧ ((I18a 3905) + 1 ≤ (I 3905) + 3 * ((I18a 2774) - ((I 2774) + 1)) ∧ (I 3905) ≤ v19 ∧ v19 + 1 = (I18a 3905) ∧ (I 4033) ≤ (I18a 4033) ∧ (I18a 4033) ≤ (I 4033) + ((I18a 2774) - ((I 2774) + 1))) := f25
      replace f26 : m_SC I18a A18a := f26
      replace f27 : m_TR lo20 I18a A18a := f27
      replace f28 : m_ST lo (w_up (w_up (w_up I 2776 (x3)) 2775 ((I 2775) + 1)) 2774 ((I 2774) + 1)) A lo20 I18a A18a := f28
      replace f29 : (fun k => k = 25) ((A18a 53) (v19)) := f29
      replace f30 : m_rt lo20 (I18a 3905) v19 := f30
      have tk33 : m_TK I18a A18a := m_TK_fx f24 hTK
      have s34 : m_ST lo I A lo20 I18a A18a := f28
      have k35 : m_kd lo20 I18a A18a (I 3905) v19 (fun k => k = 25) := m_kd_of f28 f27 (by omega) (by omega) (by omega) f29
      have j36 := k35.1
      show w_W _ _ _ (18, [(0, .ref 43)], [.int (Int32.ofInt (v19))], M17) _
      refine w_adv (n := 3) (F' := (22, [(1, .int (Int32.ofInt (v19))), (0, .ref 43)], [.int (Int32.ofInt (14)), .ref 43], M17)) rfl ?_
      refine w_call (cm := 241) (as := [(0, .ref 43), (1, .int (Int32.ofInt (14)))]) (rest := []) (o := some (9, 43)) rfl (w_fitR hR18a rfl) (m_needWord (14) hR18a (show 2 ≤ d by omega) ⟨by omega, by omega⟩ (show 0 ≤ (I18a 2774) ∧ (I18a 2774) < 1501 by omega)) (fun r37 M38 q39 => ?_)
      rcases q39 with ⟨e40, hR39a, f41⟩ | ⟨I39b, A39b, B39b, C39b, e42, hR39b, f43⟩
      · rw [e40]
        replace hR39a : w_Rep w_TM fr X u l (w_up I18a 2774 ((I18a 2774) + 1)) A18a B18a C18a M38 := hR39a
        replace f41 : (A18a 45) ((I18a 2774)) = 5 ∧ (A18a 46) ((I18a 2774)) = 14 := f41
        have w44 : (I18a 2774) + 1 < (I18a 2754) := m_TK_lt tk33 (show (I18a 2774) < (I18a 2754) by omega) (show 1 ≤ (A18a 45) ((I18a 2774)) by omega) (show (A18a 45) ((I18a 2774)) ≤ 6 by omega)
        show w_W _ _ _ (25, [(1, .int (Int32.ofInt (v19))), (0, .ref 43)], [], M38) _
        refine w_adv (n := 1) (F' := (26, [(1, .int (Int32.ofInt (v19))), (0, .ref 43)], [.ref 43], M38)) rfl ?_
        refine w_gf (v := .ref 45) hR39a rfl rfl rfl rfl ?_
        refine w_adv (n := 1) (F' := (30, [(1, .int (Int32.ofInt (v19))), (0, .ref 43)], [.ref 43, .ref 45], M38)) rfl ?_
        refine w_gf (v := .int (Int32.ofInt ((I18a 2774) + 1))) hR39a rfl rfl rfl rfl ?_
        obtain ⟨r45, r46⟩ : -2147483648 ≤ (I18a 2774) + 1 ∧ (I18a 2774) + 1 ≤ 2147483647 := hR39a.ri 2774
        refine w_la (n := 1502) hR39a rfl (Or.inl ⟨rfl, rfl⟩) rfl (show 0 ≤ (I18a 2774) + 1 by omega) (show (I18a 2774) + 1 < (1502 : Int) by omega) (by decide) ?_
        obtain ⟨r47, r48⟩ : -2147483648 ≤ (A18a 45) ((I18a 2774) + 1) ∧ (A18a 45) ((I18a 2774) + 1) ≤ 2147483647 := hR39a.ra 45 ((I18a 2774) + 1)
        show w_W _ _ _ (34, [(1, .int (Int32.ofInt (v19))), (0, .ref 43)], [.int (Int32.ofInt ((A18a 45) ((I18a 2774) + 1)))], M38) _
        refine w_adv (n := 1) (F' := (35, [(1, .int (Int32.ofInt (v19))), (0, .ref 43)], [.int (Int32.ofInt (2)), .int (Int32.ofInt ((A18a 45) ((I18a 2774) + 1)))], M38)) rfl ?_
        refine w_br2 (a := (A18a 45) ((I18a 2774) + 1)) (b := 2) rfl rfl ⟨by omega, by omega⟩ ⟨by omega, by omega⟩ (fun h49 => ?_) (fun h49 => ?_)
        · have h49 : (A18a 45) ((I18a 2774) + 1) = 2 := h49
          have w50 : ((I18a 2774) + 1) + 1 < (I18a 2754) := m_TK_lt tk33 (by omega) (by omega) (by omega)
          show w_W _ _ _ (43, [(1, .int (Int32.ofInt (v19))), (0, .ref 43)], [], M38) _
          refine w_adv (n := 1) (F' := (44, [(1, .int (Int32.ofInt (v19))), (0, .ref 43)], [.ref 43], M38)) rfl ?_
          refine w_gf (v := .ref 67) hR39a rfl rfl rfl rfl ?_
          refine w_gf (v := .int (Int32.ofInt ((I18a 4289)))) hR39a rfl rfl rfl rfl ?_
          obtain ⟨r51, r52⟩ : -2147483648 ≤ (I18a 4289) ∧ (I18a 4289) ≤ 2147483647 := hR39a.ri 4289
          obtain ⟨r53a, r53b, r53c⟩ : 0 ≤ (I18a 4289) ∧ (I18a 4289) ≤ (C18a 67 : Int) ∧ (C18a 67 : Int) ≤ 131072 := hR39a.sz (show 67 ∈ w_TM.2.2 by decide)
          refine w_adv (n := 4) (F' := (54, [(2, .int (Int32.ofInt ((I18a 4289)))), (1, .int (Int32.ofInt (v19))), (0, .ref 43)], [.int (Int32.ofInt (0)), .int (Int32.ofInt ((I18a 4289))), .ref 43], M38)) rfl ?_
          refine w_call (cm := 237) (as := [(0, .ref 43), (1, .int (Int32.ofInt ((I18a 4289)))), (2, .int (Int32.ofInt (0)))]) (rest := []) (o := some (9, 43)) rfl (w_fitR hR39a rfl) (m_bind ((I18a 4289)) (0) (lo20) hR39a (show 20 * (24 - (I18a 2775)) + 6 ≤ (d : Int) by omega) ⟨by omega, by omega⟩ ⟨by omega, by omega⟩ (show m_TK (w_up I18a 2774 ((I18a 2774) + 1)) A18a by exact tk33) (show (0 ≤ (I18a 2774) + 1 ∧ (I18a 2774) + 1 < (I18a 2754) ∧ (I18a 2754) ≤ 1501 ∧ 0 ≤ (I18a 2775) ∧ (I18a 2775) ≤ 24) ∧ ((I18a 3393) = (I18a 3905) ∧ (I18a 3521) = (I18a 3905) ∧ (I18a 3649) = (I18a 3905) ∧ (I18a 3777) = (I18a 3905) ∧ 0 ≤ (I18a 3905) ∧ (I18a 3905) ≤ 3 * ((I18a 2774) + 1)) ∧ ((I18a 4161) = (I18a 4033) ∧ 7 ≤ (I18a 4289) ∧ (I18a 4289) ≤ (I18a 4033) ∧ (I18a 4033) ≤ 7 + ((I18a 2774) + 1)) ∧ 0 ≤ (I18a 5889) ∧ (I18a 5889) ≤ (I18a 2774) + 1 by (repeat' apply And.intro) <;> omega) (show m_SC (w_up I18a 2774 ((I18a 2774) + 1)) A18a by exact f26) (show m_TR lo20 (w_up I18a 2774 ((I18a 2774) + 1)) A18a by exact f27) (show (A18a 45) ((I18a 2774) + 1) = 2 by first | assumption | omega) (show 0 ≤ (I18a 4289) ∧ (I18a 4289) ≤ (I18a 4289) by first | assumption | omega)) (fun r54 M55 q56 => ?_)
          rcases q56 with ⟨v57, lo58, I56a, A56a, B56a, C56a, e59, ⟨r60, r61⟩, hR56a, f62, f63, f64, f65, f66, f67, f68⟩ | ⟨I56b, A56b, B56b, C56b, e69, hR56b, f70⟩
          · rw [e59]
            replace hR56a : w_Rep w_TM fr X u l I56a A56a B56a C56a M55 := hR56a
            replace f62 : m_fx (w_up I18a 2774 ((I18a 2774) + 1)) A18a I56a A56a := f62
            replace f63 : ((0 ≤ (I56a 2774) ∧ (I56a 2774) < (I56a 2754) ∧ (I56a 2754) ≤ 1501 ∧ 0 ≤ (I56a 2775) ∧ (I56a 2775) ≤ 24) ∧ ((I56a 3393) = (I56a 3905) ∧ (I56a 3521) = (I56a 3905) ∧ (I56a 3649) = (I56a 3905) ∧ (I56a 3777) = (I56a 3905) ∧ 0 ≤ (I56a 3905) ∧ (I56a 3905) ≤ 3 * (I56a 2774)) ∧ ((I56a 4161) = (I56a 4033) ∧ 7 ≤ (I56a 4289) ∧ (I56a 4289) ≤ (I56a 4033) ∧ (I56a 4033) ≤ 7 + (I56a 2774)) ∧ 0 ≤ (I56a 5889) ∧ (I56a 5889) ≤ (I56a 2774)) ∧ ((I56a 2754) = (I18a 2754) ∧ ((I18a 2774) + 1) + 1 ≤ (I56a 2774) ∧ (I56a 2775) = (I18a 2775) ∧ (I56a 4289) = (I18a 4289) + 1 ∧ (I56a 5889) = (I18a 5889)) ∧ ((I56a 3905) + 2 ≤ (I18a 3905) + 3 * ((I56a 2774) - ((I18a 2774) + 1)) ∧ (I18a 3905) ≤ v57 ∧ v57 + 1 = (I56a 3905) ∧ (I18a 4033) ≤ (I56a 4033) ∧ (I56a 4033) ≤ (I18a 4033) + ((I56a 2774) - ((I18a 2774) + 1))) := f63
            replace f64 : m_SC I56a A56a := f64
            replace f65 : m_TR lo58 I56a A56a := f65
            replace f66 : m_ST lo20 (w_up I18a 2774 ((I18a 2774) + 1)) A18a lo58 I56a A56a := f66
            replace f67 : (fun k => k = 28) ((A56a 53) (v57)) := f67
            replace f68 : m_rt lo58 (I56a 3905) v57 := f68
            have tk71 : m_TK I56a A56a := m_TK_fx f62 tk33
            have s72 : m_ST lo I A lo58 I56a A56a := m_ST_trans (show m_ST lo I A lo20 (w_up I18a 2774 ((I18a 2774) + 1)) A18a from s34) f66 (by omega) (by omega) (by omega) (by omega)
            have k73 := m_kd_ST f66 (by omega) k35
            have j74 := k73.1
            have rt75 := m_rt_ST f66 (by omega) (by omega) f30
            have k76 : m_kd lo58 I56a A56a (I18a 3905) v57 (fun k => k = 28) := m_kd_of f66 f65 (by omega) (by omega) (by omega) f67
            have j77 := k76.1
            show w_W _ _ _ (57, [(2, .int (Int32.ofInt ((I18a 4289)))), (1, .int (Int32.ofInt (v19))), (0, .ref 43)], [.int (Int32.ofInt (v57))], M55) _
            refine w_adv (n := 3) (F' := (60, [(3, .int (Int32.ofInt (v57))), (2, .int (Int32.ofInt ((I18a 4289)))), (1, .int (Int32.ofInt (v19))), (0, .ref 43)], [.int (Int32.ofInt (5)), .ref 43], M55)) rfl ?_
            refine w_call (cm := 241) (as := [(0, .ref 43), (1, .int (Int32.ofInt (5)))]) (rest := []) (o := some (9, 43)) rfl (w_fitR hR56a rfl) (m_needWord (5) hR56a (show 2 ≤ d by omega) ⟨by omega, by omega⟩ (show 0 ≤ (I56a 2774) ∧ (I56a 2774) < 1501 by omega)) (fun r78 M79 q80 => ?_)
            rcases q80 with ⟨e81, hR80a, f82⟩ | ⟨I80b, A80b, B80b, C80b, e83, hR80b, f84⟩
            · rw [e81]
              replace hR80a : w_Rep w_TM fr X u l (w_up I56a 2774 ((I56a 2774) + 1)) A56a B56a C56a M79 := hR80a
              replace f82 : (A56a 45) ((I56a 2774)) = 5 ∧ (A56a 46) ((I56a 2774)) = 5 := f82
              have w85 : (I56a 2774) + 1 < (I56a 2754) := m_TK_lt tk71 (show (I56a 2774) < (I56a 2754) by omega) (show 1 ≤ (A56a 45) ((I56a 2774)) by omega) (show (A56a 45) ((I56a 2774)) ≤ 6 by omega)
              show w_W _ _ _ (63, [(3, .int (Int32.ofInt (v57))), (2, .int (Int32.ofInt ((I18a 4289)))), (1, .int (Int32.ofInt (v19))), (0, .ref 43)], [], M79) _
              refine w_adv (n := 1) (F' := (64, [(3, .int (Int32.ofInt (v57))), (2, .int (Int32.ofInt ((I18a 4289)))), (1, .int (Int32.ofInt (v19))), (0, .ref 43)], [.ref 43], M79)) rfl ?_
              refine w_call (cm := 227) (as := [(0, .ref 43)]) (rest := []) (o := some (9, 43)) rfl (w_fitR hR80a rfl) (hA.2.1 (lo58) hR80a (show 20 * (24 - (I56a 2775)) + 19 ≤ (d : Int) by omega) (show m_TK (w_up I56a 2774 ((I56a 2774) + 1)) A56a by exact tk71) (show (0 ≤ (I56a 2774) + 1 ∧ (I56a 2774) + 1 < (I56a 2754) ∧ (I56a 2754) ≤ 1501 ∧ 0 ≤ (I56a 2775) ∧ (I56a 2775) ≤ 24) ∧ ((I56a 3393) = (I56a 3905) ∧ (I56a 3521) = (I56a 3905) ∧ (I56a 3649) = (I56a 3905) ∧ (I56a 3777) = (I56a 3905) ∧ 0 ≤ (I56a 3905) ∧ (I56a 3905) ≤ 3 * ((I56a 2774) + 1)) ∧ ((I56a 4161) = (I56a 4033) ∧ 7 ≤ (I56a 4289) ∧ (I56a 4289) ≤ (I56a 4033) ∧ (I56a 4033) ≤ 7 + ((I56a 2774) + 1)) ∧ 0 ≤ (I56a 5889) ∧ (I56a 5889) ≤ (I56a 2774) + 1 by (repeat' apply And.intro) <;> omega) (show m_SC (w_up I56a 2774 ((I56a 2774) + 1)) A56a by exact f64) (show m_TR lo58 (w_up I56a 2774 ((I56a 2774) + 1)) A56a by exact f65) (show (I56a 2754) - ((I56a 2774) + 1) < N by first | assumption | omega)) (fun r86 M87 q88 => ?_)
              rcases q88 with ⟨v89, lo90, I88a, A88a, B88a, C88a, e91, ⟨r92, r93⟩, hR88a, f94, f95, f96, f97, f98, f99, f100⟩ | ⟨I88b, A88b, B88b, C88b, e101, hR88b, f102⟩
              · rw [e91]
                replace hR88a : w_Rep w_TM fr X u l I88a A88a B88a C88a M87 := hR88a
                replace f94 : m_fx (w_up I56a 2774 ((I56a 2774) + 1)) A56a I88a A88a := f94
                replace f95 : ((0 ≤ (I88a 2774) ∧ (I88a 2774) < (I88a 2754) ∧ (I88a 2754) ≤ 1501 ∧ 0 ≤ (I88a 2775) ∧ (I88a 2775) ≤ 24) ∧ ((I88a 3393) = (I88a 3905) ∧ (I88a 3521) = (I88a 3905) ∧ (I88a 3649) = (I88a 3905) ∧ (I88a 3777) = (I88a 3905) ∧ 0 ≤ (I88a 3905) ∧ (I88a 3905) ≤ 3 * (I88a 2774)) ∧ ((I88a 4161) = (I88a 4033) ∧ 7 ≤ (I88a 4289) ∧ (I88a 4289) ≤ (I88a 4033) ∧ (I88a 4033) ≤ 7 + (I88a 2774)) ∧ 0 ≤ (I88a 5889) ∧ (I88a 5889) ≤ (I88a 2774)) ∧ ((I88a 2754) = (I56a 2754) ∧ ((I56a 2774) + 1) + 1 ≤ (I88a 2774) ∧ (I88a 2775) = (I56a 2775) ∧ (I88a 4289) = (I56a 4289) + 0 ∧ (I88a 5889) = (I56a 5889)) ∧ ((I88a 3905) + 1 ≤ (I56a 3905) + 3 * ((I88a 2774) - ((I56a 2774) + 1)) ∧ (I56a 3905) ≤ v89 ∧ v89 + 1 = (I88a 3905) ∧ (I56a 4033) ≤ (I88a 4033) ∧ (I88a 4033) ≤ (I56a 4033) + ((I88a 2774) - ((I56a 2774) + 1))) := f95
                replace f96 : m_SC I88a A88a := f96
                replace f97 : m_TR lo90 I88a A88a := f97
                replace f98 : m_ST lo58 (w_up I56a 2774 ((I56a 2774) + 1)) A56a lo90 I88a A88a := f98
                replace f99 : (fun k => k = 25) ((A88a 53) (v89)) := f99
                replace f100 : m_rt lo90 (I88a 3905) v89 := f100
                have tk103 : m_TK I88a A88a := m_TK_fx f94 tk71
                have s104 : m_ST lo I A lo90 I88a A88a := m_ST_trans (show m_ST lo I A lo58 (w_up I56a 2774 ((I56a 2774) + 1)) A56a from s72) f98 (by omega) (by omega) (by omega) (by omega)
                have k105 := m_kd_ST f98 (by omega) k73
                have j106 := k105.1
                have rt107 := m_rt_ST f98 (by omega) (by omega) rt75
                have k108 := m_kd_ST f98 (by omega) k76
                have j109 := k108.1
                have rt110 := m_rt_ST f98 (by omega) (by omega) f68
                have k111 : m_kd lo90 I88a A88a (I56a 3905) v89 (fun k => k = 25) := m_kd_of f98 f97 (by omega) (by omega) (by omega) f99
                have j112 := k111.1
                show w_W _ _ _ (67, [(3, .int (Int32.ofInt (v57))), (2, .int (Int32.ofInt ((I18a 4289)))), (1, .int (Int32.ofInt (v19))), (0, .ref 43)], [.int (Int32.ofInt (v89))], M87) _
                refine w_adv (n := 3) (F' := (71, [(4, .int (Int32.ofInt (v89))), (3, .int (Int32.ofInt (v57))), (2, .int (Int32.ofInt ((I18a 4289)))), (1, .int (Int32.ofInt (v19))), (0, .ref 43)], [.int (Int32.ofInt (3)), .ref 43], M87)) rfl ?_
                refine w_call (cm := 244) (as := [(0, .ref 43), (1, .int (Int32.ofInt (3)))]) (rest := []) (o := some (9, 43)) rfl (w_fitR hR88a rfl) (m_closeWord (3) hR88a (show 3 ≤ d by omega) ⟨by omega, by omega⟩ (show 0 ≤ (I88a 2774) ∧ (I88a 2774) < 1501 by omega) (show 1 ≤ (I88a 2775) ∧ (I88a 2775) ≤ 24 by first | assumption | omega)) (fun r113 M114 q115 => ?_)
                rcases q115 with ⟨e116, hR115a, f117⟩ | ⟨I115b, A115b, B115b, C115b, e118, hR115b, f119⟩
                · rw [e116]
                  replace hR115a : w_Rep w_TM fr X u l (w_up (w_up I88a 2774 ((I88a 2774) + 1)) 2775 ((I88a 2775) - 1)) A88a B88a C88a M114 := hR115a
                  replace f117 : (A88a 45) ((I88a 2774)) = 5 ∧ (A88a 46) ((I88a 2774)) = 3 := f117
                  have w120 : (I88a 2774) + 1 < (I88a 2754) := m_TK_lt tk103 (show (I88a 2774) < (I88a 2754) by omega) (show 1 ≤ (A88a 45) ((I88a 2774)) by omega) (show (A88a 45) ((I88a 2774)) ≤ 6 by omega)
                  show w_W _ _ _ (74, [(4, .int (Int32.ofInt (v89))), (3, .int (Int32.ofInt (v57))), (2, .int (Int32.ofInt ((I18a 4289)))), (1, .int (Int32.ofInt (v19))), (0, .ref 43)], [], M114) _
                  refine w_adv (n := 1) (F' := (75, [(4, .int (Int32.ofInt (v89))), (3, .int (Int32.ofInt (v57))), (2, .int (Int32.ofInt ((I18a 4289)))), (1, .int (Int32.ofInt (v19))), (0, .ref 43)], [.ref 43], M114)) rfl ?_
                  refine w_gf (v := .ref 67) hR115a rfl rfl rfl rfl ?_
                  refine w_adv (n := 1) (F' := (79, [(4, .int (Int32.ofInt (v89))), (3, .int (Int32.ofInt (v57))), (2, .int (Int32.ofInt ((I18a 4289)))), (1, .int (Int32.ofInt (v19))), (0, .ref 43)], [.int (Int32.ofInt ((I18a 4289))), .ref 67], M114)) rfl ?_
                  refine w_pf hR115a rfl rfl rfl rfl (show w_in ((I18a 4289)) from ⟨by omega, by omega⟩) (fun _ _ => (show 0 ≤ (I18a 4289) ∧ (I18a 4289) ≤ (C88a 67 : Int) by omega)) (fun M121 hR122 => ?_)
                  replace hR122 : w_Rep w_TM fr X u l (w_up (w_up (w_up I88a 2774 ((I88a 2774) + 1)) 2775 ((I88a 2775) - 1)) 4289 ((I18a 4289))) A88a B88a C88a M121 := hR122
                  have sc123 : m_SC (w_up (w_up (w_up I88a 2774 ((I88a 2774) + 1)) 2775 ((I88a 2775) - 1)) 4289 ((I18a 4289))) A88a := m_SC_cut f96 (show (I18a 4289) ≤ (I88a 4289) by omega) rfl rfl
                  refine w_adv (n := 5) (F' := (89, [(4, .int (Int32.ofInt (v89))), (3, .int (Int32.ofInt (v57))), (2, .int (Int32.ofInt ((I18a 4289)))), (1, .int (Int32.ofInt (v19))), (0, .ref 43)], [.int (Int32.ofInt (v89)), .int (Int32.ofInt (v57)), .int (Int32.ofInt (v19)), .int (Int32.ofInt (21)), .ref 43], M121)) rfl ?_
                  refine w_call (cm := 239) (as := [(0, .ref 43), (1, .int (Int32.ofInt (21))), (2, .int (Int32.ofInt (v19))), (3, .int (Int32.ofInt (v57))), (4, .int (Int32.ofInt (v89)))]) (rest := []) (o := some (9, 43)) rfl (w_fitR hR122 rfl) (m_node (21) (v19) (v57) (v89) hR122 (show 2 ≤ d by omega) ⟨by omega, by omega⟩ ⟨by omega, by omega⟩ ⟨by omega, by omega⟩ ⟨by omega, by omega⟩ (show (I88a 3393) = (I88a 3905) by first | assumption | omega) (show (I88a 3521) = (I88a 3905) by first | assumption | omega) (show (I88a 3649) = (I88a 3905) by first | assumption | omega) (show (I88a 3777) = (I88a 3905) by first | assumption | omega) (show (I88a 3905) < 65536 by first | assumption | omega)) (fun r124 M125 q126 => ?_)
                  rcases q126 with ⟨v127, I126a, A126a, B126a, C126a, e128, ⟨r129, r130⟩, hR126a, f131, f132⟩
                  rw [e128]
                  replace hR126a : w_Rep w_TM fr X u l I126a A126a B126a C126a M125 := hR126a
                  replace f131 : m_fx (w_up (w_up (w_up I88a 2774 ((I88a 2774) + 1)) 2775 ((I88a 2775) - 1)) 4289 ((I18a 4289))) A88a I126a A126a := f131
                  replace f132 : m_nd (w_up (w_up (w_up I88a 2774 ((I88a 2774) + 1)) 2775 ((I88a 2775) - 1)) 4289 ((I18a 4289))) A88a I126a A126a v127 21 v19 v57 v89 := f132
                  have j133 : (v127 = (I88a 3905) ∧ (I126a 3905) = (I88a 3905) + 1 ∧ (I126a 3393) = (I88a 3393) + 1 ∧ (I126a 3521) = (I88a 3521) + 1 ∧ (I126a 3649) = (I88a 3649) + 1 ∧ (I126a 3777) = (I88a 3777) + 1) ∧ ((I126a 2774) = (I88a 2774) + 1 ∧ (I126a 2754) = (I88a 2754) ∧ (I126a 2775) = (I88a 2775) - 1 ∧ (I126a 4289) = (I18a 4289) ∧ (I126a 4033) = (I88a 4033) ∧ (I126a 4161) = (I88a 4161) ∧ (I126a 5889) = (I88a 5889)) := m_nd_num f132
                  have tk134 : m_TK I126a A126a := m_TK_fx f131 tk103
                  have sc135 := m_SC_nd f132 sc123
                  have tr136 : m_TR (t_up lo90 v127 (I 3905)) I126a A126a := m_TR_nd (show m_TR lo90 (w_up (w_up (w_up I88a 2774 ((I88a 2774) + 1)) 2775 ((I88a 2775) - 1)) 4289 ((I18a 4289))) A88a from f97) f132 (by omega) (by omega) (m_cl_ST (show m_ST lo I A lo90 (w_up (w_up (w_up I88a 2774 ((I88a 2774) + 1)) 2775 ((I88a 2775) - 1)) 4289 ((I18a 4289))) A88a from s104) hTR (by omega)) (t_N_mk21 t_up_same (by omega) (by omega) ⟨m_ch f132 (by omega) k105, m_ch f132 (by omega) k108, m_ch f132 (by omega) k111, m_od f132 k108 (by omega), m_od f132 k111 (by omega)⟩)
                  have s137 := m_ST_nd (l := (I 3905)) (show m_ST lo I A lo90 (w_up (w_up (w_up I88a 2774 ((I88a 2774) + 1)) 2775 ((I88a 2775) - 1)) 4289 ((I18a 4289))) A88a from s104) f132 (show (I 3905) ≤ (I 3905) by omega) (show (I 3905) ≤ (I88a 3905) by omega)
                  have k138 : m_kd (t_up lo90 v127 (I 3905)) I126a A126a (I 3905) v127 (fun k => k = 21) := m_kd_new f132 (by omega) (by omega) rfl
                  have j139 := k138.1
                  have rt140 : m_rt (t_up lo90 v127 (I 3905)) (I126a 3905) v127 := m_rt_new f132
                  show w_W _ _ _ (92, [(4, .int (Int32.ofInt (v89))), (3, .int (Int32.ofInt (v57))), (2, .int (Int32.ofInt ((I18a 4289)))), (1, .int (Int32.ofInt (v19))), (0, .ref 43)], [.int (Int32.ofInt (v127))], M125) _
                  refine w_fin (r := .inl (some (v127))) (M' := M125) rfl ?_
                  exact Or.inl ⟨v127, (t_up lo90 v127 (I 3905)), I126a, A126a, B126a, C126a, rfl, ⟨by omega, by omega⟩, hR126a, (show m_fx I A I126a A126a by exact (m_fx_trans (m_fx_trans (m_fx_trans f24 f62) f94) f131)), (show ((0 ≤ (I126a 2774) ∧ (I126a 2774) < (I126a 2754) ∧ (I126a 2754) ≤ 1501 ∧ 0 ≤ (I126a 2775) ∧ (I126a 2775) ≤ 24) ∧ ((I126a 3393) = (I126a 3905) ∧ (I126a 3521) = (I126a 3905) ∧ (I126a 3649) = (I126a 3905) ∧ (I126a 3777) = (I126a 3905) ∧ 0 ≤ (I126a 3905) ∧ (I126a 3905) ≤ 3 * (I126a 2774)) ∧ ((I126a 4161) = (I126a 4033) ∧ 7 ≤ (I126a 4289) ∧ (I126a 4289) ≤ (I126a 4033) ∧ (I126a 4033) ≤ 7 + (I126a 2774)) ∧ 0 ≤ (I126a 5889) ∧ (I126a 5889) ≤ (I126a 2774)) ∧ ((I126a 2754) = (I 2754) ∧ (I 2774) + 1 ≤ (I126a 2774) ∧ (I126a 2775) = (I 2775) ∧ (I126a 4289) = (I 4289) + 0 ∧ (I126a 5889) = (I 5889)) ∧ ((I126a 3905) + 2 ≤ (I 3905) + 3 * ((I126a 2774) - (I 2774)) ∧ (I 3905) ≤ v127 ∧ v127 + 1 = (I126a 3905) ∧ (I 4033) ≤ (I126a 4033) ∧ (I126a 4033) ≤ (I 4033) + ((I126a 2774) - (I 2774))) by (repeat' apply And.intro) <;> omega), (show m_SC I126a A126a by exact sc135), (show m_TR (t_up lo90 v127 (I 3905)) I126a A126a by exact tr136), (show m_ST lo I A (t_up lo90 v127 (I 3905)) I126a A126a by exact s137), (show (fun k => k = 21) ((A126a 53) (v127)) by exact (k138).2), (show m_rt (t_up lo90 v127 (I 3905)) (I126a 3905) v127 by exact rt140)⟩
                · rw [e118]
                  replace hR115b : w_Rep w_TM fr X u l I115b A115b B115b C115b M114 := hR115b
                  replace f119 : m_fx I88a A88a I115b A115b := f119
                  exact Or.inr (⟨I115b, A115b, B115b, C115b, rfl, hR115b, (show m_fx I A I115b A115b by exact (m_fx_trans (m_fx_trans (m_fx_trans f24 f62) f94) f119))⟩)
              · rw [e101]
                replace hR88b : w_Rep w_TM fr X u l I88b A88b B88b C88b M87 := hR88b
                replace f102 : m_fx (w_up I56a 2774 ((I56a 2774) + 1)) A56a I88b A88b := f102
                exact Or.inr (⟨I88b, A88b, B88b, C88b, rfl, hR88b, (show m_fx I A I88b A88b by exact (m_fx_trans (m_fx_trans f24 f62) f102))⟩)
            · rw [e83]
              replace hR80b : w_Rep w_TM fr X u l I80b A80b B80b C80b M79 := hR80b
              replace f84 : m_fx I56a A56a I80b A80b := f84
              exact Or.inr (⟨I80b, A80b, B80b, C80b, rfl, hR80b, (show m_fx I A I80b A80b by exact (m_fx_trans (m_fx_trans f24 f62) f84))⟩)
          · rw [e69]
            replace hR56b : w_Rep w_TM fr X u l I56b A56b B56b C56b M55 := hR56b
            replace f70 : m_fx (w_up I18a 2774 ((I18a 2774) + 1)) A18a I56b A56b := f70
            exact Or.inr (⟨I56b, A56b, B56b, C56b, rfl, hR56b, (show m_fx I A I56b A56b by exact (m_fx_trans f24 f70))⟩)
        · have h49 : ¬ ((A18a 45) ((I18a 2774) + 1) = 2) := h49
          show w_W _ _ _ (38, [(1, .int (Int32.ofInt (v19))), (0, .ref 43)], [], M38) _
          refine w_adv (n := 2) (F' := (40, [(1, .int (Int32.ofInt (v19))), (0, .ref 43)], [.int (Int32.ofInt (1)), .ref 43], M38)) rfl ?_
          refine w_call (cm := 232) (as := [(0, .ref 43), (1, .int (Int32.ofInt (1)))]) (rest := []) (o := some (9, 43)) rfl (w_fitR hR39a rfl) (m_fail (1) hR39a ⟨by omega, by omega⟩ (show 0 ≤ (I18a 2774) + 1 ∧ (I18a 2774) + 1 < 1501 by omega) (show 1 ≤ 1 ∧ 1 ≤ 7 by first | assumption | omega)) (fun r141 M142 q143 => ?_)
          rcases q143 with ⟨I143a, A143a, B143a, C143a, e144, hR143a, f145⟩
          rw [e144]
          replace hR143a : w_Rep w_TM fr X u l I143a A143a B143a C143a M142 := hR143a
          replace f145 : m_fx (w_up I18a 2774 ((I18a 2774) + 1)) A18a I143a A143a := f145
          exact Or.inr (⟨I143a, A143a, B143a, C143a, rfl, hR143a, (show m_fx I A I143a A143a by exact (m_fx_trans f24 f145))⟩)
      · rw [e42]
        replace hR39b : w_Rep w_TM fr X u l I39b A39b B39b C39b M38 := hR39b
        replace f43 : m_fx I18a A18a I39b A39b := f43
        exact Or.inr (⟨I39b, A39b, B39b, C39b, rfl, hR39b, (show m_fx I A I39b A39b by exact (m_fx_trans f24 f43))⟩)
    · rw [e31]
      replace hR18b : w_Rep w_TM fr X u l I18b A18b B18b C18b M17 := hR18b
      replace f32 : m_fx (w_up (w_up (w_up I 2776 (x3)) 2775 ((I 2775) + 1)) 2774 ((I 2774) + 1)) A I18b A18b := f32
      exact Or.inr (⟨I18b, A18b, B18b, C18b, rfl, hR18b, (show m_fx I A I18b A18b by exact f32)⟩)
  · rw [e13]
    replace hR10b : w_Rep w_TM fr X u l I10b A10b B10b C10b M9 := hR10b
    replace f14 : m_fx (w_up I 2776 (x3)) A I10b A10b := f14
    exact Or.inr (⟨I10b, A10b, B10b, C10b, rfl, hR10b, (show m_fx I A I10b A10b by exact f14)⟩)
