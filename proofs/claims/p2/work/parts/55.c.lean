def m_pattern_Q (fr : Nat → Bool) (X : Nat → Option (q_C (Nat → Int32))) (u l : Nat) (I : Nat → Int) (A : Nat → Int → Int) (B C : Nat → Nat) (M : w_M) (lo : Int → Int × Int) : w_X → w_M → Prop := fun r M' => (∃ v : Int, ∃ lo' : Int → Int × Int, ∃ (I' : Nat → Int) (A' : Nat → Int → Int) (B' C' : Nat → Nat), (r = .inl (some v)) ∧ (w_in v) ∧ (w_Rep w_TM fr X u l I' A' B' C' M') ∧ (m_fx I A I' A') ∧ (((0 ≤ (I' 2774) ∧ (I' 2774) < (I' 2754) ∧ (I' 2754) ≤ 1501 ∧ 0 ≤ (I' 2775) ∧ (I' 2775) ≤ 24) ∧ ((I' 3393) = (I' 3905) ∧ (I' 3521) = (I' 3905) ∧ (I' 3649) = (I' 3905) ∧ (I' 3777) = (I' 3905) ∧ 0 ≤ (I' 3905) ∧ (I' 3905) ≤ 3 * (I' 2774)) ∧ ((I' 4161) = (I' 4033) ∧ 7 ≤ (I' 4289) ∧ (I' 4289) ≤ (I' 4033) ∧ (I' 4033) ≤ 7 + (I' 2774)) ∧ 0 ≤ (I' 5889) ∧ (I' 5889) ≤ (I' 2774)) ∧ ((I' 2754) = (I 2754) ∧ (I 2774) + 1 ≤ (I' 2774) ∧ (I' 2775) = (I 2775) ∧ (I 4289) ≤ (I' 4289) ∧ (I' 5889) = (I 5889)) ∧ ((I' 3905) + 1 ≤ (I 3905) + 3 * ((I' 2774) - (I 2774)) ∧ (I 3905) ≤ v ∧ v + 1 = (I' 3905) ∧ (I 4033) ≤ (I' 4033) ∧ (I' 4033) ≤ (I 4033) + ((I' 2774) - (I 2774)))) ∧ (m_SC I' A') ∧ (m_TR lo' I' A') ∧ (m_ST lo I A lo' I' A') ∧ ((fun k => k = 26) ((A' 53) (v))) ∧ (m_rt lo' (I' 3905) v) ∧ (m_RK lo' (I 3905) (I' 3905) (8 * (24 - (I 2775)) + 2))) ∨ (∃ (I' : Nat → Int) (A' : Nat → Int → Int) (B' C' : Nat → Nat), (r = .inr 69) ∧ (w_Rep w_TM fr X u l I' A' B' C' M') ∧ (m_fx I A I' A'))
set_option maxHeartbeats 100000000 in
set_option maxRecDepth 100000 in
theorem m_pattern {L : Nat} {xs : Nat → Int32} {d : Nat} {fr : Nat → Bool} {X : Nat → Option (q_C (Nat → Int32))} {u l : Nat} {I : Nat → Int} {A : Nat → Int → Int} {B C : Nat → Nat} {M : w_M} {N : Int} (hA : m_all L xs N) (lo : Int → Int × Int) (hR : w_Rep w_TM fr X u l I A B C M) (hd : 20 * (24 - (I 2775)) + 26 ≤ (d : Int)) (hTK : m_TK I A) (hNU : (0 ≤ (I 2774) ∧ (I 2774) < (I 2754) ∧ (I 2754) ≤ 1501 ∧ 0 ≤ (I 2775) ∧ (I 2775) ≤ 24) ∧ ((I 3393) = (I 3905) ∧ (I 3521) = (I 3905) ∧ (I 3649) = (I 3905) ∧ (I 3777) = (I 3905) ∧ 0 ≤ (I 3905) ∧ (I 3905) ≤ 3 * (I 2774)) ∧ ((I 4161) = (I 4033) ∧ 7 ≤ (I 4289) ∧ (I 4289) ≤ (I 4033) ∧ (I 4033) ≤ 7 + (I 2774)) ∧ 0 ≤ (I 5889) ∧ (I 5889) ≤ (I 2774)) (hSC : m_SC I A) (hTR : m_TR lo I A) (hm : (I 2754) - (I 2774) < N) : w_W (z_P L xs) d 270 (0, [(0, .ref 43)], [], M) (m_pattern_Q fr X u l I A B C M lo) := by
  obtain ⟨d, rfl⟩ : ∃ d0, d = d0 + 1 := ⟨d - 1, by omega⟩
  refine w_adv (n := 1) (F' := (1, [(0, .ref 43)], [.ref 43], M)) rfl ?_
  refine w_gf (v := .ref 45) hR rfl rfl rfl rfl ?_
  refine w_adv (n := 1) (F' := (5, [(0, .ref 43)], [.ref 43, .ref 45], M)) rfl ?_
  refine w_gf (v := .int (Int32.ofInt ((I 2774)))) hR rfl rfl rfl rfl ?_
  obtain ⟨r1, r2⟩ : -2147483648 ≤ (I 2774) ∧ (I 2774) ≤ 2147483647 := hR.ri 2774
  refine w_la (n := 1502) hR rfl (Or.inl ⟨rfl, rfl⟩) rfl (show 0 ≤ (I 2774) by omega) (show (I 2774) < (1502 : Int) by omega) (by decide) ?_
  obtain ⟨r3, r4⟩ : -2147483648 ≤ (A 45) ((I 2774)) ∧ (A 45) ((I 2774)) ≤ 2147483647 := hR.ra 45 ((I 2774))
  show w_W _ _ _ (9, [(0, .ref 43)], [.int (Int32.ofInt ((A 45) ((I 2774))))], M) _
  refine w_adv (n := 1) (F' := (10, [(0, .ref 43)], [.int (Int32.ofInt (4)), .int (Int32.ofInt ((A 45) ((I 2774))))], M)) rfl ?_
  refine w_br2 (a := (A 45) ((I 2774))) (b := 4) rfl rfl ⟨by omega, by omega⟩ ⟨by omega, by omega⟩ (fun h5 => ?_) (fun h5 => ?_)
  · have h5 : ¬ (A 45) ((I 2774)) = 4 := h5
    show w_W _ _ _ (43, [(0, .ref 43)], [], M) _
    refine w_adv (n := 1) (F' := (44, [(0, .ref 43)], [.ref 43], M)) rfl ?_
    refine w_gf (v := .ref 45) hR rfl rfl rfl rfl ?_
    refine w_adv (n := 1) (F' := (48, [(0, .ref 43)], [.ref 43, .ref 45], M)) rfl ?_
    refine w_gf (v := .int (Int32.ofInt ((I 2774)))) hR rfl rfl rfl rfl ?_
    refine w_la (n := 1502) hR rfl (Or.inl ⟨rfl, rfl⟩) rfl (show 0 ≤ (I 2774) by omega) (show (I 2774) < (1502 : Int) by omega) (by decide) ?_
    show w_W _ _ _ (52, [(0, .ref 43)], [.int (Int32.ofInt ((A 45) ((I 2774))))], M) _
    refine w_adv (n := 1) (F' := (53, [(0, .ref 43)], [.int (Int32.ofInt (1)), .int (Int32.ofInt ((A 45) ((I 2774))))], M)) rfl ?_
    refine w_br2 (a := (A 45) ((I 2774))) (b := 1) rfl rfl ⟨by omega, by omega⟩ ⟨by omega, by omega⟩ (fun h6 => ?_) (fun h6 => ?_)
    · have h6 : ¬ (A 45) ((I 2774)) = 1 := h6
      show w_W _ _ _ (143, [(0, .ref 43)], [], M) _
      refine w_adv (n := 1) (F' := (144, [(0, .ref 43)], [.ref 43], M)) rfl ?_
      refine w_gf (v := .ref 45) hR rfl rfl rfl rfl ?_
      refine w_adv (n := 1) (F' := (148, [(0, .ref 43)], [.ref 43, .ref 45], M)) rfl ?_
      refine w_gf (v := .int (Int32.ofInt ((I 2774)))) hR rfl rfl rfl rfl ?_
      refine w_la (n := 1502) hR rfl (Or.inl ⟨rfl, rfl⟩) rfl (show 0 ≤ (I 2774) by omega) (show (I 2774) < (1502 : Int) by omega) (by decide) ?_
      show w_W _ _ _ (152, [(0, .ref 43)], [.int (Int32.ofInt ((A 45) ((I 2774))))], M) _
      refine w_adv (n := 1) (F' := (153, [(0, .ref 43)], [.int (Int32.ofInt (2)), .int (Int32.ofInt ((A 45) ((I 2774))))], M)) rfl ?_
      refine w_br2 (a := (A 45) ((I 2774))) (b := 2) rfl rfl ⟨by omega, by omega⟩ ⟨by omega, by omega⟩ (fun h7 => ?_) (fun h7 => ?_)
      · have h7 : (A 45) ((I 2774)) = 2 := h7
        have w8 : (I 2774) + 1 < (I 2754) := m_TK_lt hTK (by omega) (by omega) (by omega)
        show w_W _ _ _ (174, [(0, .ref 43)], [], M) _
        refine w_adv (n := 1) (F' := (175, [(0, .ref 43)], [.ref 43], M)) rfl ?_
        refine w_gf (v := .ref 67) hR rfl rfl rfl rfl ?_
        refine w_gf (v := .int (Int32.ofInt ((I 4289)))) hR rfl rfl rfl rfl ?_
        obtain ⟨r9, r10⟩ : -2147483648 ≤ (I 4289) ∧ (I 4289) ≤ 2147483647 := hR.ri 4289
        obtain ⟨r11a, r11b, r11c⟩ : 0 ≤ (I 4289) ∧ (I 4289) ≤ (C 67 : Int) ∧ (C 67 : Int) ≤ 131072 := hR.sz (show 67 ∈ w_TM.2.2 by decide)
        refine w_adv (n := 5) (F' := (186, [(1, .int (Int32.ofInt ((I 4289)))), (0, .ref 43)], [.int (Int32.ofInt (0)), .int (Int32.ofInt ((I 4289))), .int (Int32.ofInt (1)), .ref 43], M)) rfl ?_
        refine w_call (cm := 258) (as := [(0, .ref 43), (1, .int (Int32.ofInt (1))), (2, .int (Int32.ofInt ((I 4289)))), (3, .int (Int32.ofInt (0)))]) (rest := []) (o := some (9, 43)) rfl (w_fitR hR rfl) (m_slot (1) ((I 4289)) (0) (lo) hR (show 20 * (24 - (I 2775)) + 8 ≤ (d : Int) by omega) ⟨by omega, by omega⟩ ⟨by omega, by omega⟩ ⟨by omega, by omega⟩ (show m_TK I A by exact hTK) (show (0 ≤ (I 2774) ∧ (I 2774) < (I 2754) ∧ (I 2754) ≤ 1501 ∧ 0 ≤ (I 2775) ∧ (I 2775) ≤ 24) ∧ ((I 3393) = (I 3905) ∧ (I 3521) = (I 3905) ∧ (I 3649) = (I 3905) ∧ (I 3777) = (I 3905) ∧ 0 ≤ (I 3905) ∧ (I 3905) ≤ 3 * (I 2774)) ∧ ((I 4161) = (I 4033) ∧ 7 ≤ (I 4289) ∧ (I 4289) ≤ (I 4033) ∧ (I 4033) ≤ 7 + (I 2774)) ∧ 0 ≤ (I 5889) ∧ (I 5889) ≤ (I 2774) by (repeat' apply And.intro) <;> first | assumption | omega) (show m_SC I A by exact hSC) (show m_TR lo I A by exact hTR) (show 0 ≤ (I 4289) ∧ (I 4289) ≤ (I 4289) by first | assumption | omega)) (fun r12 M13 q14 => ?_)
        rcases q14 with ⟨v15, lo16, I14a, A14a, B14a, C14a, e17, ⟨r18, r19⟩, hR14a, f20, f21, f22, f23, f24, f25, f26, f27⟩ | ⟨I14b, A14b, B14b, C14b, e28, hR14b, f29⟩
        · rw [e17]
          replace hR14a : w_Rep w_TM fr X u l I14a A14a B14a C14a M13 := hR14a
          replace f20 : m_fx I A I14a A14a := f20
          replace f21 : ((0 ≤ (I14a 2774) ∧ (I14a 2774) < (I14a 2754) ∧ (I14a 2754) ≤ 1501 ∧ 0 ≤ (I14a 2775) ∧ (I14a 2775) ≤ 24) ∧ ((I14a 3393) = (I14a 3905) ∧ (I14a 3521) = (I14a 3905) ∧ (I14a 3649) = (I14a 3905) ∧ (I14a 3777) = (I14a 3905) ∧ 0 ≤ (I14a 3905) ∧ (I14a 3905) ≤ 3 * (I14a 2774)) ∧ ((I14a 4161) = (I14a 4033) ∧ 7 ≤ (I14a 4289) ∧ (I14a 4289) ≤ (I14a 4033) ∧ (I14a 4033) ≤ 7 + (I14a 2774)) ∧ 0 ≤ (I14a 5889) ∧ (I14a 5889) ≤ (I14a 2774)) ∧ ((I14a 2754) = (I 2754) ∧ (I 2774) + 1 ≤ (I14a 2774) ∧ (I14a 2775) = (I 2775) ∧ (I 4289) ≤ (I14a 4289) ∧ (I14a 5889) = (I 5889)) ∧ ((I14a 3905) + 1 ≤ (I 3905) + 3 * ((I14a 2774) - (I 2774)) ∧ (I 3905) ≤ v15 ∧ v15 + 1 = (I14a 3905) ∧ (I 4033) ≤ (I14a 4033) ∧ (I14a 4033) ≤ (I 4033) + ((I14a 2774) - (I 2774))) := f21
          obtain ⟨⟨⟨n30, n31, n32, n33, n34⟩, ⟨n35, n36, n37, n38, n39, n40⟩, ⟨n41, n42, n43, n44⟩, n45, n46⟩, ⟨n47, n48, n49, n50, n51⟩, ⟨n52, n53, n54, n55, n56⟩⟩ := id f21
          clear f21
          replace f22 : m_SC I14a A14a := f22
          replace f23 : m_TR lo16 I14a A14a := f23
          replace f24 : m_ST lo I A lo16 I14a A14a := f24
          replace f25 : (fun k => k = 27) ((A14a 53) (v15)) := f25
          replace f26 : m_rt lo16 (I14a 3905) v15 := f26
          replace f27 : m_RK lo16 (I 3905) (I14a 3905) (8 * (24 - (I 2775)) + 1) := f27
          have tk57 : m_TK I14a A14a := m_TK_fx f20 hTK
          have nn58 : (I 3905) ≤ (I14a 3905) := by omega
          have nz59 : 0 ≤ (I 3905) := by first | assumption | omega
          have ho60 : (I 2775) = (I 2775) + (0) := by omega
          have rk62 : m_RK lo16 (I 3905) (I14a 3905) (8 * (24 - (I 2775)) + (1)) := m_RK_app (I := I) (I' := I14a) (R := (8 * (24 - (I 2775)) + (1))) (show m_RK lo (I 3905) (I 3905) (8 * (24 - (I 2775)) + (1)) from fun q q1 q2 => by omega) f24 f27 (show 0 ≤ (I 3905) by first | assumption | omega) (m_r8 (by decide)) (m_r8o (k := 0) ho60 (by decide))
          have s61 : m_ST lo I A lo16 I14a A14a := f24
          have k63 : m_kd lo16 I14a A14a (I 3905) (8 * (24 - (I 2775)) + 1) v15 (fun k => k = 27) := m_kd_of f24 f23 nz59 (show (I 3905) ≤ v15 by first | assumption | omega) (show v15 < (I14a 3905) by omega) f25 f27
          obtain ⟨j64, j65, j66, j67, j68⟩ := k63.1
          show w_W _ _ _ (189, [(1, .int (Int32.ofInt ((I 4289)))), (0, .ref 43)], [.int (Int32.ofInt (v15))], M13) _
          refine w_adv (n := 3) (F' := (193, [(2, .int (Int32.ofInt (v15))), (1, .int (Int32.ofInt ((I 4289)))), (0, .ref 43)], [.int (Int32.ofInt (124)), .ref 43], M13)) rfl ?_
          refine w_call (cm := 257) (as := [(0, .ref 43), (1, .int (Int32.ofInt (124)))]) (rest := []) (o := some (9, 43)) rfl (w_fitR hR14a rfl) (m_needSign (124) hR14a (show 2 ≤ d by omega) ⟨by omega, by omega⟩ (show 0 ≤ (I14a 2774) ∧ (I14a 2774) < 1501 by omega)) (fun r69 M70 q71 => ?_)
          rcases q71 with ⟨e72, hR71a, f73⟩ | ⟨I71b, A71b, B71b, C71b, e74, hR71b, f75⟩
          · rw [e72]
            replace hR71a : w_Rep w_TM fr X u l (w_up I14a 2774 ((I14a 2774) + 1)) A14a B14a C14a M70 := hR71a
            replace f73 : (A14a 45) ((I14a 2774)) = 6 ∧ (A14a 46) ((I14a 2774)) = 124 := f73
            obtain ⟨n76, n77⟩ := id f73
            clear f73
            have w78 : (I14a 2774) + 1 < (I14a 2754) := m_TK_lt tk57 (show (I14a 2774) < (I14a 2754) by omega) (show 1 ≤ (A14a 45) ((I14a 2774)) by omega) (show (A14a 45) ((I14a 2774)) ≤ 6 by omega)
            show w_W _ _ _ (196, [(2, .int (Int32.ofInt (v15))), (1, .int (Int32.ofInt ((I 4289)))), (0, .ref 43)], [], M70) _
            refine w_adv (n := 4) (F' := (200, [(2, .int (Int32.ofInt (v15))), (1, .int (Int32.ofInt ((I 4289)))), (0, .ref 43)], [.int (Int32.ofInt (1)), .int (Int32.ofInt ((I 4289))), .int (Int32.ofInt (2)), .ref 43], M70)) rfl ?_
            refine w_call (cm := 258) (as := [(0, .ref 43), (1, .int (Int32.ofInt (2))), (2, .int (Int32.ofInt ((I 4289)))), (3, .int (Int32.ofInt (1)))]) (rest := []) (o := some (9, 43)) rfl (w_fitR hR71a rfl) (m_slot (2) ((I 4289)) (1) (lo16) hR71a (show 20 * (24 - (I14a 2775)) + 8 ≤ (d : Int) by omega) ⟨by omega, by omega⟩ ⟨by omega, by omega⟩ ⟨by omega, by omega⟩ (show m_TK (w_up I14a 2774 ((I14a 2774) + 1)) A14a by exact tk57) (show (0 ≤ (I14a 2774) + 1 ∧ (I14a 2774) + 1 < (I14a 2754) ∧ (I14a 2754) ≤ 1501 ∧ 0 ≤ (I14a 2775) ∧ (I14a 2775) ≤ 24) ∧ ((I14a 3393) = (I14a 3905) ∧ (I14a 3521) = (I14a 3905) ∧ (I14a 3649) = (I14a 3905) ∧ (I14a 3777) = (I14a 3905) ∧ 0 ≤ (I14a 3905) ∧ (I14a 3905) ≤ 3 * ((I14a 2774) + 1)) ∧ ((I14a 4161) = (I14a 4033) ∧ 7 ≤ (I14a 4289) ∧ (I14a 4289) ≤ (I14a 4033) ∧ (I14a 4033) ≤ 7 + ((I14a 2774) + 1)) ∧ 0 ≤ (I14a 5889) ∧ (I14a 5889) ≤ (I14a 2774) + 1 by (repeat' apply And.intro) <;> first | assumption | omega) (show m_SC (w_up I14a 2774 ((I14a 2774) + 1)) A14a by exact f22) (show m_TR lo16 (w_up I14a 2774 ((I14a 2774) + 1)) A14a by exact f23) (show 0 ≤ (I 4289) ∧ (I 4289) ≤ (I14a 4289) by first | assumption | omega)) (fun r79 M80 q81 => ?_)
            rcases q81 with ⟨v82, lo83, I81a, A81a, B81a, C81a, e84, ⟨r85, r86⟩, hR81a, f87, f88, f89, f90, f91, f92, f93, f94⟩ | ⟨I81b, A81b, B81b, C81b, e95, hR81b, f96⟩
            · rw [e84]
              replace hR81a : w_Rep w_TM fr X u l I81a A81a B81a C81a M80 := hR81a
              replace f87 : m_fx (w_up I14a 2774 ((I14a 2774) + 1)) A14a I81a A81a := f87
              replace f88 : ((0 ≤ (I81a 2774) ∧ (I81a 2774) < (I81a 2754) ∧ (I81a 2754) ≤ 1501 ∧ 0 ≤ (I81a 2775) ∧ (I81a 2775) ≤ 24) ∧ ((I81a 3393) = (I81a 3905) ∧ (I81a 3521) = (I81a 3905) ∧ (I81a 3649) = (I81a 3905) ∧ (I81a 3777) = (I81a 3905) ∧ 0 ≤ (I81a 3905) ∧ (I81a 3905) ≤ 3 * (I81a 2774)) ∧ ((I81a 4161) = (I81a 4033) ∧ 7 ≤ (I81a 4289) ∧ (I81a 4289) ≤ (I81a 4033) ∧ (I81a 4033) ≤ 7 + (I81a 2774)) ∧ 0 ≤ (I81a 5889) ∧ (I81a 5889) ≤ (I81a 2774)) ∧ ((I81a 2754) = (I14a 2754) ∧ ((I14a 2774) + 1) + 1 ≤ (I81a 2774) ∧ (I81a 2775) = (I14a 2775) ∧ (I14a 4289) ≤ (I81a 4289) ∧ (I81a 5889) = (I14a 5889)) ∧ ((I81a 3905) + 1 ≤ (I14a 3905) + 3 * ((I81a 2774) - ((I14a 2774) + 1)) ∧ (I14a 3905) ≤ v82 ∧ v82 + 1 = (I81a 3905) ∧ (I14a 4033) ≤ (I81a 4033) ∧ (I81a 4033) ≤ (I14a 4033) + ((I81a 2774) - ((I14a 2774) + 1))) := f88
              obtain ⟨⟨⟨n97, n98, n99, n100, n101⟩, ⟨n102, n103, n104, n105, n106, n107⟩, ⟨n108, n109, n110, n111⟩, n112, n113⟩, ⟨n114, n115, n116, n117, n118⟩, ⟨n119, n120, n121, n122, n123⟩⟩ := id f88
              clear f88
              replace f89 : m_SC I81a A81a := f89
              replace f90 : m_TR lo83 I81a A81a := f90
              replace f91 : m_ST lo16 (w_up I14a 2774 ((I14a 2774) + 1)) A14a lo83 I81a A81a := f91
              replace f92 : (fun k => k = 27) ((A81a 53) (v82)) := f92
              replace f93 : m_rt lo83 (I81a 3905) v82 := f93
              replace f94 : m_RK lo83 (I14a 3905) (I81a 3905) (8 * (24 - (I14a 2775)) + 1) := f94
              have tk124 : m_TK I81a A81a := m_TK_fx f87 tk57
              have nn125 : (I14a 3905) ≤ (I81a 3905) := by omega
              have nz126 : 0 ≤ (I14a 3905) := by first | assumption | omega
              have ho127 : (I14a 2775) = (I 2775) + (0) := by omega
              have rk129 : m_RK lo83 (I 3905) (I81a 3905) (8 * (24 - (I 2775)) + (1)) := m_RK_app (I := (w_up I14a 2774 ((I14a 2774) + 1))) (I' := I81a) (R := (8 * (24 - (I 2775)) + (1))) (show m_RK lo16 (I 3905) (I14a 3905) (8 * (24 - (I 2775)) + (1)) from rk62) f91 f94 (show 0 ≤ (I 3905) by first | assumption | omega) (m_r8 (by decide)) (m_r8o (k := 0) ho127 (by decide))
              have s128 : m_ST lo I A lo83 I81a A81a := m_ST_trans (show m_ST lo I A lo16 (w_up I14a 2774 ((I14a 2774) + 1)) A14a from s61) f91 (show 0 ≤ (I 3905) by first | assumption | omega) (show (I 3905) ≤ (I14a 3905) by first | assumption | omega) (show (I 4289) ≤ (I14a 4289) by first | assumption | omega) (show (I 5889) ≤ (I14a 5889) by first | assumption | omega)
              have k130 : m_kd lo83 I81a A81a (I 3905) (8 * (24 - (I 2775)) + 1) v15 (fun k => k = 27) := m_kd_ST f91 nn125 k63
              have rt131 := m_rt_ST f91 (show 0 ≤ v15 by omega) (show v15 < (I14a 3905) by omega) f26
              have k132 : m_kd lo83 I81a A81a (I14a 3905) (8 * (24 - (I14a 2775)) + 1) v82 (fun k => k = 27) := m_kd_of f91 f90 nz126 (show (I14a 3905) ≤ v82 by first | assumption | omega) (show v82 < (I81a 3905) by omega) f92 f94
              obtain ⟨j133, j134, j135, j136, j137⟩ := k132.1
              show w_W _ _ _ (203, [(2, .int (Int32.ofInt (v15))), (1, .int (Int32.ofInt ((I 4289)))), (0, .ref 43)], [.int (Int32.ofInt (v82))], M80) _
              refine w_adv (n := 2) (F' := (205, [(3, .int (Int32.ofInt (v82))), (2, .int (Int32.ofInt (v15))), (1, .int (Int32.ofInt ((I 4289)))), (0, .ref 43)], [.ref 43], M80)) rfl ?_
              refine w_gf (v := .ref 61) hR81a rfl rfl rfl rfl ?_
              refine w_gf (v := .ref (B81a 61)) hR81a rfl rfl rfl rfl ?_
              refine w_adv (n := 2) (F' := (213, [(3, .int (Int32.ofInt (v82))), (2, .int (Int32.ofInt (v15))), (1, .int (Int32.ofInt ((I 4289)))), (0, .ref 43)], [.int (Int32.ofInt (v82)), .int (Int32.ofInt (v15)), .ref (B81a 61)], M80)) rfl ?_
              obtain ⟨r140a, r140b, r140c⟩ : 0 ≤ (I81a 3905) ∧ (I81a 3905) ≤ (C81a 61 : Int) ∧ (C81a 61 : Int) ≤ 131072 := hR81a.sz (show 61 ∈ w_TM.2.2 by decide)
              refine w_sr hR81a rfl (by decide) (show 0 ≤ v15 by omega) (show v15 < (C81a 61 : Int) by omega) (show w_in (v82) from ⟨by omega, by omega⟩) (fun M138 hR139 => ?_)
              replace hR139 : w_Rep w_TM fr X u l I81a (w_upF A81a 61 (w_upA (A81a 61) (v15) (v82))) B81a C81a M138 := hR139
              have t141 : v82 = -1 ∨ t_L ((A81a 53) (v15)) ((A81a 53) (v82)) := (show v82 = -1 ∨ m_kd lo83 I81a A81a (I14a 3905) (8 * (24 - (I14a 2775)) + 1) v82 (fun k => k = 27) from Or.inr k132).imp_right (fun q => Or.inl ⟨by have q1 : (A81a 53) (v15) = 27 := k130.2; have q2 : (A81a 53) (v82) = 27 := q.2; omega, by have q1 : (A81a 53) (v15) = 27 := k130.2; omega⟩)
              have tr142 : m_TR lo83 I81a (w_upF A81a 61 (w_upA (A81a 61) (v15) (v82))) := m_TR_link2 (l := (I14a 3905)) (R := (8 * (24 - (I14a 2775)) + 1)) (K := (fun k => k = 27)) (show m_TR lo83 I81a A81a from f90) rfl rfl rfl rfl rfl (show 0 ≤ v15 by omega) rt131 (Or.inr k132) (Or.inr f93) (show v15 < (I14a 3905) by omega) t141
              have s143 : m_ST lo I A lo83 I81a (w_upF A81a 61 (w_upA (A81a 61) (v15) (v82))) := m_ST_link (show m_ST lo I A lo83 I81a A81a from s128) (show (I 3905) ≤ v15 by omega) rfl rfl rfl rfl rfl rfl rfl
              refine w_adv (n := 5) (F' := (220, [(3, .int (Int32.ofInt (v82))), (2, .int (Int32.ofInt (v15))), (1, .int (Int32.ofInt ((I 4289)))), (0, .ref 43)], [.int (Int32.ofInt (v15)), .int (Int32.ofInt (3)), .int (Int32.ofInt (2)), .int (Int32.ofInt (26)), .ref 43], M138)) rfl ?_
              refine w_call (cm := 239) (as := [(0, .ref 43), (1, .int (Int32.ofInt (26))), (2, .int (Int32.ofInt (2))), (3, .int (Int32.ofInt (3))), (4, .int (Int32.ofInt (v15)))]) (rest := []) (o := some (9, 43)) rfl (w_fitR hR139 rfl) (m_node (26) (2) (3) (v15) hR139 (show 2 ≤ d by omega) ⟨by omega, by omega⟩ ⟨by omega, by omega⟩ ⟨by omega, by omega⟩ ⟨by omega, by omega⟩ (show (I81a 3393) = (I81a 3905) by first | assumption | omega) (show (I81a 3521) = (I81a 3905) by first | assumption | omega) (show (I81a 3649) = (I81a 3905) by first | assumption | omega) (show (I81a 3777) = (I81a 3905) by first | assumption | omega) (show (I81a 3905) < 65536 by first | assumption | omega)) (fun r144 M145 q146 => ?_)
              rcases q146 with ⟨v147, I146a, A146a, B146a, C146a, e148, ⟨r149, r150⟩, hR146a, f151, f152⟩
              rw [e148]
              replace hR146a : w_Rep w_TM fr X u l I146a A146a B146a C146a M145 := hR146a
              replace f151 : m_fx I81a (w_upF A81a 61 (w_upA (A81a 61) (v15) (v82))) I146a A146a := f151
              replace f152 : m_nd I81a (w_upF A81a 61 (w_upA (A81a 61) (v15) (v82))) I146a A146a v147 26 2 3 v15 := f152
              obtain ⟨⟨n153, n154, n155, n156, n157, n158⟩, ⟨n159, n160, n161, n162, n163, n164, n165⟩⟩ : (v147 = (I81a 3905) ∧ (I146a 3905) = (I81a 3905) + 1 ∧ (I146a 3393) = (I81a 3393) + 1 ∧ (I146a 3521) = (I81a 3521) + 1 ∧ (I146a 3649) = (I81a 3649) + 1 ∧ (I146a 3777) = (I81a 3777) + 1) ∧ ((I146a 2774) = (I81a 2774) ∧ (I146a 2754) = (I81a 2754) ∧ (I146a 2775) = (I81a 2775) ∧ (I146a 4289) = (I81a 4289) ∧ (I146a 4033) = (I81a 4033) ∧ (I146a 4161) = (I81a 4161) ∧ (I146a 5889) = (I81a 5889)) := m_nd_num f152
              have tk166 : m_TK I146a A146a := m_TK_fx f151 tk124
              have sc167 : m_SC I146a A146a := m_SC_nd f152 f89
              have tr168 : m_TR (t_up lo83 v147 (I 3905) (8 * (24 - (I 2775)) + (2))) I146a A146a := m_TR_nd (show m_TR lo83 I81a (w_upF A81a 61 (w_upA (A81a 61) (v15) (v82))) from tr142) f152 (show 0 ≤ (I 3905) by omega) (show (I 3905) ≤ v147 by omega) (m_cl_ST (show m_ST lo I A lo83 I81a (w_upF A81a 61 (w_upA (A81a 61) (v15) (v82))) from s143) hTR (show 0 ≤ (I 3905) by omega)) (t_N_mk26 t_up_same (show 0 ≤ (I 3905) by omega) (show (I 3905) ≤ v147 by omega) (show 0 ≤ (8 * (24 - (I 2775)) + (2)) by omega) (m_hw (show m_RK lo83 (I 3905) v147 (8 * (24 - (I 2775)) + (1)) from fun q q1 q2 => (show m_RK lo83 (I 3905) (I81a 3905) (8 * (24 - (I 2775)) + (1)) from rk129) q (show (I 3905) ≤ q by omega) (show q < (I81a 3905) by omega)) (m_r8l (by decide))) (Or.inr (m_ch f152 (show (I 3905) ≤ (I 3905) by omega) (show m_kd lo83 I81a (w_upF A81a 61 (w_upA (A81a 61) (v15) (v82))) (I 3905) (8 * (24 - (I 2775)) + 1) v15 (fun k => k = 27) from k130))))
              have s169 : m_ST lo I A (t_up lo83 v147 (I 3905) (8 * (24 - (I 2775)) + (2))) I146a A146a := m_ST_nd (l := (I 3905)) (show m_ST lo I A lo83 I81a (w_upF A81a 61 (w_upA (A81a 61) (v15) (v82))) from s143) f152 (show (I 3905) ≤ (I 3905) by omega) (show (I 3905) ≤ (I81a 3905) by omega)
              have rk170 : m_RK (t_up lo83 v147 (I 3905) (8 * (24 - (I 2775)) + (2))) (I 3905) (I146a 3905) (8 * (24 - (I 2775)) + (2)) := fun q q1 q2 => m_RK_nd (show m_RK lo83 (I 3905) v147 (8 * (24 - (I 2775)) + (1)) from fun q q1 q2 => (show m_RK lo83 (I 3905) (I81a 3905) (8 * (24 - (I 2775)) + (1)) from rk129) q q1 (show q < (I81a 3905) by omega)) (m_r8 (by decide)) (m_r8 (by decide)) q q1 (show q < v147 + 1 by omega)
              have k171 : m_kd (t_up lo83 v147 (I 3905) (8 * (24 - (I 2775)) + (2))) I146a A146a (I 3905) (8 * (24 - (I 2775)) + (2)) v147 (fun k => k = 26) := m_kd_new f152 (show 0 ≤ (I 3905) by omega) (show (I 3905) ≤ v147 by omega) rfl
              have rt172 : m_rt (t_up lo83 v147 (I 3905) (8 * (24 - (I 2775)) + (2))) (I146a 3905) v147 := m_rt_new f152
              show w_W _ _ _ (223, [(3, .int (Int32.ofInt (v82))), (2, .int (Int32.ofInt (v15))), (1, .int (Int32.ofInt ((I 4289)))), (0, .ref 43)], [.int (Int32.ofInt (v147))], M145) _
              refine w_fin (r := .inl (some (v147))) (M' := M145) rfl ?_
              exact Or.inl ⟨v147, (t_up lo83 v147 (I 3905) (8 * (24 - (I 2775)) + (2))), I146a, A146a, B146a, C146a, rfl, ⟨by omega, by omega⟩, hR146a, (show m_fx I A I146a A146a by exact (m_fx_trans (m_fx_trans f20 f87) f151)), (show ((0 ≤ (I146a 2774) ∧ (I146a 2774) < (I146a 2754) ∧ (I146a 2754) ≤ 1501 ∧ 0 ≤ (I146a 2775) ∧ (I146a 2775) ≤ 24) ∧ ((I146a 3393) = (I146a 3905) ∧ (I146a 3521) = (I146a 3905) ∧ (I146a 3649) = (I146a 3905) ∧ (I146a 3777) = (I146a 3905) ∧ 0 ≤ (I146a 3905) ∧ (I146a 3905) ≤ 3 * (I146a 2774)) ∧ ((I146a 4161) = (I146a 4033) ∧ 7 ≤ (I146a 4289) ∧ (I146a 4289) ≤ (I146a 4033) ∧ (I146a 4033) ≤ 7 + (I146a 2774)) ∧ 0 ≤ (I146a 5889) ∧ (I146a 5889) ≤ (I146a 2774)) ∧ ((I146a 2754) = (I 2754) ∧ (I 2774) + 1 ≤ (I146a 2774) ∧ (I146a 2775) = (I 2775) ∧ (I 4289) ≤ (I146a 4289) ∧ (I146a 5889) = (I 5889)) ∧ ((I146a 3905) + 1 ≤ (I 3905) + 3 * ((I146a 2774) - (I 2774)) ∧ (I 3905) ≤ v147 ∧ v147 + 1 = (I146a 3905) ∧ (I 4033) ≤ (I146a 4033) ∧ (I146a 4033) ≤ (I 4033) + ((I146a 2774) - (I 2774))) by (repeat' apply And.intro) <;> first | assumption | omega), (show m_SC I146a A146a by exact sc167), (show m_TR (t_up lo83 v147 (I 3905) (8 * (24 - (I 2775)) + (2))) I146a A146a by exact tr168), (show m_ST lo I A (t_up lo83 v147 (I 3905) (8 * (24 - (I 2775)) + (2))) I146a A146a by exact s169), (show (fun k => k = 26) ((A146a 53) (v147)) by exact (k171).2), (show m_rt (t_up lo83 v147 (I 3905) (8 * (24 - (I 2775)) + (2))) (I146a 3905) v147 by exact rt172), (show m_RK (t_up lo83 v147 (I 3905) (8 * (24 - (I 2775)) + (2))) (I 3905) (I146a 3905) (8 * (24 - (I 2775)) + 2) by exact m_RK_le (show m_RK (t_up lo83 v147 (I 3905) (8 * (24 - (I 2775)) + (2))) (I 3905) (I146a 3905) (8 * (24 - (I 2775)) + (2)) from rk170) (show (8 * (24 - (I 2775)) + (2)) ≤ 8 * (24 - (I 2775)) + 2 by omega))⟩
            · rw [e95]
              replace hR81b : w_Rep w_TM fr X u l I81b A81b B81b C81b M80 := hR81b
              replace f96 : m_fx (w_up I14a 2774 ((I14a 2774) + 1)) A14a I81b A81b := f96
              exact Or.inr (⟨I81b, A81b, B81b, C81b, rfl, hR81b, (show m_fx I A I81b A81b by exact (m_fx_trans f20 f96))⟩)
          · rw [e74]
            replace hR71b : w_Rep w_TM fr X u l I71b A71b B71b C71b M70 := hR71b
            replace f75 : m_fx I14a A14a I71b A71b := f75
            exact Or.inr (⟨I71b, A71b, B71b, C71b, rfl, hR71b, (show m_fx I A I71b A71b by exact (m_fx_trans f20 f75))⟩)
        · rw [e28]
          replace hR14b : w_Rep w_TM fr X u l I14b A14b B14b C14b M13 := hR14b
          replace f29 : m_fx I A I14b A14b := f29
          exact Or.inr (⟨I14b, A14b, B14b, C14b, rfl, hR14b, (show m_fx I A I14b A14b by exact f29)⟩)
      · have h7 : ¬ ((A 45) ((I 2774)) = 2) := h7
        show w_W _ _ _ (156, [(0, .ref 43)], [], M) _
        refine w_adv (n := 1) (F' := (157, [(0, .ref 43)], [.ref 43], M)) rfl ?_
        refine w_gf (v := .ref 45) hR rfl rfl rfl rfl ?_
        refine w_adv (n := 1) (F' := (161, [(0, .ref 43)], [.ref 43, .ref 45], M)) rfl ?_
        refine w_gf (v := .int (Int32.ofInt ((I 2774)))) hR rfl rfl rfl rfl ?_
        refine w_la (n := 1502) hR rfl (Or.inl ⟨rfl, rfl⟩) rfl (show 0 ≤ (I 2774) by omega) (show (I 2774) < (1502 : Int) by omega) (by decide) ?_
        show w_W _ _ _ (165, [(0, .ref 43)], [.int (Int32.ofInt ((A 45) ((I 2774))))], M) _
        refine w_adv (n := 1) (F' := (166, [(0, .ref 43)], [.int (Int32.ofInt (3)), .int (Int32.ofInt ((A 45) ((I 2774))))], M)) rfl ?_
        refine w_br2 (a := (A 45) ((I 2774))) (b := 3) rfl rfl ⟨by omega, by omega⟩ ⟨by omega, by omega⟩ (fun h173 => ?_) (fun h173 => ?_)
        · have h173 : (A 45) ((I 2774)) = 3 := h173
          have w174 : (I 2774) + 1 < (I 2754) := m_TK_lt hTK (by omega) (by omega) (by omega)
          show w_W _ _ _ (174, [(0, .ref 43)], [], M) _
          refine w_adv (n := 1) (F' := (175, [(0, .ref 43)], [.ref 43], M)) rfl ?_
          refine w_gf (v := .ref 67) hR rfl rfl rfl rfl ?_
          refine w_gf (v := .int (Int32.ofInt ((I 4289)))) hR rfl rfl rfl rfl ?_
          obtain ⟨r175, r176⟩ : -2147483648 ≤ (I 4289) ∧ (I 4289) ≤ 2147483647 := hR.ri 4289
          obtain ⟨r177a, r177b, r177c⟩ : 0 ≤ (I 4289) ∧ (I 4289) ≤ (C 67 : Int) ∧ (C 67 : Int) ≤ 131072 := hR.sz (show 67 ∈ w_TM.2.2 by decide)
          refine w_adv (n := 5) (F' := (186, [(1, .int (Int32.ofInt ((I 4289)))), (0, .ref 43)], [.int (Int32.ofInt (0)), .int (Int32.ofInt ((I 4289))), .int (Int32.ofInt (1)), .ref 43], M)) rfl ?_
          refine w_call (cm := 258) (as := [(0, .ref 43), (1, .int (Int32.ofInt (1))), (2, .int (Int32.ofInt ((I 4289)))), (3, .int (Int32.ofInt (0)))]) (rest := []) (o := some (9, 43)) rfl (w_fitR hR rfl) (m_slot (1) ((I 4289)) (0) (lo) hR (show 20 * (24 - (I 2775)) + 8 ≤ (d : Int) by omega) ⟨by omega, by omega⟩ ⟨by omega, by omega⟩ ⟨by omega, by omega⟩ (show m_TK I A by exact hTK) (show (0 ≤ (I 2774) ∧ (I 2774) < (I 2754) ∧ (I 2754) ≤ 1501 ∧ 0 ≤ (I 2775) ∧ (I 2775) ≤ 24) ∧ ((I 3393) = (I 3905) ∧ (I 3521) = (I 3905) ∧ (I 3649) = (I 3905) ∧ (I 3777) = (I 3905) ∧ 0 ≤ (I 3905) ∧ (I 3905) ≤ 3 * (I 2774)) ∧ ((I 4161) = (I 4033) ∧ 7 ≤ (I 4289) ∧ (I 4289) ≤ (I 4033) ∧ (I 4033) ≤ 7 + (I 2774)) ∧ 0 ≤ (I 5889) ∧ (I 5889) ≤ (I 2774) by (repeat' apply And.intro) <;> first | assumption | omega) (show m_SC I A by exact hSC) (show m_TR lo I A by exact hTR) (show 0 ≤ (I 4289) ∧ (I 4289) ≤ (I 4289) by first | assumption | omega)) (fun r178 M179 q180 => ?_)
          rcases q180 with ⟨v181, lo182, I180a, A180a, B180a, C180a, e183, ⟨r184, r185⟩, hR180a, f186, f187, f188, f189, f190, f191, f192, f193⟩ | ⟨I180b, A180b, B180b, C180b, e194, hR180b, f195⟩
          · rw [e183]
            replace hR180a : w_Rep w_TM fr X u l I180a A180a B180a C180a M179 := hR180a
            replace f186 : m_fx I A I180a A180a := f186
            replace f187 : ((0 ≤ (I180a 2774) ∧ (I180a 2774) < (I180a 2754) ∧ (I180a 2754) ≤ 1501 ∧ 0 ≤ (I180a 2775) ∧ (I180a 2775) ≤ 24) ∧ ((I180a 3393) = (I180a 3905) ∧ (I180a 3521) = (I180a 3905) ∧ (I180a 3649) = (I180a 3905) ∧ (I180a 3777) = (I180a 3905) ∧ 0 ≤ (I180a 3905) ∧ (I180a 3905) ≤ 3 * (I180a 2774)) ∧ ((I180a 4161) = (I180a 4033) ∧ 7 ≤ (I180a 4289) ∧ (I180a 4289) ≤ (I180a 4033) ∧ (I180a 4033) ≤ 7 + (I180a 2774)) ∧ 0 ≤ (I180a 5889) ∧ (I180a 5889) ≤ (I180a 2774)) ∧ ((I180a 2754) = (I 2754) ∧ (I 2774) + 1 ≤ (I180a 2774) ∧ (I180a 2775) = (I 2775) ∧ (I 4289) ≤ (I180a 4289) ∧ (I180a 5889) = (I 5889)) ∧ ((I180a 3905) + 1 ≤ (I 3905) + 3 * ((I180a 2774) - (I 2774)) ∧ (I 3905) ≤ v181 ∧ v181 + 1 = (I180a 3905) ∧ (I 4033) ≤ (I180a 4033) ∧ (I180a 4033) ≤ (I 4033) + ((I180a 2774) - (I 2774))) := f187
            obtain ⟨⟨⟨n196, n197, n198, n199, n200⟩, ⟨n201, n202, n203, n204, n205, n206⟩, ⟨n207, n208, n209, n210⟩, n211, n212⟩, ⟨n213, n214, n215, n216, n217⟩, ⟨n218, n219, n220, n221, n222⟩⟩ := id f187
            clear f187
            replace f188 : m_SC I180a A180a := f188
            replace f189 : m_TR lo182 I180a A180a := f189
            replace f190 : m_ST lo I A lo182 I180a A180a := f190
            replace f191 : (fun k => k = 27) ((A180a 53) (v181)) := f191
            replace f192 : m_rt lo182 (I180a 3905) v181 := f192
            replace f193 : m_RK lo182 (I 3905) (I180a 3905) (8 * (24 - (I 2775)) + 1) := f193
            have tk223 : m_TK I180a A180a := m_TK_fx f186 hTK
            have nn224 : (I 3905) ≤ (I180a 3905) := by omega
            have nz225 : 0 ≤ (I 3905) := by first | assumption | omega
            have ho226 : (I 2775) = (I 2775) + (0) := by omega
            have rk228 : m_RK lo182 (I 3905) (I180a 3905) (8 * (24 - (I 2775)) + (1)) := m_RK_app (I := I) (I' := I180a) (R := (8 * (24 - (I 2775)) + (1))) (show m_RK lo (I 3905) (I 3905) (8 * (24 - (I 2775)) + (1)) from fun q q1 q2 => by omega) f190 f193 (show 0 ≤ (I 3905) by first | assumption | omega) (m_r8 (by decide)) (m_r8o (k := 0) ho226 (by decide))
            have s227 : m_ST lo I A lo182 I180a A180a := f190
            have k229 : m_kd lo182 I180a A180a (I 3905) (8 * (24 - (I 2775)) + 1) v181 (fun k => k = 27) := m_kd_of f190 f189 nz225 (show (I 3905) ≤ v181 by first | assumption | omega) (show v181 < (I180a 3905) by omega) f191 f193
            obtain ⟨j230, j231, j232, j233, j234⟩ := k229.1
            show w_W _ _ _ (189, [(1, .int (Int32.ofInt ((I 4289)))), (0, .ref 43)], [.int (Int32.ofInt (v181))], M179) _
            refine w_adv (n := 3) (F' := (193, [(2, .int (Int32.ofInt (v181))), (1, .int (Int32.ofInt ((I 4289)))), (0, .ref 43)], [.int (Int32.ofInt (124)), .ref 43], M179)) rfl ?_
            refine w_call (cm := 257) (as := [(0, .ref 43), (1, .int (Int32.ofInt (124)))]) (rest := []) (o := some (9, 43)) rfl (w_fitR hR180a rfl) (m_needSign (124) hR180a (show 2 ≤ d by omega) ⟨by omega, by omega⟩ (show 0 ≤ (I180a 2774) ∧ (I180a 2774) < 1501 by omega)) (fun r235 M236 q237 => ?_)
            rcases q237 with ⟨e238, hR237a, f239⟩ | ⟨I237b, A237b, B237b, C237b, e240, hR237b, f241⟩
            · rw [e238]
              replace hR237a : w_Rep w_TM fr X u l (w_up I180a 2774 ((I180a 2774) + 1)) A180a B180a C180a M236 := hR237a
              replace f239 : (A180a 45) ((I180a 2774)) = 6 ∧ (A180a 46) ((I180a 2774)) = 124 := f239
              obtain ⟨n242, n243⟩ := id f239
              clear f239
              have w244 : (I180a 2774) + 1 < (I180a 2754) := m_TK_lt tk223 (show (I180a 2774) < (I180a 2754) by omega) (show 1 ≤ (A180a 45) ((I180a 2774)) by omega) (show (A180a 45) ((I180a 2774)) ≤ 6 by omega)
              show w_W _ _ _ (196, [(2, .int (Int32.ofInt (v181))), (1, .int (Int32.ofInt ((I 4289)))), (0, .ref 43)], [], M236) _
              refine w_adv (n := 4) (F' := (200, [(2, .int (Int32.ofInt (v181))), (1, .int (Int32.ofInt ((I 4289)))), (0, .ref 43)], [.int (Int32.ofInt (1)), .int (Int32.ofInt ((I 4289))), .int (Int32.ofInt (2)), .ref 43], M236)) rfl ?_
              refine w_call (cm := 258) (as := [(0, .ref 43), (1, .int (Int32.ofInt (2))), (2, .int (Int32.ofInt ((I 4289)))), (3, .int (Int32.ofInt (1)))]) (rest := []) (o := some (9, 43)) rfl (w_fitR hR237a rfl) (m_slot (2) ((I 4289)) (1) (lo182) hR237a (show 20 * (24 - (I180a 2775)) + 8 ≤ (d : Int) by omega) ⟨by omega, by omega⟩ ⟨by omega, by omega⟩ ⟨by omega, by omega⟩ (show m_TK (w_up I180a 2774 ((I180a 2774) + 1)) A180a by exact tk223) (show (0 ≤ (I180a 2774) + 1 ∧ (I180a 2774) + 1 < (I180a 2754) ∧ (I180a 2754) ≤ 1501 ∧ 0 ≤ (I180a 2775) ∧ (I180a 2775) ≤ 24) ∧ ((I180a 3393) = (I180a 3905) ∧ (I180a 3521) = (I180a 3905) ∧ (I180a 3649) = (I180a 3905) ∧ (I180a 3777) = (I180a 3905) ∧ 0 ≤ (I180a 3905) ∧ (I180a 3905) ≤ 3 * ((I180a 2774) + 1)) ∧ ((I180a 4161) = (I180a 4033) ∧ 7 ≤ (I180a 4289) ∧ (I180a 4289) ≤ (I180a 4033) ∧ (I180a 4033) ≤ 7 + ((I180a 2774) + 1)) ∧ 0 ≤ (I180a 5889) ∧ (I180a 5889) ≤ (I180a 2774) + 1 by (repeat' apply And.intro) <;> first | assumption | omega) (show m_SC (w_up I180a 2774 ((I180a 2774) + 1)) A180a by exact f188) (show m_TR lo182 (w_up I180a 2774 ((I180a 2774) + 1)) A180a by exact f189) (show 0 ≤ (I 4289) ∧ (I 4289) ≤ (I180a 4289) by first | assumption | omega)) (fun r245 M246 q247 => ?_)
              rcases q247 with ⟨v248, lo249, I247a, A247a, B247a, C247a, e250, ⟨r251, r252⟩, hR247a, f253, f254, f255, f256, f257, f258, f259, f260⟩ | ⟨I247b, A247b, B247b, C247b, e261, hR247b, f262⟩
              · rw [e250]
                replace hR247a : w_Rep w_TM fr X u l I247a A247a B247a C247a M246 := hR247a
                replace f253 : m_fx (w_up I180a 2774 ((I180a 2774) + 1)) A180a I247a A247a := f253
                replace f254 : ((0 ≤ (I247a 2774) ∧ (I247a 2774) < (I247a 2754) ∧ (I247a 2754) ≤ 1501 ∧ 0 ≤ (I247a 2775) ∧ (I247a 2775) ≤ 24) ∧ ((I247a 3393) = (I247a 3905) ∧ (I247a 3521) = (I247a 3905) ∧ (I247a 3649) = (I247a 3905) ∧ (I247a 3777) = (I247a 3905) ∧ 0 ≤ (I247a 3905) ∧ (I247a 3905) ≤ 3 * (I247a 2774)) ∧ ((I247a 4161) = (I247a 4033) ∧ 7 ≤ (I247a 4289) ∧ (I247a 4289) ≤ (I247a 4033) ∧ (I247a 4033) ≤ 7 + (I247a 2774)) ∧ 0 ≤ (I247a 5889) ∧ (I247a 5889) ≤ (I247a 2774)) ∧ ((I247a 2754) = (I180a 2754) ∧ ((I180a 2774) + 1) + 1 ≤ (I247a 2774) ∧ (I247a 2775) = (I180a 2775) ∧ (I180a 4289) ≤ (I247a 4289) ∧ (I247a 5889) = (I180a 5889)) ∧ ((I247a 3905) + 1 ≤ (I180a 3905) + 3 * ((I247a 2774) - ((I180a 2774) + 1)) ∧ (I180a 3905) ≤ v248 ∧ v248 + 1 = (I247a 3905) ∧ (I180a 4033) ≤ (I247a 4033) ∧ (I247a 4033) ≤ (I180a 4033) + ((I247a 2774) - ((I180a 2774) + 1))) := f254
                obtain ⟨⟨⟨n263, n264, n265, n266, n267⟩, ⟨n268, n269, n270, n271, n272, n273⟩, ⟨n274, n275, n276, n277⟩, n278, n279⟩, ⟨n280, n281, n282, n283, n284⟩, ⟨n285, n286, n287, n288, n289⟩⟩ := id f254
                clear f254
                replace f255 : m_SC I247a A247a := f255
                replace f256 : m_TR lo249 I247a A247a := f256
                replace f257 : m_ST lo182 (w_up I180a 2774 ((I180a 2774) + 1)) A180a lo249 I247a A247a := f257
                replace f258 : (fun k => k = 27) ((A247a 53) (v248)) := f258
                replace f259 : m_rt lo249 (I247a 3905) v248 := f259
                replace f260 : m_RK lo249 (I180a 3905) (I247a 3905) (8 * (24 - (I180a 2775)) + 1) := f260
                have tk290 : m_TK I247a A247a := m_TK_fx f253 tk223
                have nn291 : (I180a 3905) ≤ (I247a 3905) := by omega
                have nz292 : 0 ≤ (I180a 3905) := by first | assumption | omega
                have ho293 : (I180a 2775) = (I 2775) + (0) := by omega
                have rk295 : m_RK lo249 (I 3905) (I247a 3905) (8 * (24 - (I 2775)) + (1)) := m_RK_app (I := (w_up I180a 2774 ((I180a 2774) + 1))) (I' := I247a) (R := (8 * (24 - (I 2775)) + (1))) (show m_RK lo182 (I 3905) (I180a 3905) (8 * (24 - (I 2775)) + (1)) from rk228) f257 f260 (show 0 ≤ (I 3905) by first | assumption | omega) (m_r8 (by decide)) (m_r8o (k := 0) ho293 (by decide))
                have s294 : m_ST lo I A lo249 I247a A247a := m_ST_trans (show m_ST lo I A lo182 (w_up I180a 2774 ((I180a 2774) + 1)) A180a from s227) f257 (show 0 ≤ (I 3905) by first | assumption | omega) (show (I 3905) ≤ (I180a 3905) by first | assumption | omega) (show (I 4289) ≤ (I180a 4289) by first | assumption | omega) (show (I 5889) ≤ (I180a 5889) by first | assumption | omega)
                have k296 : m_kd lo249 I247a A247a (I 3905) (8 * (24 - (I 2775)) + 1) v181 (fun k => k = 27) := m_kd_ST f257 nn291 k229
                have rt297 := m_rt_ST f257 (show 0 ≤ v181 by omega) (show v181 < (I180a 3905) by omega) f192
                have k298 : m_kd lo249 I247a A247a (I180a 3905) (8 * (24 - (I180a 2775)) + 1) v248 (fun k => k = 27) := m_kd_of f257 f256 nz292 (show (I180a 3905) ≤ v248 by first | assumption | omega) (show v248 < (I247a 3905) by omega) f258 f260
                obtain ⟨j299, j300, j301, j302, j303⟩ := k298.1
                show w_W _ _ _ (203, [(2, .int (Int32.ofInt (v181))), (1, .int (Int32.ofInt ((I 4289)))), (0, .ref 43)], [.int (Int32.ofInt (v248))], M246) _
                refine w_adv (n := 2) (F' := (205, [(3, .int (Int32.ofInt (v248))), (2, .int (Int32.ofInt (v181))), (1, .int (Int32.ofInt ((I 4289)))), (0, .ref 43)], [.ref 43], M246)) rfl ?_
                refine w_gf (v := .ref 61) hR247a rfl rfl rfl rfl ?_
                refine w_gf (v := .ref (B247a 61)) hR247a rfl rfl rfl rfl ?_
                refine w_adv (n := 2) (F' := (213, [(3, .int (Int32.ofInt (v248))), (2, .int (Int32.ofInt (v181))), (1, .int (Int32.ofInt ((I 4289)))), (0, .ref 43)], [.int (Int32.ofInt (v248)), .int (Int32.ofInt (v181)), .ref (B247a 61)], M246)) rfl ?_
                obtain ⟨r306a, r306b, r306c⟩ : 0 ≤ (I247a 3905) ∧ (I247a 3905) ≤ (C247a 61 : Int) ∧ (C247a 61 : Int) ≤ 131072 := hR247a.sz (show 61 ∈ w_TM.2.2 by decide)
                refine w_sr hR247a rfl (by decide) (show 0 ≤ v181 by omega) (show v181 < (C247a 61 : Int) by omega) (show w_in (v248) from ⟨by omega, by omega⟩) (fun M304 hR305 => ?_)
                replace hR305 : w_Rep w_TM fr X u l I247a (w_upF A247a 61 (w_upA (A247a 61) (v181) (v248))) B247a C247a M304 := hR305
                have t307 : v248 = -1 ∨ t_L ((A247a 53) (v181)) ((A247a 53) (v248)) := (show v248 = -1 ∨ m_kd lo249 I247a A247a (I180a 3905) (8 * (24 - (I180a 2775)) + 1) v248 (fun k => k = 27) from Or.inr k298).imp_right (fun q => Or.inl ⟨by have q1 : (A247a 53) (v181) = 27 := k296.2; have q2 : (A247a 53) (v248) = 27 := q.2; omega, by have q1 : (A247a 53) (v181) = 27 := k296.2; omega⟩)
                have tr308 : m_TR lo249 I247a (w_upF A247a 61 (w_upA (A247a 61) (v181) (v248))) := m_TR_link2 (l := (I180a 3905)) (R := (8 * (24 - (I180a 2775)) + 1)) (K := (fun k => k = 27)) (show m_TR lo249 I247a A247a from f256) rfl rfl rfl rfl rfl (show 0 ≤ v181 by omega) rt297 (Or.inr k298) (Or.inr f259) (show v181 < (I180a 3905) by omega) t307
                have s309 : m_ST lo I A lo249 I247a (w_upF A247a 61 (w_upA (A247a 61) (v181) (v248))) := m_ST_link (show m_ST lo I A lo249 I247a A247a from s294) (show (I 3905) ≤ v181 by omega) rfl rfl rfl rfl rfl rfl rfl
                refine w_adv (n := 5) (F' := (220, [(3, .int (Int32.ofInt (v248))), (2, .int (Int32.ofInt (v181))), (1, .int (Int32.ofInt ((I 4289)))), (0, .ref 43)], [.int (Int32.ofInt (v181)), .int (Int32.ofInt (3)), .int (Int32.ofInt (2)), .int (Int32.ofInt (26)), .ref 43], M304)) rfl ?_
                refine w_call (cm := 239) (as := [(0, .ref 43), (1, .int (Int32.ofInt (26))), (2, .int (Int32.ofInt (2))), (3, .int (Int32.ofInt (3))), (4, .int (Int32.ofInt (v181)))]) (rest := []) (o := some (9, 43)) rfl (w_fitR hR305 rfl) (m_node (26) (2) (3) (v181) hR305 (show 2 ≤ d by omega) ⟨by omega, by omega⟩ ⟨by omega, by omega⟩ ⟨by omega, by omega⟩ ⟨by omega, by omega⟩ (show (I247a 3393) = (I247a 3905) by first | assumption | omega) (show (I247a 3521) = (I247a 3905) by first | assumption | omega) (show (I247a 3649) = (I247a 3905) by first | assumption | omega) (show (I247a 3777) = (I247a 3905) by first | assumption | omega) (show (I247a 3905) < 65536 by first | assumption | omega)) (fun r310 M311 q312 => ?_)
                rcases q312 with ⟨v313, I312a, A312a, B312a, C312a, e314, ⟨r315, r316⟩, hR312a, f317, f318⟩
                rw [e314]
                replace hR312a : w_Rep w_TM fr X u l I312a A312a B312a C312a M311 := hR312a
                replace f317 : m_fx I247a (w_upF A247a 61 (w_upA (A247a 61) (v181) (v248))) I312a A312a := f317
                replace f318 : m_nd I247a (w_upF A247a 61 (w_upA (A247a 61) (v181) (v248))) I312a A312a v313 26 2 3 v181 := f318
                obtain ⟨⟨n319, n320, n321, n322, n323, n324⟩, ⟨n325, n326, n327, n328, n329, n330, n331⟩⟩ : (v313 = (I247a 3905) ∧ (I312a 3905) = (I247a 3905) + 1 ∧ (I312a 3393) = (I247a 3393) + 1 ∧ (I312a 3521) = (I247a 3521) + 1 ∧ (I312a 3649) = (I247a 3649) + 1 ∧ (I312a 3777) = (I247a 3777) + 1) ∧ ((I312a 2774) = (I247a 2774) ∧ (I312a 2754) = (I247a 2754) ∧ (I312a 2775) = (I247a 2775) ∧ (I312a 4289) = (I247a 4289) ∧ (I312a 4033) = (I247a 4033) ∧ (I312a 4161) = (I247a 4161) ∧ (I312a 5889) = (I247a 5889)) := m_nd_num f318
                have tk332 : m_TK I312a A312a := m_TK_fx f317 tk290
                have sc333 : m_SC I312a A312a := m_SC_nd f318 f255
                have tr334 : m_TR (t_up lo249 v313 (I 3905) (8 * (24 - (I 2775)) + (2))) I312a A312a := m_TR_nd (show m_TR lo249 I247a (w_upF A247a 61 (w_upA (A247a 61) (v181) (v248))) from tr308) f318 (show 0 ≤ (I 3905) by omega) (show (I 3905) ≤ v313 by omega) (m_cl_ST (show m_ST lo I A lo249 I247a (w_upF A247a 61 (w_upA (A247a 61) (v181) (v248))) from s309) hTR (show 0 ≤ (I 3905) by omega)) (t_N_mk26 t_up_same (show 0 ≤ (I 3905) by omega) (show (I 3905) ≤ v313 by omega) (show 0 ≤ (8 * (24 - (I 2775)) + (2)) by omega) (m_hw (show m_RK lo249 (I 3905) v313 (8 * (24 - (I 2775)) + (1)) from fun q q1 q2 => (show m_RK lo249 (I 3905) (I247a 3905) (8 * (24 - (I 2775)) + (1)) from rk295) q (show (I 3905) ≤ q by omega) (show q < (I247a 3905) by omega)) (m_r8l (by decide))) (Or.inr (m_ch f318 (show (I 3905) ≤ (I 3905) by omega) (show m_kd lo249 I247a (w_upF A247a 61 (w_upA (A247a 61) (v181) (v248))) (I 3905) (8 * (24 - (I 2775)) + 1) v181 (fun k => k = 27) from k296))))
                have s335 : m_ST lo I A (t_up lo249 v313 (I 3905) (8 * (24 - (I 2775)) + (2))) I312a A312a := m_ST_nd (l := (I 3905)) (show m_ST lo I A lo249 I247a (w_upF A247a 61 (w_upA (A247a 61) (v181) (v248))) from s309) f318 (show (I 3905) ≤ (I 3905) by omega) (show (I 3905) ≤ (I247a 3905) by omega)
                have rk336 : m_RK (t_up lo249 v313 (I 3905) (8 * (24 - (I 2775)) + (2))) (I 3905) (I312a 3905) (8 * (24 - (I 2775)) + (2)) := fun q q1 q2 => m_RK_nd (show m_RK lo249 (I 3905) v313 (8 * (24 - (I 2775)) + (1)) from fun q q1 q2 => (show m_RK lo249 (I 3905) (I247a 3905) (8 * (24 - (I 2775)) + (1)) from rk295) q q1 (show q < (I247a 3905) by omega)) (m_r8 (by decide)) (m_r8 (by decide)) q q1 (show q < v313 + 1 by omega)
                have k337 : m_kd (t_up lo249 v313 (I 3905) (8 * (24 - (I 2775)) + (2))) I312a A312a (I 3905) (8 * (24 - (I 2775)) + (2)) v313 (fun k => k = 26) := m_kd_new f318 (show 0 ≤ (I 3905) by omega) (show (I 3905) ≤ v313 by omega) rfl
                have rt338 : m_rt (t_up lo249 v313 (I 3905) (8 * (24 - (I 2775)) + (2))) (I312a 3905) v313 := m_rt_new f318
                show w_W _ _ _ (223, [(3, .int (Int32.ofInt (v248))), (2, .int (Int32.ofInt (v181))), (1, .int (Int32.ofInt ((I 4289)))), (0, .ref 43)], [.int (Int32.ofInt (v313))], M311) _
                refine w_fin (r := .inl (some (v313))) (M' := M311) rfl ?_
                exact Or.inl ⟨v313, (t_up lo249 v313 (I 3905) (8 * (24 - (I 2775)) + (2))), I312a, A312a, B312a, C312a, rfl, ⟨by omega, by omega⟩, hR312a, (show m_fx I A I312a A312a by exact (m_fx_trans (m_fx_trans f186 f253) f317)), (show ((0 ≤ (I312a 2774) ∧ (I312a 2774) < (I312a 2754) ∧ (I312a 2754) ≤ 1501 ∧ 0 ≤ (I312a 2775) ∧ (I312a 2775) ≤ 24) ∧ ((I312a 3393) = (I312a 3905) ∧ (I312a 3521) = (I312a 3905) ∧ (I312a 3649) = (I312a 3905) ∧ (I312a 3777) = (I312a 3905) ∧ 0 ≤ (I312a 3905) ∧ (I312a 3905) ≤ 3 * (I312a 2774)) ∧ ((I312a 4161) = (I312a 4033) ∧ 7 ≤ (I312a 4289) ∧ (I312a 4289) ≤ (I312a 4033) ∧ (I312a 4033) ≤ 7 + (I312a 2774)) ∧ 0 ≤ (I312a 5889) ∧ (I312a 5889) ≤ (I312a 2774)) ∧ ((I312a 2754) = (I 2754) ∧ (I 2774) + 1 ≤ (I312a 2774) ∧ (I312a 2775) = (I 2775) ∧ (I 4289) ≤ (I312a 4289) ∧ (I312a 5889) = (I 5889)) ∧ ((I312a 3905) + 1 ≤ (I 3905) + 3 * ((I312a 2774) - (I 2774)) ∧ (I 3905) ≤ v313 ∧ v313 + 1 = (I312a 3905) ∧ (I 4033) ≤ (I312a 4033) ∧ (I312a 4033) ≤ (I 4033) + ((I312a 2774) - (I 2774))) by (repeat' apply And.intro) <;> first | assumption | omega), (show m_SC I312a A312a by exact sc333), (show m_TR (t_up lo249 v313 (I 3905) (8 * (24 - (I 2775)) + (2))) I312a A312a by exact tr334), (show m_ST lo I A (t_up lo249 v313 (I 3905) (8 * (24 - (I 2775)) + (2))) I312a A312a by exact s335), (show (fun k => k = 26) ((A312a 53) (v313)) by exact (k337).2), (show m_rt (t_up lo249 v313 (I 3905) (8 * (24 - (I 2775)) + (2))) (I312a 3905) v313 by exact rt338), (show m_RK (t_up lo249 v313 (I 3905) (8 * (24 - (I 2775)) + (2))) (I 3905) (I312a 3905) (8 * (24 - (I 2775)) + 2) by exact m_RK_le (show m_RK (t_up lo249 v313 (I 3905) (8 * (24 - (I 2775)) + (2))) (I 3905) (I312a 3905) (8 * (24 - (I 2775)) + (2)) from rk336) (show (8 * (24 - (I 2775)) + (2)) ≤ 8 * (24 - (I 2775)) + 2 by omega))⟩
              · rw [e261]
                replace hR247b : w_Rep w_TM fr X u l I247b A247b B247b C247b M246 := hR247b
                replace f262 : m_fx (w_up I180a 2774 ((I180a 2774) + 1)) A180a I247b A247b := f262
                exact Or.inr (⟨I247b, A247b, B247b, C247b, rfl, hR247b, (show m_fx I A I247b A247b by exact (m_fx_trans f186 f262))⟩)
            · rw [e240]
              replace hR237b : w_Rep w_TM fr X u l I237b A237b B237b C237b M236 := hR237b
              replace f241 : m_fx I180a A180a I237b A237b := f241
              exact Or.inr (⟨I237b, A237b, B237b, C237b, rfl, hR237b, (show m_fx I A I237b A237b by exact (m_fx_trans f186 f241))⟩)
          · rw [e194]
            replace hR180b : w_Rep w_TM fr X u l I180b A180b B180b C180b M179 := hR180b
            replace f195 : m_fx I A I180b A180b := f195
            exact Or.inr (⟨I180b, A180b, B180b, C180b, rfl, hR180b, (show m_fx I A I180b A180b by exact f195)⟩)
        · have h173 : ¬ ((A 45) ((I 2774)) = 3) := h173
          show w_W _ _ _ (169, [(0, .ref 43)], [], M) _
          refine w_adv (n := 2) (F' := (171, [(0, .ref 43)], [.int (Int32.ofInt (1)), .ref 43], M)) rfl ?_
          refine w_call (cm := 232) (as := [(0, .ref 43), (1, .int (Int32.ofInt (1)))]) (rest := []) (o := some (9, 43)) rfl (w_fitR hR rfl) (m_fail (1) hR ⟨by omega, by omega⟩ (show 0 ≤ (I 2774) ∧ (I 2774) < 1501 by omega) (show 1 ≤ 1 ∧ 1 ≤ 7 by first | assumption | omega)) (fun r339 M340 q341 => ?_)
          rcases q341 with ⟨I341a, A341a, B341a, C341a, e342, hR341a, f343⟩
          rw [e342]
          replace hR341a : w_Rep w_TM fr X u l I341a A341a B341a C341a M340 := hR341a
          replace f343 : m_fx I A I341a A341a := f343
          exact Or.inr (⟨I341a, A341a, B341a, C341a, rfl, hR341a, (show m_fx I A I341a A341a by exact f343)⟩)
    · have h6 : ¬ (¬ (A 45) ((I 2774)) = 1) := h6
      have w344 : (I 2774) + 1 < (I 2754) := m_TK_lt hTK (by omega) (by omega) (by omega)
      show w_W _ _ _ (56, [(0, .ref 43)], [], M) _
      refine w_adv (n := 1) (F' := (57, [(0, .ref 43)], [.ref 43], M)) rfl ?_
      refine w_gf (v := .ref 46) hR rfl rfl rfl rfl ?_
      refine w_adv (n := 1) (F' := (61, [(0, .ref 43)], [.ref 43, .ref 46], M)) rfl ?_
      refine w_gf (v := .int (Int32.ofInt ((I 2774)))) hR rfl rfl rfl rfl ?_
      refine w_la (n := 1502) hR rfl (Or.inl ⟨rfl, rfl⟩) rfl (show 0 ≤ (I 2774) by omega) (show (I 2774) < (1502 : Int) by omega) (by decide) ?_
      obtain ⟨r345, r346⟩ : -2147483648 ≤ (A 46) ((I 2774)) ∧ (A 46) ((I 2774)) ≤ 2147483647 := hR.ra 46 ((I 2774))
      show w_W _ _ _ (65, [(0, .ref 43)], [.int (Int32.ofInt ((A 46) ((I 2774))))], M) _
      refine w_adv (n := 2) (F' := (67, [(1, .int (Int32.ofInt ((A 46) ((I 2774))))), (0, .ref 43)], [.ref 43], M)) rfl ?_
      refine w_call (cm := 252) (as := [(0, .ref 43)]) (rest := []) (o := some (9, 43)) rfl (w_fitR hR rfl) (m_isBracketed hR (show 0 ≤ (I 2774) ∧ (I 2774) < 1501 by omega)) (fun r347 M348 q349 => ?_)
      rcases q349 with ⟨e350, e351, f352⟩ | ⟨e353, e354⟩
      · rw [e350, e351]
        replace f352 : (A 45) ((I 2774) + 1) = 6 := f352
        have wb : (I 2774) + 2 < (I 2754) := by have wq := m_TK_lt hTK (i := (I 2774) + 1) (by omega) (by omega) (by omega); omega
        show w_W _ _ _ (70, [(1, .int (Int32.ofInt ((A 46) ((I 2774))))), (0, .ref 43)], [.int (Int32.ofInt (1))], M) _
        refine w_adv (n := 3) (F' := (73, [(2, .int (Int32.ofInt (1))), (1, .int (Int32.ofInt ((A 46) ((I 2774))))), (0, .ref 43)], [.ref 43, .ref 43], M)) rfl ?_
        refine w_gf (v := .int (Int32.ofInt ((I 2774)))) hR rfl rfl rfl rfl ?_
        refine w_adv (n := 1) (F' := (77, [(2, .int (Int32.ofInt (1))), (1, .int (Int32.ofInt ((A 46) ((I 2774))))), (0, .ref 43)], [.int (Int32.ofInt (1)), .int (Int32.ofInt ((I 2774))), .ref 43], M)) rfl ?_
        refine w_add rfl ?_
        refine w_pf hR rfl rfl rfl rfl (show w_in ((I 2774) + 1) from ⟨by omega, by omega⟩) (fun h => absurd h (by decide)) (fun M355 hR356 => ?_)
        replace hR356 : w_Rep w_TM fr X u l (w_up I 2774 ((I 2774) + 1)) A B C M355 := hR356
        refine w_adv (n := 3) (F' := (96, [(2, .int (Int32.ofInt (1))), (1, .int (Int32.ofInt ((A 46) ((I 2774))))), (0, .ref 43)], [.ref 43], M355)) rfl ?_
        refine w_call (cm := 235) (as := [(0, .ref 43)]) (rest := []) (o := some (9, 43)) rfl (w_fitR hR356 rfl) (m_enter hR356 (show 2 ≤ d by omega) (show 0 ≤ (I 2774) + 1 ∧ (I 2774) + 1 < 1501 by omega) (show 0 ≤ (I 2775) ∧ (I 2775) ≤ 24 by first | assumption | omega)) (fun r357 M358 q359 => ?_)
        rcases q359 with ⟨e360, hR359a, f361⟩ | ⟨I359b, A359b, B359b, C359b, e362, hR359b, f363⟩
        · rw [e360]
          replace hR359a : w_Rep w_TM fr X u l (w_up (w_up I 2775 ((I 2775) + 1)) 2774 ((I 2774) + 1 + 1)) A B C M358 := w_Rep.up hR359a (show (w_up (w_up I 2775 ((I 2775) + 1)) 2774 ((I 2774) + 1 + 1)) = _ from (funext fun s => if e0 : s = 2774 then (by subst e0; rfl) else if e1 : s = 2775 then (by subst e1; rfl) else (by simp only [w_up_ne e0, w_up_ne e1]))) rfl
          replace f361 : (I 2775) < 24 := f361
          have w364 : ((I 2774) + 1) + 1 < (I 2754) := m_TK_lt hTK (show (I 2774) + 1 < (I 2754) by omega) (show 1 ≤ (A 45) ((I 2774) + 1) by omega) (show (A 45) ((I 2774) + 1) ≤ 6 by omega)
          show w_W _ _ _ (99, [(2, .int (Int32.ofInt (1))), (1, .int (Int32.ofInt ((A 46) ((I 2774))))), (0, .ref 43)], [], M358) _
          refine w_adv (n := 1) (F' := (100, [(2, .int (Int32.ofInt (1))), (1, .int (Int32.ofInt ((A 46) ((I 2774))))), (0, .ref 43)], [.ref 43], M358)) rfl ?_
          refine w_call (cm := 253) (as := [(0, .ref 43)]) (rest := []) (o := some (9, 43)) rfl (w_fitR hR359a rfl) (m_isFeature hR359a (show 0 ≤ (I 2774) + 1 + 1 ∧ (I 2774) + 1 + 1 < 1501 by omega)) (fun r365 M366 q367 => ?_)
          rcases q367 with ⟨e368, e369, f370⟩ | ⟨e371, e372, f373⟩
          · rw [e368, e369]
            replace f370 : (A 45) ((I 2774) + 1 + 1) = 1 ∨ (A 45) ((I 2774) + 1 + 1) = 4 := f370
            have w374 : ((I 2774) + 1 + 1) + 1 < (I 2754) := m_TK_lt hTK (by omega) (by omega) (by omega)
            show w_W _ _ _ (103, [(2, .int (Int32.ofInt (1))), (1, .int (Int32.ofInt ((A 46) ((I 2774))))), (0, .ref 43)], [.int (Int32.ofInt (1))], M358) _
            refine w_adv (n := 3) (F' := (108, [(2, .int (Int32.ofInt (1))), (1, .int (Int32.ofInt ((A 46) ((I 2774))))), (0, .ref 43)], [.int (Int32.ofInt (1)), .ref 43], M358)) rfl ?_
            refine w_call (cm := 255) (as := [(0, .ref 43), (1, .int (Int32.ofInt (1)))]) (rest := []) (o := some (9, 43)) rfl (w_fitR hR359a rfl) (m_named hA (1) (lo) hR359a (show 20 * (24 - ((I 2775) + 1)) + 23 ≤ (d : Int) by omega) ⟨by omega, by omega⟩ (show m_TK (w_up (w_up I 2775 ((I 2775) + 1)) 2774 ((I 2774) + 1 + 1)) A by exact hTK) (show (0 ≤ (I 2774) + 1 + 1 ∧ (I 2774) + 1 + 1 < (I 2754) ∧ (I 2754) ≤ 1501 ∧ 0 ≤ (I 2775) + 1 ∧ (I 2775) + 1 ≤ 24) ∧ ((I 3393) = (I 3905) ∧ (I 3521) = (I 3905) ∧ (I 3649) = (I 3905) ∧ (I 3777) = (I 3905) ∧ 0 ≤ (I 3905) ∧ (I 3905) ≤ 3 * ((I 2774) + 1 + 1)) ∧ ((I 4161) = (I 4033) ∧ 7 ≤ (I 4289) ∧ (I 4289) ≤ (I 4033) ∧ (I 4033) ≤ 7 + ((I 2774) + 1 + 1)) ∧ 0 ≤ (I 5889) ∧ (I 5889) ≤ (I 2774) + 1 + 1 by (repeat' apply And.intro) <;> first | assumption | omega) (show m_SC (w_up (w_up I 2775 ((I 2775) + 1)) 2774 ((I 2774) + 1 + 1)) A by exact hSC) (show m_TR lo (w_up (w_up I 2775 ((I 2775) + 1)) 2774 ((I 2774) + 1 + 1)) A by exact hTR) (show 1 = 0 ∨ 1 = 1 by first | assumption | omega) (show (I 2754) - ((I 2774) + 1 + 1) < N by first | assumption | omega)) (fun r375 M376 q377 => ?_)
            rcases q377 with ⟨v378, lo379, I377a, A377a, B377a, C377a, e380, ⟨r381, r382⟩, hR377a, f383, f384, f385, f386, f387, f388, f389, f390⟩ | ⟨I377b, A377b, B377b, C377b, e391, hR377b, f392⟩
            · rw [e380]
              replace hR377a : w_Rep w_TM fr X u l I377a A377a B377a C377a M376 := hR377a
              replace f383 : m_fx (w_up (w_up I 2775 ((I 2775) + 1)) 2774 ((I 2774) + 1 + 1)) A I377a A377a := f383
              replace f384 : ((0 ≤ (I377a 2774) ∧ (I377a 2774) < (I377a 2754) ∧ (I377a 2754) ≤ 1501 ∧ 0 ≤ (I377a 2775) ∧ (I377a 2775) ≤ 24) ∧ ((I377a 3393) = (I377a 3905) ∧ (I377a 3521) = (I377a 3905) ∧ (I377a 3649) = (I377a 3905) ∧ (I377a 3777) = (I377a 3905) ∧ 0 ≤ (I377a 3905) ∧ (I377a 3905) ≤ 3 * (I377a 2774)) ∧ ((I377a 4161) = (I377a 4033) ∧ 7 ≤ (I377a 4289) ∧ (I377a 4289) ≤ (I377a 4033) ∧ (I377a 4033) ≤ 7 + (I377a 2774)) ∧ 0 ≤ (I377a 5889) ∧ (I377a 5889) ≤ (I377a 2774)) ∧ ((I377a 2754) = (I 2754) ∧ ((I 2774) + 1 + 1) + 0 ≤ (I377a 2774) ∧ (I377a 2775) = (I 2775) + 1 ∧ (I 4289) ≤ (I377a 4289) ∧ (I377a 5889) = (I 5889)) ∧ ((I377a 3905) + 0 ≤ (I 3905) + 3 * ((I377a 2774) - ((I 2774) + 1 + 1)) ∧ (I 3905) ≤ (I377a 3905) ∧ -1 ≤ v378 ∧ v378 < (I377a 3905) ∧ (I 4033) ≤ (I377a 4033) ∧ (I377a 4033) ≤ (I 4033) + ((I377a 2774) - ((I 2774) + 1 + 1))) := f384
              obtain ⟨⟨⟨n393, n394, n395, n396, n397⟩, ⟨n398, n399, n400, n401, n402, n403⟩, ⟨n404, n405, n406, n407⟩, n408, n409⟩, ⟨n410, n411, n412, n413, n414⟩, ⟨n415, n416, n417, n418, n419, n420⟩⟩ := id f384
              clear f384
              replace f385 : m_SC I377a A377a := f385
              replace f386 : m_TR lo379 I377a A377a := f386
              replace f387 : m_ST lo (w_up (w_up I 2775 ((I 2775) + 1)) 2774 ((I 2774) + 1 + 1)) A lo379 I377a A377a := f387
              replace f388 : v378 = -1 ∨ m_kd lo379 I377a A377a (I 3905) (8 * (24 - ((I 2775) + 1)) + 6) v378 (fun k => k = 6 + 21 * 1) := f388
              replace f389 : v378 = -1 ∨ m_rt lo379 (I377a 3905) v378 := f389
              replace f390 : m_RK lo379 (I 3905) (I377a 3905) (8 * (24 - ((I 2775) + 1)) + 6) := f390
              have tk421 : m_TK I377a A377a := m_TK_fx f383 hTK
              have nn422 : (I 3905) ≤ (I377a 3905) := by omega
              have nz423 : 0 ≤ (I 3905) := by first | assumption | omega
              have ho424 : (I 2775) + 1 = (I 2775) + (1) := by omega
              have rk426 : m_RK lo379 (I 3905) (I377a 3905) (8 * (24 - (I 2775)) + (-2)) := m_RK_app (I := (w_up (w_up I 2775 ((I 2775) + 1)) 2774 ((I 2774) + 1 + 1))) (I' := I377a) (R := (8 * (24 - (I 2775)) + (-2))) (show m_RK lo (I 3905) (I 3905) (8 * (24 - (I 2775)) + (-2)) from fun q q1 q2 => by omega) f387 f390 (show 0 ≤ (I 3905) by first | assumption | omega) (m_r8 (by decide)) (m_r8o (k := 1) ho424 (by decide))
              have s425 : m_ST lo I A lo379 I377a A377a := f387
              have o427 : v378 = -1 ∨ m_kd lo379 I377a A377a (I 3905) (8 * (24 - ((I 2775) + 1)) + 6) v378 (fun k => k = 27) := f388
              show w_W _ _ _ (111, [(2, .int (Int32.ofInt (1))), (1, .int (Int32.ofInt ((A 46) ((I 2774))))), (0, .ref 43)], [.int (Int32.ofInt (v378))], M376) _
              refine w_adv (n := 4) (F' := (122, [(3, .int (Int32.ofInt (v378))), (2, .int (Int32.ofInt (1))), (1, .int (Int32.ofInt ((A 46) ((I 2774))))), (0, .ref 43)], [.int (Int32.ofInt (41)), .ref 43], M376)) rfl ?_
              refine w_call (cm := 264) (as := [(0, .ref 43), (1, .int (Int32.ofInt (41)))]) (rest := []) (o := some (9, 43)) rfl (w_fitR hR377a rfl) (m_closeSign (41) hR377a (show 3 ≤ d by omega) ⟨by omega, by omega⟩ (show 0 ≤ (I377a 2774) ∧ (I377a 2774) < 1501 by omega) (show 1 ≤ (I377a 2775) ∧ (I377a 2775) ≤ 24 by first | assumption | omega)) (fun r428 M429 q430 => ?_)
              rcases q430 with ⟨e431, hR430a, f432⟩ | ⟨I430b, A430b, B430b, C430b, e433, hR430b, f434⟩
              · rw [e431]
                replace hR430a : w_Rep w_TM fr X u l (w_up (w_up I377a 2774 ((I377a 2774) + 1)) 2775 ((I377a 2775) - 1)) A377a B377a C377a M429 := hR430a
                replace f432 : (A377a 45) ((I377a 2774)) = 6 ∧ (A377a 46) ((I377a 2774)) = 41 := f432
                obtain ⟨n435, n436⟩ := id f432
                clear f432
                have w437 : (I377a 2774) + 1 < (I377a 2754) := m_TK_lt tk421 (show (I377a 2774) < (I377a 2754) by omega) (show 1 ≤ (A377a 45) ((I377a 2774)) by omega) (show (A377a 45) ((I377a 2774)) ≤ 6 by omega)
                show w_W _ _ _ (125, [(3, .int (Int32.ofInt (v378))), (2, .int (Int32.ofInt (1))), (1, .int (Int32.ofInt ((A 46) ((I 2774))))), (0, .ref 43)], [], M429) _
                refine w_adv (n := 3) (F' := (129, [(3, .int (Int32.ofInt (v378))), (2, .int (Int32.ofInt (1))), (1, .int (Int32.ofInt ((A 46) ((I 2774))))), (0, .ref 43)], [.int (Int32.ofInt (v378)), .int (Int32.ofInt (26)), .ref 43], M429)) rfl ?_
                refine w_br1 (a := v378) rfl rfl ⟨by omega, by omega⟩ (fun h438 => ?_) (fun h438 => ?_)
                · have h438 : v378 ≥ 0 := h438
                  show w_W _ _ _ (136, [(3, .int (Int32.ofInt (v378))), (2, .int (Int32.ofInt (1))), (1, .int (Int32.ofInt ((A 46) ((I 2774))))), (0, .ref 43)], [.int (Int32.ofInt (26)), .ref 43], M429) _
                  refine w_adv (n := 3) (F' := (139, [(3, .int (Int32.ofInt (v378))), (2, .int (Int32.ofInt (1))), (1, .int (Int32.ofInt ((A 46) ((I 2774))))), (0, .ref 43)], [.int (Int32.ofInt (v378)), .int (Int32.ofInt ((A 46) ((I 2774)))), .int (Int32.ofInt (2)), .int (Int32.ofInt (26)), .ref 43], M429)) rfl ?_
                  refine w_call (cm := 239) (as := [(0, .ref 43), (1, .int (Int32.ofInt (26))), (2, .int (Int32.ofInt (2))), (3, .int (Int32.ofInt ((A 46) ((I 2774))))), (4, .int (Int32.ofInt (v378)))]) (rest := []) (o := some (9, 43)) rfl (w_fitR hR430a rfl) (m_node (26) (2) ((A 46) ((I 2774))) (v378) hR430a (show 2 ≤ d by omega) ⟨by omega, by omega⟩ ⟨by omega, by omega⟩ ⟨by omega, by omega⟩ ⟨by omega, by omega⟩ (show (I377a 3393) = (I377a 3905) by first | assumption | omega) (show (I377a 3521) = (I377a 3905) by first | assumption | omega) (show (I377a 3649) = (I377a 3905) by first | assumption | omega) (show (I377a 3777) = (I377a 3905) by first | assumption | omega) (show (I377a 3905) < 65536 by first | assumption | omega)) (fun r439 M440 q441 => ?_)
                  rcases q441 with ⟨v442, I441a, A441a, B441a, C441a, e443, ⟨r444, r445⟩, hR441a, f446, f447⟩
                  rw [e443]
                  replace hR441a : w_Rep w_TM fr X u l I441a A441a B441a C441a M440 := hR441a
                  replace f446 : m_fx (w_up (w_up I377a 2774 ((I377a 2774) + 1)) 2775 ((I377a 2775) - 1)) A377a I441a A441a := f446
                  replace f447 : m_nd (w_up (w_up I377a 2774 ((I377a 2774) + 1)) 2775 ((I377a 2775) - 1)) A377a I441a A441a v442 26 2 ((A 46) ((I 2774))) v378 := f447
                  obtain ⟨⟨n448, n449, n450, n451, n452, n453⟩, ⟨n454, n455, n456, n457, n458, n459, n460⟩⟩ : (v442 = (I377a 3905) ∧ (I441a 3905) = (I377a 3905) + 1 ∧ (I441a 3393) = (I377a 3393) + 1 ∧ (I441a 3521) = (I377a 3521) + 1 ∧ (I441a 3649) = (I377a 3649) + 1 ∧ (I441a 3777) = (I377a 3777) + 1) ∧ ((I441a 2774) = (I377a 2774) + 1 ∧ (I441a 2754) = (I377a 2754) ∧ (I441a 2775) = (I377a 2775) - 1 ∧ (I441a 4289) = (I377a 4289) ∧ (I441a 4033) = (I377a 4033) ∧ (I441a 4161) = (I377a 4161) ∧ (I441a 5889) = (I377a 5889)) := m_nd_num f447
                  have tk461 : m_TK I441a A441a := m_TK_fx f446 tk421
                  have sc462 : m_SC I441a A441a := m_SC_nd f447 f385
                  have tr463 : m_TR (t_up lo379 v442 (I 3905) (8 * (24 - (I 2775)) + (-1))) I441a A441a := m_TR_nd (show m_TR lo379 (w_up (w_up I377a 2774 ((I377a 2774) + 1)) 2775 ((I377a 2775) - 1)) A377a from f386) f447 (show 0 ≤ (I 3905) by omega) (show (I 3905) ≤ v442 by omega) (m_cl_ST (show m_ST lo I A lo379 (w_up (w_up I377a 2774 ((I377a 2774) + 1)) 2775 ((I377a 2775) - 1)) A377a from s425) hTR (show 0 ≤ (I 3905) by omega)) (t_N_mk26 t_up_same (show 0 ≤ (I 3905) by omega) (show (I 3905) ≤ v442 by omega) (show 0 ≤ (8 * (24 - (I 2775)) + (-1)) by omega) (m_hw (show m_RK lo379 (I 3905) v442 (8 * (24 - (I 2775)) + (-2)) from fun q q1 q2 => (show m_RK lo379 (I 3905) (I377a 3905) (8 * (24 - (I 2775)) + (-2)) from rk426) q (show (I 3905) ≤ q by omega) (show q < (I377a 3905) by omega)) (m_r8l (by decide))) ((show v378 = -1 ∨ m_kd lo379 (w_up (w_up I377a 2774 ((I377a 2774) + 1)) 2775 ((I377a 2775) - 1)) A377a (I 3905) (8 * (24 - ((I 2775) + 1)) + 6) v378 (fun k => k = 27) from o427).imp_right (fun q => m_ch f447 (show (I 3905) ≤ (I 3905) by omega) q)))
                  have s464 : m_ST lo I A (t_up lo379 v442 (I 3905) (8 * (24 - (I 2775)) + (-1))) I441a A441a := m_ST_nd (l := (I 3905)) (show m_ST lo I A lo379 (w_up (w_up I377a 2774 ((I377a 2774) + 1)) 2775 ((I377a 2775) - 1)) A377a from s425) f447 (show (I 3905) ≤ (I 3905) by omega) (show (I 3905) ≤ (I377a 3905) by omega)
                  have rk465 : m_RK (t_up lo379 v442 (I 3905) (8 * (24 - (I 2775)) + (-1))) (I 3905) (I441a 3905) (8 * (24 - (I 2775)) + (-1)) := fun q q1 q2 => m_RK_nd (show m_RK lo379 (I 3905) v442 (8 * (24 - (I 2775)) + (-2)) from fun q q1 q2 => (show m_RK lo379 (I 3905) (I377a 3905) (8 * (24 - (I 2775)) + (-2)) from rk426) q q1 (show q < (I377a 3905) by omega)) (m_r8 (by decide)) (m_r8 (by decide)) q q1 (show q < v442 + 1 by omega)
                  have k466 : m_kd (t_up lo379 v442 (I 3905) (8 * (24 - (I 2775)) + (-1))) I441a A441a (I 3905) (8 * (24 - (I 2775)) + (-1)) v442 (fun k => k = 26) := m_kd_new f447 (show 0 ≤ (I 3905) by omega) (show (I 3905) ≤ v442 by omega) rfl
                  have rt467 : m_rt (t_up lo379 v442 (I 3905) (8 * (24 - (I 2775)) + (-1))) (I441a 3905) v442 := m_rt_new f447
                  show w_W _ _ _ (142, [(3, .int (Int32.ofInt (v378))), (2, .int (Int32.ofInt (1))), (1, .int (Int32.ofInt ((A 46) ((I 2774))))), (0, .ref 43)], [.int (Int32.ofInt (v442))], M440) _
                  refine w_fin (r := .inl (some (v442))) (M' := M440) rfl ?_
                  exact Or.inl ⟨v442, (t_up lo379 v442 (I 3905) (8 * (24 - (I 2775)) + (-1))), I441a, A441a, B441a, C441a, rfl, ⟨by omega, by omega⟩, hR441a, (show m_fx I A I441a A441a by exact (m_fx_trans f383 f446)), (show ((0 ≤ (I441a 2774) ∧ (I441a 2774) < (I441a 2754) ∧ (I441a 2754) ≤ 1501 ∧ 0 ≤ (I441a 2775) ∧ (I441a 2775) ≤ 24) ∧ ((I441a 3393) = (I441a 3905) ∧ (I441a 3521) = (I441a 3905) ∧ (I441a 3649) = (I441a 3905) ∧ (I441a 3777) = (I441a 3905) ∧ 0 ≤ (I441a 3905) ∧ (I441a 3905) ≤ 3 * (I441a 2774)) ∧ ((I441a 4161) = (I441a 4033) ∧ 7 ≤ (I441a 4289) ∧ (I441a 4289) ≤ (I441a 4033) ∧ (I441a 4033) ≤ 7 + (I441a 2774)) ∧ 0 ≤ (I441a 5889) ∧ (I441a 5889) ≤ (I441a 2774)) ∧ ((I441a 2754) = (I 2754) ∧ (I 2774) + 1 ≤ (I441a 2774) ∧ (I441a 2775) = (I 2775) ∧ (I 4289) ≤ (I441a 4289) ∧ (I441a 5889) = (I 5889)) ∧ ((I441a 3905) + 1 ≤ (I 3905) + 3 * ((I441a 2774) - (I 2774)) ∧ (I 3905) ≤ v442 ∧ v442 + 1 = (I441a 3905) ∧ (I 4033) ≤ (I441a 4033) ∧ (I441a 4033) ≤ (I 4033) + ((I441a 2774) - (I 2774))) by (repeat' apply And.intro) <;> first | assumption | omega), (show m_SC I441a A441a by exact sc462), (show m_TR (t_up lo379 v442 (I 3905) (8 * (24 - (I 2775)) + (-1))) I441a A441a by exact tr463), (show m_ST lo I A (t_up lo379 v442 (I 3905) (8 * (24 - (I 2775)) + (-1))) I441a A441a by exact s464), (show (fun k => k = 26) ((A441a 53) (v442)) by exact (k466).2), (show m_rt (t_up lo379 v442 (I 3905) (8 * (24 - (I 2775)) + (-1))) (I441a 3905) v442 by exact rt467), (show m_RK (t_up lo379 v442 (I 3905) (8 * (24 - (I 2775)) + (-1))) (I 3905) (I441a 3905) (8 * (24 - (I 2775)) + 2) by exact m_RK_le (show m_RK (t_up lo379 v442 (I 3905) (8 * (24 - (I 2775)) + (-1))) (I 3905) (I441a 3905) (8 * (24 - (I 2775)) + (-1)) from rk465) (show (8 * (24 - (I 2775)) + (-1)) ≤ 8 * (24 - (I 2775)) + 2 by omega))⟩
                · have h438 : ¬ (v378 ≥ 0) := h438
                  show w_W _ _ _ (132, [(3, .int (Int32.ofInt (v378))), (2, .int (Int32.ofInt (1))), (1, .int (Int32.ofInt ((A 46) ((I 2774))))), (0, .ref 43)], [.int (Int32.ofInt (26)), .ref 43], M429) _
                  refine w_adv (n := 4) (F' := (139, [(3, .int (Int32.ofInt (v378))), (2, .int (Int32.ofInt (1))), (1, .int (Int32.ofInt ((A 46) ((I 2774))))), (0, .ref 43)], [.int (Int32.ofInt (v378)), .int (Int32.ofInt ((A 46) ((I 2774)))), .int (Int32.ofInt (1)), .int (Int32.ofInt (26)), .ref 43], M429)) rfl ?_
                  refine w_call (cm := 239) (as := [(0, .ref 43), (1, .int (Int32.ofInt (26))), (2, .int (Int32.ofInt (1))), (3, .int (Int32.ofInt ((A 46) ((I 2774))))), (4, .int (Int32.ofInt (v378)))]) (rest := []) (o := some (9, 43)) rfl (w_fitR hR430a rfl) (m_node (26) (1) ((A 46) ((I 2774))) (v378) hR430a (show 2 ≤ d by omega) ⟨by omega, by omega⟩ ⟨by omega, by omega⟩ ⟨by omega, by omega⟩ ⟨by omega, by omega⟩ (show (I377a 3393) = (I377a 3905) by first | assumption | omega) (show (I377a 3521) = (I377a 3905) by first | assumption | omega) (show (I377a 3649) = (I377a 3905) by first | assumption | omega) (show (I377a 3777) = (I377a 3905) by first | assumption | omega) (show (I377a 3905) < 65536 by first | assumption | omega)) (fun r468 M469 q470 => ?_)
                  rcases q470 with ⟨v471, I470a, A470a, B470a, C470a, e472, ⟨r473, r474⟩, hR470a, f475, f476⟩
                  rw [e472]
                  replace hR470a : w_Rep w_TM fr X u l I470a A470a B470a C470a M469 := hR470a
                  replace f475 : m_fx (w_up (w_up I377a 2774 ((I377a 2774) + 1)) 2775 ((I377a 2775) - 1)) A377a I470a A470a := f475
                  replace f476 : m_nd (w_up (w_up I377a 2774 ((I377a 2774) + 1)) 2775 ((I377a 2775) - 1)) A377a I470a A470a v471 26 1 ((A 46) ((I 2774))) v378 := f476
                  obtain ⟨⟨n477, n478, n479, n480, n481, n482⟩, ⟨n483, n484, n485, n486, n487, n488, n489⟩⟩ : (v471 = (I377a 3905) ∧ (I470a 3905) = (I377a 3905) + 1 ∧ (I470a 3393) = (I377a 3393) + 1 ∧ (I470a 3521) = (I377a 3521) + 1 ∧ (I470a 3649) = (I377a 3649) + 1 ∧ (I470a 3777) = (I377a 3777) + 1) ∧ ((I470a 2774) = (I377a 2774) + 1 ∧ (I470a 2754) = (I377a 2754) ∧ (I470a 2775) = (I377a 2775) - 1 ∧ (I470a 4289) = (I377a 4289) ∧ (I470a 4033) = (I377a 4033) ∧ (I470a 4161) = (I377a 4161) ∧ (I470a 5889) = (I377a 5889)) := m_nd_num f476
                  have tk490 : m_TK I470a A470a := m_TK_fx f475 tk421
                  have sc491 : m_SC I470a A470a := m_SC_nd f476 f385
                  have tr492 : m_TR (t_up lo379 v471 (I 3905) (8 * (24 - (I 2775)) + (-1))) I470a A470a := m_TR_nd (show m_TR lo379 (w_up (w_up I377a 2774 ((I377a 2774) + 1)) 2775 ((I377a 2775) - 1)) A377a from f386) f476 (show 0 ≤ (I 3905) by omega) (show (I 3905) ≤ v471 by omega) (m_cl_ST (show m_ST lo I A lo379 (w_up (w_up I377a 2774 ((I377a 2774) + 1)) 2775 ((I377a 2775) - 1)) A377a from s425) hTR (show 0 ≤ (I 3905) by omega)) (t_N_mk26 t_up_same (show 0 ≤ (I 3905) by omega) (show (I 3905) ≤ v471 by omega) (show 0 ≤ (8 * (24 - (I 2775)) + (-1)) by omega) (m_hw (show m_RK lo379 (I 3905) v471 (8 * (24 - (I 2775)) + (-2)) from fun q q1 q2 => (show m_RK lo379 (I 3905) (I377a 3905) (8 * (24 - (I 2775)) + (-2)) from rk426) q (show (I 3905) ≤ q by omega) (show q < (I377a 3905) by omega)) (m_r8l (by decide))) ((show v378 = -1 ∨ m_kd lo379 (w_up (w_up I377a 2774 ((I377a 2774) + 1)) 2775 ((I377a 2775) - 1)) A377a (I 3905) (8 * (24 - ((I 2775) + 1)) + 6) v378 (fun k => k = 27) from o427).imp_right (fun q => m_ch f476 (show (I 3905) ≤ (I 3905) by omega) q)))
                  have s493 : m_ST lo I A (t_up lo379 v471 (I 3905) (8 * (24 - (I 2775)) + (-1))) I470a A470a := m_ST_nd (l := (I 3905)) (show m_ST lo I A lo379 (w_up (w_up I377a 2774 ((I377a 2774) + 1)) 2775 ((I377a 2775) - 1)) A377a from s425) f476 (show (I 3905) ≤ (I 3905) by omega) (show (I 3905) ≤ (I377a 3905) by omega)
                  have rk494 : m_RK (t_up lo379 v471 (I 3905) (8 * (24 - (I 2775)) + (-1))) (I 3905) (I470a 3905) (8 * (24 - (I 2775)) + (-1)) := fun q q1 q2 => m_RK_nd (show m_RK lo379 (I 3905) v471 (8 * (24 - (I 2775)) + (-2)) from fun q q1 q2 => (show m_RK lo379 (I 3905) (I377a 3905) (8 * (24 - (I 2775)) + (-2)) from rk426) q q1 (show q < (I377a 3905) by omega)) (m_r8 (by decide)) (m_r8 (by decide)) q q1 (show q < v471 + 1 by omega)
                  have k495 : m_kd (t_up lo379 v471 (I 3905) (8 * (24 - (I 2775)) + (-1))) I470a A470a (I 3905) (8 * (24 - (I 2775)) + (-1)) v471 (fun k => k = 26) := m_kd_new f476 (show 0 ≤ (I 3905) by omega) (show (I 3905) ≤ v471 by omega) rfl
                  have rt496 : m_rt (t_up lo379 v471 (I 3905) (8 * (24 - (I 2775)) + (-1))) (I470a 3905) v471 := m_rt_new f476
                  show w_W _ _ _ (142, [(3, .int (Int32.ofInt (v378))), (2, .int (Int32.ofInt (1))), (1, .int (Int32.ofInt ((A 46) ((I 2774))))), (0, .ref 43)], [.int (Int32.ofInt (v471))], M469) _
                  refine w_fin (r := .inl (some (v471))) (M' := M469) rfl ?_
                  exact Or.inl ⟨v471, (t_up lo379 v471 (I 3905) (8 * (24 - (I 2775)) + (-1))), I470a, A470a, B470a, C470a, rfl, ⟨by omega, by omega⟩, hR470a, (show m_fx I A I470a A470a by exact (m_fx_trans f383 f475)), (show ((0 ≤ (I470a 2774) ∧ (I470a 2774) < (I470a 2754) ∧ (I470a 2754) ≤ 1501 ∧ 0 ≤ (I470a 2775) ∧ (I470a 2775) ≤ 24) ∧ ((I470a 3393) = (I470a 3905) ∧ (I470a 3521) = (I470a 3905) ∧ (I470a 3649) = (I470a 3905) ∧ (I470a 3777) = (I470a 3905) ∧ 0 ≤ (I470a 3905) ∧ (I470a 3905) ≤ 3 * (I470a 2774)) ∧ ((I470a 4161) = (I470a 4033) ∧ 7 ≤ (I470a 4289) ∧ (I470a 4289) ≤ (I470a 4033) ∧ (I470a 4033) ≤ 7 + (I470a 2774)) ∧ 0 ≤ (I470a 5889) ∧ (I470a 5889) ≤ (I470a 2774)) ∧ ((I470a 2754) = (I 2754) ∧ (I 2774) + 1 ≤ (I470a 2774) ∧ (I470a 2775) = (I 2775) ∧ (I 4289) ≤ (I470a 4289) ∧ (I470a 5889) = (I 5889)) ∧ ((I470a 3905) + 1 ≤ (I 3905) + 3 * ((I470a 2774) - (I 2774)) ∧ (I 3905) ≤ v471 ∧ v471 + 1 = (I470a 3905) ∧ (I 4033) ≤ (I470a 4033) ∧ (I470a 4033) ≤ (I 4033) + ((I470a 2774) - (I 2774))) by (repeat' apply And.intro) <;> first | assumption | omega), (show m_SC I470a A470a by exact sc491), (show m_TR (t_up lo379 v471 (I 3905) (8 * (24 - (I 2775)) + (-1))) I470a A470a by exact tr492), (show m_ST lo I A (t_up lo379 v471 (I 3905) (8 * (24 - (I 2775)) + (-1))) I470a A470a by exact s493), (show (fun k => k = 26) ((A470a 53) (v471)) by exact (k495).2), (show m_rt (t_up lo379 v471 (I 3905) (8 * (24 - (I 2775)) + (-1))) (I470a 3905) v471 by exact rt496), (show m_RK (t_up lo379 v471 (I 3905) (8 * (24 - (I 2775)) + (-1))) (I 3905) (I470a 3905) (8 * (24 - (I 2775)) + 2) by exact m_RK_le (show m_RK (t_up lo379 v471 (I 3905) (8 * (24 - (I 2775)) + (-1))) (I 3905) (I470a 3905) (8 * (24 - (I 2775)) + (-1)) from rk494) (show (8 * (24 - (I 2775)) + (-1)) ≤ 8 * (24 - (I 2775)) + 2 by omega))⟩
              · rw [e433]
                replace hR430b : w_Rep w_TM fr X u l I430b A430b B430b C430b M429 := hR430b
                replace f434 : m_fx I377a A377a I430b A430b := f434
                exact Or.inr (⟨I430b, A430b, B430b, C430b, rfl, hR430b, (show m_fx I A I430b A430b by exact (m_fx_trans f383 f434))⟩)
            · rw [e391]
              replace hR377b : w_Rep w_TM fr X u l I377b A377b B377b C377b M376 := hR377b
              replace f392 : m_fx (w_up (w_up I 2775 ((I 2775) + 1)) 2774 ((I 2774) + 1 + 1)) A I377b A377b := f392
              exact Or.inr (⟨I377b, A377b, B377b, C377b, rfl, hR377b, (show m_fx I A I377b A377b by exact f392)⟩)
          · rw [e371, e372]
            replace f373 : ¬ ((A 45) ((I 2774) + 1 + 1) = 1 ∨ (A 45) ((I 2774) + 1 + 1) = 4) := f373
            show w_W _ _ _ (103, [(2, .int (Int32.ofInt (1))), (1, .int (Int32.ofInt ((A 46) ((I 2774))))), (0, .ref 43)], [.int (Int32.ofInt (0))], M358) _
            refine w_adv (n := 2) (F' := (115, [(2, .int (Int32.ofInt (1))), (1, .int (Int32.ofInt ((A 46) ((I 2774))))), (0, .ref 43)], [.ref 43], M358)) rfl ?_
            refine w_call (cm := 271) (as := [(0, .ref 43)]) (rest := []) (o := some (9, 43)) rfl (w_fitR hR359a rfl) (m_plainSlots (lo) hR359a (show 20 * (24 - ((I 2775) + 1)) + 10 ≤ (d : Int) by omega) (show m_TK (w_up (w_up I 2775 ((I 2775) + 1)) 2774 ((I 2774) + 1 + 1)) A by exact hTK) (show (0 ≤ (I 2774) + 1 + 1 ∧ (I 2774) + 1 + 1 < (I 2754) ∧ (I 2754) ≤ 1501 ∧ 0 ≤ (I 2775) + 1 ∧ (I 2775) + 1 ≤ 24) ∧ ((I 3393) = (I 3905) ∧ (I 3521) = (I 3905) ∧ (I 3649) = (I 3905) ∧ (I 3777) = (I 3905) ∧ 0 ≤ (I 3905) ∧ (I 3905) ≤ 3 * ((I 2774) + 1 + 1)) ∧ ((I 4161) = (I 4033) ∧ 7 ≤ (I 4289) ∧ (I 4289) ≤ (I 4033) ∧ (I 4033) ≤ 7 + ((I 2774) + 1 + 1)) ∧ 0 ≤ (I 5889) ∧ (I 5889) ≤ (I 2774) + 1 + 1 by (repeat' apply And.intro) <;> first | assumption | omega) (show m_SC (w_up (w_up I 2775 ((I 2775) + 1)) 2774 ((I 2774) + 1 + 1)) A by exact hSC) (show m_TR lo (w_up (w_up I 2775 ((I 2775) + 1)) 2774 ((I 2774) + 1 + 1)) A by exact hTR)) (fun r497 M498 q499 => ?_)
            rcases q499 with ⟨v500, lo501, I499a, A499a, B499a, C499a, e502, ⟨r503, r504⟩, hR499a, f505, f506, f507, f508, f509, f510, f511, f512⟩ | ⟨I499b, A499b, B499b, C499b, e513, hR499b, f514⟩
            · rw [e502]
              replace hR499a : w_Rep w_TM fr X u l I499a A499a B499a C499a M498 := hR499a
              replace f505 : m_fx (w_up (w_up I 2775 ((I 2775) + 1)) 2774 ((I 2774) + 1 + 1)) A I499a A499a := f505
              replace f506 : ((0 ≤ (I499a 2774) ∧ (I499a 2774) < (I499a 2754) ∧ (I499a 2754) ≤ 1501 ∧ 0 ≤ (I499a 2775) ∧ (I499a 2775) ≤ 24) ∧ ((I499a 3393) = (I499a 3905) ∧ (I499a 3521) = (I499a 3905) ∧ (I499a 3649) = (I499a 3905) ∧ (I499a 3777) = (I499a 3905) ∧ 0 ≤ (I499a 3905) ∧ (I499a 3905) ≤ 3 * (I499a 2774)) ∧ ((I499a 4161) = (I499a 4033) ∧ 7 ≤ (I499a 4289) ∧ (I499a 4289) ≤ (I499a 4033) ∧ (I499a 4033) ≤ 7 + (I499a 2774)) ∧ 0 ≤ (I499a 5889) ∧ (I499a 5889) ≤ (I499a 2774)) ∧ ((I499a 2754) = (I 2754) ∧ ((I 2774) + 1 + 1) + 0 ≤ (I499a 2774) ∧ (I499a 2775) = (I 2775) + 1 ∧ (I 4289) ≤ (I499a 4289) ∧ (I499a 5889) = (I 5889)) ∧ ((I499a 3905) + 0 ≤ (I 3905) + 3 * ((I499a 2774) - ((I 2774) + 1 + 1)) ∧ (I 3905) ≤ (I499a 3905) ∧ -1 ≤ v500 ∧ v500 < (I499a 3905) ∧ (I 4033) ≤ (I499a 4033) ∧ (I499a 4033) ≤ (I 4033) + ((I499a 2774) - ((I 2774) + 1 + 1))) := f506
              obtain ⟨⟨⟨n515, n516, n517, n518, n519⟩, ⟨n520, n521, n522, n523, n524, n525⟩, ⟨n526, n527, n528, n529⟩, n530, n531⟩, ⟨n532, n533, n534, n535, n536⟩, ⟨n537, n538, n539, n540, n541, n542⟩⟩ := id f506
              clear f506
              replace f507 : m_SC I499a A499a := f507
              replace f508 : m_TR lo501 I499a A499a := f508
              replace f509 : m_ST lo (w_up (w_up I 2775 ((I 2775) + 1)) 2774 ((I 2774) + 1 + 1)) A lo501 I499a A499a := f509
              replace f510 : v500 = -1 ∨ m_kd lo501 I499a A499a (I 3905) (8 * (24 - ((I 2775) + 1)) + 1) v500 (fun k => k = 27) := f510
              replace f511 : v500 = -1 ∨ m_rt lo501 (I499a 3905) v500 := f511
              replace f512 : m_RK lo501 (I 3905) (I499a 3905) (8 * (24 - ((I 2775) + 1)) + 1) := f512
              have tk543 : m_TK I499a A499a := m_TK_fx f505 hTK
              have nn544 : (I 3905) ≤ (I499a 3905) := by omega
              have nz545 : 0 ≤ (I 3905) := by first | assumption | omega
              have ho546 : (I 2775) + 1 = (I 2775) + (1) := by omega
              have rk548 : m_RK lo501 (I 3905) (I499a 3905) (8 * (24 - (I 2775)) + (-7)) := m_RK_app (I := (w_up (w_up I 2775 ((I 2775) + 1)) 2774 ((I 2774) + 1 + 1))) (I' := I499a) (R := (8 * (24 - (I 2775)) + (-7))) (show m_RK lo (I 3905) (I 3905) (8 * (24 - (I 2775)) + (-7)) from fun q q1 q2 => by omega) f509 f512 (show 0 ≤ (I 3905) by first | assumption | omega) (m_r8 (by decide)) (m_r8o (k := 1) ho546 (by decide))
              have s547 : m_ST lo I A lo501 I499a A499a := f509
              show w_W _ _ _ (118, [(2, .int (Int32.ofInt (1))), (1, .int (Int32.ofInt ((A 46) ((I 2774))))), (0, .ref 43)], [.int (Int32.ofInt (v500))], M498) _
              refine w_adv (n := 3) (F' := (122, [(3, .int (Int32.ofInt (v500))), (2, .int (Int32.ofInt (1))), (1, .int (Int32.ofInt ((A 46) ((I 2774))))), (0, .ref 43)], [.int (Int32.ofInt (41)), .ref 43], M498)) rfl ?_
              refine w_call (cm := 264) (as := [(0, .ref 43), (1, .int (Int32.ofInt (41)))]) (rest := []) (o := some (9, 43)) rfl (w_fitR hR499a rfl) (m_closeSign (41) hR499a (show 3 ≤ d by omega) ⟨by omega, by omega⟩ (show 0 ≤ (I499a 2774) ∧ (I499a 2774) < 1501 by omega) (show 1 ≤ (I499a 2775) ∧ (I499a 2775) ≤ 24 by first | assumption | omega)) (fun r549 M550 q551 => ?_)
              rcases q551 with ⟨e552, hR551a, f553⟩ | ⟨I551b, A551b, B551b, C551b, e554, hR551b, f555⟩
              · rw [e552]
                replace hR551a : w_Rep w_TM fr X u l (w_up (w_up I499a 2774 ((I499a 2774) + 1)) 2775 ((I499a 2775) - 1)) A499a B499a C499a M550 := hR551a
                replace f553 : (A499a 45) ((I499a 2774)) = 6 ∧ (A499a 46) ((I499a 2774)) = 41 := f553
                obtain ⟨n556, n557⟩ := id f553
                clear f553
                have w558 : (I499a 2774) + 1 < (I499a 2754) := m_TK_lt tk543 (show (I499a 2774) < (I499a 2754) by omega) (show 1 ≤ (A499a 45) ((I499a 2774)) by omega) (show (A499a 45) ((I499a 2774)) ≤ 6 by omega)
                show w_W _ _ _ (125, [(3, .int (Int32.ofInt (v500))), (2, .int (Int32.ofInt (1))), (1, .int (Int32.ofInt ((A 46) ((I 2774))))), (0, .ref 43)], [], M550) _
                refine w_adv (n := 3) (F' := (129, [(3, .int (Int32.ofInt (v500))), (2, .int (Int32.ofInt (1))), (1, .int (Int32.ofInt ((A 46) ((I 2774))))), (0, .ref 43)], [.int (Int32.ofInt (v500)), .int (Int32.ofInt (26)), .ref 43], M550)) rfl ?_
                refine w_br1 (a := v500) rfl rfl ⟨by omega, by omega⟩ (fun h559 => ?_) (fun h559 => ?_)
                · have h559 : v500 ≥ 0 := h559
                  show w_W _ _ _ (136, [(3, .int (Int32.ofInt (v500))), (2, .int (Int32.ofInt (1))), (1, .int (Int32.ofInt ((A 46) ((I 2774))))), (0, .ref 43)], [.int (Int32.ofInt (26)), .ref 43], M550) _
                  refine w_adv (n := 3) (F' := (139, [(3, .int (Int32.ofInt (v500))), (2, .int (Int32.ofInt (1))), (1, .int (Int32.ofInt ((A 46) ((I 2774))))), (0, .ref 43)], [.int (Int32.ofInt (v500)), .int (Int32.ofInt ((A 46) ((I 2774)))), .int (Int32.ofInt (2)), .int (Int32.ofInt (26)), .ref 43], M550)) rfl ?_
                  refine w_call (cm := 239) (as := [(0, .ref 43), (1, .int (Int32.ofInt (26))), (2, .int (Int32.ofInt (2))), (3, .int (Int32.ofInt ((A 46) ((I 2774))))), (4, .int (Int32.ofInt (v500)))]) (rest := []) (o := some (9, 43)) rfl (w_fitR hR551a rfl) (m_node (26) (2) ((A 46) ((I 2774))) (v500) hR551a (show 2 ≤ d by omega) ⟨by omega, by omega⟩ ⟨by omega, by omega⟩ ⟨by omega, by omega⟩ ⟨by omega, by omega⟩ (show (I499a 3393) = (I499a 3905) by first | assumption | omega) (show (I499a 3521) = (I499a 3905) by first | assumption | omega) (show (I499a 3649) = (I499a 3905) by first | assumption | omega) (show (I499a 3777) = (I499a 3905) by first | assumption | omega) (show (I499a 3905) < 65536 by first | assumption | omega)) (fun r560 M561 q562 => ?_)
                  rcases q562 with ⟨v563, I562a, A562a, B562a, C562a, e564, ⟨r565, r566⟩, hR562a, f567, f568⟩
                  rw [e564]
                  replace hR562a : w_Rep w_TM fr X u l I562a A562a B562a C562a M561 := hR562a
                  replace f567 : m_fx (w_up (w_up I499a 2774 ((I499a 2774) + 1)) 2775 ((I499a 2775) - 1)) A499a I562a A562a := f567
                  replace f568 : m_nd (w_up (w_up I499a 2774 ((I499a 2774) + 1)) 2775 ((I499a 2775) - 1)) A499a I562a A562a v563 26 2 ((A 46) ((I 2774))) v500 := f568
                  obtain ⟨⟨n569, n570, n571, n572, n573, n574⟩, ⟨n575, n576, n577, n578, n579, n580, n581⟩⟩ : (v563 = (I499a 3905) ∧ (I562a 3905) = (I499a 3905) + 1 ∧ (I562a 3393) = (I499a 3393) + 1 ∧ (I562a 3521) = (I499a 3521) + 1 ∧ (I562a 3649) = (I499a 3649) + 1 ∧ (I562a 3777) = (I499a 3777) + 1) ∧ ((I562a 2774) = (I499a 2774) + 1 ∧ (I562a 2754) = (I499a 2754) ∧ (I562a 2775) = (I499a 2775) - 1 ∧ (I562a 4289) = (I499a 4289) ∧ (I562a 4033) = (I499a 4033) ∧ (I562a 4161) = (I499a 4161) ∧ (I562a 5889) = (I499a 5889)) := m_nd_num f568
                  have tk582 : m_TK I562a A562a := m_TK_fx f567 tk543
                  have sc583 : m_SC I562a A562a := m_SC_nd f568 f507
                  have tr584 : m_TR (t_up lo501 v563 (I 3905) (8 * (24 - (I 2775)) + (-6))) I562a A562a := m_TR_nd (show m_TR lo501 (w_up (w_up I499a 2774 ((I499a 2774) + 1)) 2775 ((I499a 2775) - 1)) A499a from f508) f568 (show 0 ≤ (I 3905) by omega) (show (I 3905) ≤ v563 by omega) (m_cl_ST (show m_ST lo I A lo501 (w_up (w_up I499a 2774 ((I499a 2774) + 1)) 2775 ((I499a 2775) - 1)) A499a from s547) hTR (show 0 ≤ (I 3905) by omega)) (t_N_mk26 t_up_same (show 0 ≤ (I 3905) by omega) (show (I 3905) ≤ v563 by omega) (show 0 ≤ (8 * (24 - (I 2775)) + (-6)) by omega) (m_hw (show m_RK lo501 (I 3905) v563 (8 * (24 - (I 2775)) + (-7)) from fun q q1 q2 => (show m_RK lo501 (I 3905) (I499a 3905) (8 * (24 - (I 2775)) + (-7)) from rk548) q (show (I 3905) ≤ q by omega) (show q < (I499a 3905) by omega)) (m_r8l (by decide))) ((show v500 = -1 ∨ m_kd lo501 (w_up (w_up I499a 2774 ((I499a 2774) + 1)) 2775 ((I499a 2775) - 1)) A499a (I 3905) (8 * (24 - ((I 2775) + 1)) + 1) v500 (fun k => k = 27) from f510).imp_right (fun q => m_ch f568 (show (I 3905) ≤ (I 3905) by omega) q)))
                  have s585 : m_ST lo I A (t_up lo501 v563 (I 3905) (8 * (24 - (I 2775)) + (-6))) I562a A562a := m_ST_nd (l := (I 3905)) (show m_ST lo I A lo501 (w_up (w_up I499a 2774 ((I499a 2774) + 1)) 2775 ((I499a 2775) - 1)) A499a from s547) f568 (show (I 3905) ≤ (I 3905) by omega) (show (I 3905) ≤ (I499a 3905) by omega)
                  have rk586 : m_RK (t_up lo501 v563 (I 3905) (8 * (24 - (I 2775)) + (-6))) (I 3905) (I562a 3905) (8 * (24 - (I 2775)) + (-6)) := fun q q1 q2 => m_RK_nd (show m_RK lo501 (I 3905) v563 (8 * (24 - (I 2775)) + (-7)) from fun q q1 q2 => (show m_RK lo501 (I 3905) (I499a 3905) (8 * (24 - (I 2775)) + (-7)) from rk548) q q1 (show q < (I499a 3905) by omega)) (m_r8 (by decide)) (m_r8 (by decide)) q q1 (show q < v563 + 1 by omega)
                  have k587 : m_kd (t_up lo501 v563 (I 3905) (8 * (24 - (I 2775)) + (-6))) I562a A562a (I 3905) (8 * (24 - (I 2775)) + (-6)) v563 (fun k => k = 26) := m_kd_new f568 (show 0 ≤ (I 3905) by omega) (show (I 3905) ≤ v563 by omega) rfl
                  have rt588 : m_rt (t_up lo501 v563 (I 3905) (8 * (24 - (I 2775)) + (-6))) (I562a 3905) v563 := m_rt_new f568
                  show w_W _ _ _ (142, [(3, .int (Int32.ofInt (v500))), (2, .int (Int32.ofInt (1))), (1, .int (Int32.ofInt ((A 46) ((I 2774))))), (0, .ref 43)], [.int (Int32.ofInt (v563))], M561) _
                  refine w_fin (r := .inl (some (v563))) (M' := M561) rfl ?_
                  exact Or.inl ⟨v563, (t_up lo501 v563 (I 3905) (8 * (24 - (I 2775)) + (-6))), I562a, A562a, B562a, C562a, rfl, ⟨by omega, by omega⟩, hR562a, (show m_fx I A I562a A562a by exact (m_fx_trans f505 f567)), (show ((0 ≤ (I562a 2774) ∧ (I562a 2774) < (I562a 2754) ∧ (I562a 2754) ≤ 1501 ∧ 0 ≤ (I562a 2775) ∧ (I562a 2775) ≤ 24) ∧ ((I562a 3393) = (I562a 3905) ∧ (I562a 3521) = (I562a 3905) ∧ (I562a 3649) = (I562a 3905) ∧ (I562a 3777) = (I562a 3905) ∧ 0 ≤ (I562a 3905) ∧ (I562a 3905) ≤ 3 * (I562a 2774)) ∧ ((I562a 4161) = (I562a 4033) ∧ 7 ≤ (I562a 4289) ∧ (I562a 4289) ≤ (I562a 4033) ∧ (I562a 4033) ≤ 7 + (I562a 2774)) ∧ 0 ≤ (I562a 5889) ∧ (I562a 5889) ≤ (I562a 2774)) ∧ ((I562a 2754) = (I 2754) ∧ (I 2774) + 1 ≤ (I562a 2774) ∧ (I562a 2775) = (I 2775) ∧ (I 4289) ≤ (I562a 4289) ∧ (I562a 5889) = (I 5889)) ∧ ((I562a 3905) + 1 ≤ (I 3905) + 3 * ((I562a 2774) - (I 2774)) ∧ (I 3905) ≤ v563 ∧ v563 + 1 = (I562a 3905) ∧ (I 4033) ≤ (I562a 4033) ∧ (I562a 4033) ≤ (I 4033) + ((I562a 2774) - (I 2774))) by (repeat' apply And.intro) <;> first | assumption | omega), (show m_SC I562a A562a by exact sc583), (show m_TR (t_up lo501 v563 (I 3905) (8 * (24 - (I 2775)) + (-6))) I562a A562a by exact tr584), (show m_ST lo I A (t_up lo501 v563 (I 3905) (8 * (24 - (I 2775)) + (-6))) I562a A562a by exact s585), (show (fun k => k = 26) ((A562a 53) (v563)) by exact (k587).2), (show m_rt (t_up lo501 v563 (I 3905) (8 * (24 - (I 2775)) + (-6))) (I562a 3905) v563 by exact rt588), (show m_RK (t_up lo501 v563 (I 3905) (8 * (24 - (I 2775)) + (-6))) (I 3905) (I562a 3905) (8 * (24 - (I 2775)) + 2) by exact m_RK_le (show m_RK (t_up lo501 v563 (I 3905) (8 * (24 - (I 2775)) + (-6))) (I 3905) (I562a 3905) (8 * (24 - (I 2775)) + (-6)) from rk586) (show (8 * (24 - (I 2775)) + (-6)) ≤ 8 * (24 - (I 2775)) + 2 by omega))⟩
                · have h559 : ¬ (v500 ≥ 0) := h559
                  show w_W _ _ _ (132, [(3, .int (Int32.ofInt (v500))), (2, .int (Int32.ofInt (1))), (1, .int (Int32.ofInt ((A 46) ((I 2774))))), (0, .ref 43)], [.int (Int32.ofInt (26)), .ref 43], M550) _
                  refine w_adv (n := 4) (F' := (139, [(3, .int (Int32.ofInt (v500))), (2, .int (Int32.ofInt (1))), (1, .int (Int32.ofInt ((A 46) ((I 2774))))), (0, .ref 43)], [.int (Int32.ofInt (v500)), .int (Int32.ofInt ((A 46) ((I 2774)))), .int (Int32.ofInt (1)), .int (Int32.ofInt (26)), .ref 43], M550)) rfl ?_
                  refine w_call (cm := 239) (as := [(0, .ref 43), (1, .int (Int32.ofInt (26))), (2, .int (Int32.ofInt (1))), (3, .int (Int32.ofInt ((A 46) ((I 2774))))), (4, .int (Int32.ofInt (v500)))]) (rest := []) (o := some (9, 43)) rfl (w_fitR hR551a rfl) (m_node (26) (1) ((A 46) ((I 2774))) (v500) hR551a (show 2 ≤ d by omega) ⟨by omega, by omega⟩ ⟨by omega, by omega⟩ ⟨by omega, by omega⟩ ⟨by omega, by omega⟩ (show (I499a 3393) = (I499a 3905) by first | assumption | omega) (show (I499a 3521) = (I499a 3905) by first | assumption | omega) (show (I499a 3649) = (I499a 3905) by first | assumption | omega) (show (I499a 3777) = (I499a 3905) by first | assumption | omega) (show (I499a 3905) < 65536 by first | assumption | omega)) (fun r589 M590 q591 => ?_)
                  rcases q591 with ⟨v592, I591a, A591a, B591a, C591a, e593, ⟨r594, r595⟩, hR591a, f596, f597⟩
                  rw [e593]
                  replace hR591a : w_Rep w_TM fr X u l I591a A591a B591a C591a M590 := hR591a
                  replace f596 : m_fx (w_up (w_up I499a 2774 ((I499a 2774) + 1)) 2775 ((I499a 2775) - 1)) A499a I591a A591a := f596
                  replace f597 : m_nd (w_up (w_up I499a 2774 ((I499a 2774) + 1)) 2775 ((I499a 2775) - 1)) A499a I591a A591a v592 26 1 ((A 46) ((I 2774))) v500 := f597
                  obtain ⟨⟨n598, n599, n600, n601, n602, n603⟩, ⟨n604, n605, n606, n607, n608, n609, n610⟩⟩ : (v592 = (I499a 3905) ∧ (I591a 3905) = (I499a 3905) + 1 ∧ (I591a 3393) = (I499a 3393) + 1 ∧ (I591a 3521) = (I499a 3521) + 1 ∧ (I591a 3649) = (I499a 3649) + 1 ∧ (I591a 3777) = (I499a 3777) + 1) ∧ ((I591a 2774) = (I499a 2774) + 1 ∧ (I591a 2754) = (I499a 2754) ∧ (I591a 2775) = (I499a 2775) - 1 ∧ (I591a 4289) = (I499a 4289) ∧ (I591a 4033) = (I499a 4033) ∧ (I591a 4161) = (I499a 4161) ∧ (I591a 5889) = (I499a 5889)) := m_nd_num f597
                  have tk611 : m_TK I591a A591a := m_TK_fx f596 tk543
                  have sc612 : m_SC I591a A591a := m_SC_nd f597 f507
                  have tr613 : m_TR (t_up lo501 v592 (I 3905) (8 * (24 - (I 2775)) + (-6))) I591a A591a := m_TR_nd (show m_TR lo501 (w_up (w_up I499a 2774 ((I499a 2774) + 1)) 2775 ((I499a 2775) - 1)) A499a from f508) f597 (show 0 ≤ (I 3905) by omega) (show (I 3905) ≤ v592 by omega) (m_cl_ST (show m_ST lo I A lo501 (w_up (w_up I499a 2774 ((I499a 2774) + 1)) 2775 ((I499a 2775) - 1)) A499a from s547) hTR (show 0 ≤ (I 3905) by omega)) (t_N_mk26 t_up_same (show 0 ≤ (I 3905) by omega) (show (I 3905) ≤ v592 by omega) (show 0 ≤ (8 * (24 - (I 2775)) + (-6)) by omega) (m_hw (show m_RK lo501 (I 3905) v592 (8 * (24 - (I 2775)) + (-7)) from fun q q1 q2 => (show m_RK lo501 (I 3905) (I499a 3905) (8 * (24 - (I 2775)) + (-7)) from rk548) q (show (I 3905) ≤ q by omega) (show q < (I499a 3905) by omega)) (m_r8l (by decide))) ((show v500 = -1 ∨ m_kd lo501 (w_up (w_up I499a 2774 ((I499a 2774) + 1)) 2775 ((I499a 2775) - 1)) A499a (I 3905) (8 * (24 - ((I 2775) + 1)) + 1) v500 (fun k => k = 27) from f510).imp_right (fun q => m_ch f597 (show (I 3905) ≤ (I 3905) by omega) q)))
                  have s614 : m_ST lo I A (t_up lo501 v592 (I 3905) (8 * (24 - (I 2775)) + (-6))) I591a A591a := m_ST_nd (l := (I 3905)) (show m_ST lo I A lo501 (w_up (w_up I499a 2774 ((I499a 2774) + 1)) 2775 ((I499a 2775) - 1)) A499a from s547) f597 (show (I 3905) ≤ (I 3905) by omega) (show (I 3905) ≤ (I499a 3905) by omega)
                  have rk615 : m_RK (t_up lo501 v592 (I 3905) (8 * (24 - (I 2775)) + (-6))) (I 3905) (I591a 3905) (8 * (24 - (I 2775)) + (-6)) := fun q q1 q2 => m_RK_nd (show m_RK lo501 (I 3905) v592 (8 * (24 - (I 2775)) + (-7)) from fun q q1 q2 => (show m_RK lo501 (I 3905) (I499a 3905) (8 * (24 - (I 2775)) + (-7)) from rk548) q q1 (show q < (I499a 3905) by omega)) (m_r8 (by decide)) (m_r8 (by decide)) q q1 (show q < v592 + 1 by omega)
                  have k616 : m_kd (t_up lo501 v592 (I 3905) (8 * (24 - (I 2775)) + (-6))) I591a A591a (I 3905) (8 * (24 - (I 2775)) + (-6)) v592 (fun k => k = 26) := m_kd_new f597 (show 0 ≤ (I 3905) by omega) (show (I 3905) ≤ v592 by omega) rfl
                  have rt617 : m_rt (t_up lo501 v592 (I 3905) (8 * (24 - (I 2775)) + (-6))) (I591a 3905) v592 := m_rt_new f597
                  show w_W _ _ _ (142, [(3, .int (Int32.ofInt (v500))), (2, .int (Int32.ofInt (1))), (1, .int (Int32.ofInt ((A 46) ((I 2774))))), (0, .ref 43)], [.int (Int32.ofInt (v592))], M590) _
                  refine w_fin (r := .inl (some (v592))) (M' := M590) rfl ?_
                  exact Or.inl ⟨v592, (t_up lo501 v592 (I 3905) (8 * (24 - (I 2775)) + (-6))), I591a, A591a, B591a, C591a, rfl, ⟨by omega, by omega⟩, hR591a, (show m_fx I A I591a A591a by exact (m_fx_trans f505 f596)), (show ((0 ≤ (I591a 2774) ∧ (I591a 2774) < (I591a 2754) ∧ (I591a 2754) ≤ 1501 ∧ 0 ≤ (I591a 2775) ∧ (I591a 2775) ≤ 24) ∧ ((I591a 3393) = (I591a 3905) ∧ (I591a 3521) = (I591a 3905) ∧ (I591a 3649) = (I591a 3905) ∧ (I591a 3777) = (I591a 3905) ∧ 0 ≤ (I591a 3905) ∧ (I591a 3905) ≤ 3 * (I591a 2774)) ∧ ((I591a 4161) = (I591a 4033) ∧ 7 ≤ (I591a 4289) ∧ (I591a 4289) ≤ (I591a 4033) ∧ (I591a 4033) ≤ 7 + (I591a 2774)) ∧ 0 ≤ (I591a 5889) ∧ (I591a 5889) ≤ (I591a 2774)) ∧ ((I591a 2754) = (I 2754) ∧ (I 2774) + 1 ≤ (I591a 2774) ∧ (I591a 2775) = (I 2775) ∧ (I 4289) ≤ (I591a 4289) ∧ (I591a 5889) = (I 5889)) ∧ ((I591a 3905) + 1 ≤ (I 3905) + 3 * ((I591a 2774) - (I 2774)) ∧ (I 3905) ≤ v592 ∧ v592 + 1 = (I591a 3905) ∧ (I 4033) ≤ (I591a 4033) ∧ (I591a 4033) ≤ (I 4033) + ((I591a 2774) - (I 2774))) by (repeat' apply And.intro) <;> first | assumption | omega), (show m_SC I591a A591a by exact sc612), (show m_TR (t_up lo501 v592 (I 3905) (8 * (24 - (I 2775)) + (-6))) I591a A591a by exact tr613), (show m_ST lo I A (t_up lo501 v592 (I 3905) (8 * (24 - (I 2775)) + (-6))) I591a A591a by exact s614), (show (fun k => k = 26) ((A591a 53) (v592)) by exact (k616).2), (show m_rt (t_up lo501 v592 (I 3905) (8 * (24 - (I 2775)) + (-6))) (I591a 3905) v592 by exact rt617), (show m_RK (t_up lo501 v592 (I 3905) (8 * (24 - (I 2775)) + (-6))) (I 3905) (I591a 3905) (8 * (24 - (I 2775)) + 2) by exact m_RK_le (show m_RK (t_up lo501 v592 (I 3905) (8 * (24 - (I 2775)) + (-6))) (I 3905) (I591a 3905) (8 * (24 - (I 2775)) + (-6)) from rk615) (show (8 * (24 - (I 2775)) + (-6)) ≤ 8 * (24 - (I 2775)) + 2 by omega))⟩
              · rw [e554]
                replace hR551b : w_Rep w_TM fr X u l I551b A551b B551b C551b M550 := hR551b
                replace f555 : m_fx I499a A499a I551b A551b := f555
                exact Or.inr (⟨I551b, A551b, B551b, C551b, rfl, hR551b, (show m_fx I A I551b A551b by exact (m_fx_trans f505 f555))⟩)
            · rw [e513]
              replace hR499b : w_Rep w_TM fr X u l I499b A499b B499b C499b M498 := hR499b
              replace f514 : m_fx (w_up (w_up I 2775 ((I 2775) + 1)) 2774 ((I 2774) + 1 + 1)) A I499b A499b := f514
              exact Or.inr (⟨I499b, A499b, B499b, C499b, rfl, hR499b, (show m_fx I A I499b A499b by exact f514)⟩)
        · rw [e362]
          replace hR359b : w_Rep w_TM fr X u l I359b A359b B359b C359b M358 := hR359b
          replace f363 : m_fx (w_up I 2774 ((I 2774) + 1)) A I359b A359b := f363
          exact Or.inr (⟨I359b, A359b, B359b, C359b, rfl, hR359b, (show m_fx I A I359b A359b by exact f363)⟩)
      · rw [e353, e354]
        skip
        show w_W _ _ _ (70, [(1, .int (Int32.ofInt ((A 46) ((I 2774))))), (0, .ref 43)], [.int (Int32.ofInt (0))], M) _
        refine w_adv (n := 3) (F' := (73, [(2, .int (Int32.ofInt (0))), (1, .int (Int32.ofInt ((A 46) ((I 2774))))), (0, .ref 43)], [.ref 43, .ref 43], M)) rfl ?_
        refine w_gf (v := .int (Int32.ofInt ((I 2774)))) hR rfl rfl rfl rfl ?_
        refine w_adv (n := 1) (F' := (77, [(2, .int (Int32.ofInt (0))), (1, .int (Int32.ofInt ((A 46) ((I 2774))))), (0, .ref 43)], [.int (Int32.ofInt (1)), .int (Int32.ofInt ((I 2774))), .ref 43], M)) rfl ?_
        refine w_add rfl ?_
        refine w_pf hR rfl rfl rfl rfl (show w_in ((I 2774) + 1) from ⟨by omega, by omega⟩) (fun h => absurd h (by decide)) (fun M618 hR619 => ?_)
        replace hR619 : w_Rep w_TM fr X u l (w_up I 2774 ((I 2774) + 1)) A B C M618 := hR619
        refine w_adv (n := 7) (F' := (91, [(2, .int (Int32.ofInt (0))), (1, .int (Int32.ofInt ((A 46) ((I 2774))))), (0, .ref 43)], [.int (Int32.ofInt ((-1))), .int (Int32.ofInt ((A 46) ((I 2774)))), .int (Int32.ofInt (1)), .int (Int32.ofInt (26)), .ref 43], M618)) rfl ?_
        refine w_call (cm := 239) (as := [(0, .ref 43), (1, .int (Int32.ofInt (26))), (2, .int (Int32.ofInt (1))), (3, .int (Int32.ofInt ((A 46) ((I 2774))))), (4, .int (Int32.ofInt ((-1))))]) (rest := []) (o := some (9, 43)) rfl (w_fitR hR619 rfl) (m_node (26) (1) ((A 46) ((I 2774))) ((-1)) hR619 (show 2 ≤ d by omega) ⟨by omega, by omega⟩ ⟨by omega, by omega⟩ ⟨by omega, by omega⟩ ⟨by omega, by omega⟩ (show (I 3393) = (I 3905) by first | assumption | omega) (show (I 3521) = (I 3905) by first | assumption | omega) (show (I 3649) = (I 3905) by first | assumption | omega) (show (I 3777) = (I 3905) by first | assumption | omega) (show (I 3905) < 65536 by first | assumption | omega)) (fun r620 M621 q622 => ?_)
        rcases q622 with ⟨v623, I622a, A622a, B622a, C622a, e624, ⟨r625, r626⟩, hR622a, f627, f628⟩
        rw [e624]
        replace hR622a : w_Rep w_TM fr X u l I622a A622a B622a C622a M621 := hR622a
        replace f627 : m_fx (w_up I 2774 ((I 2774) + 1)) A I622a A622a := f627
        replace f628 : m_nd (w_up I 2774 ((I 2774) + 1)) A I622a A622a v623 26 1 ((A 46) ((I 2774))) (-1) := f628
        obtain ⟨⟨n629, n630, n631, n632, n633, n634⟩, ⟨n635, n636, n637, n638, n639, n640, n641⟩⟩ : (v623 = (I 3905) ∧ (I622a 3905) = (I 3905) + 1 ∧ (I622a 3393) = (I 3393) + 1 ∧ (I622a 3521) = (I 3521) + 1 ∧ (I622a 3649) = (I 3649) + 1 ∧ (I622a 3777) = (I 3777) + 1) ∧ ((I622a 2774) = (I 2774) + 1 ∧ (I622a 2754) = (I 2754) ∧ (I622a 2775) = (I 2775) ∧ (I622a 4289) = (I 4289) ∧ (I622a 4033) = (I 4033) ∧ (I622a 4161) = (I 4161) ∧ (I622a 5889) = (I 5889)) := m_nd_num f628
        have tk642 : m_TK I622a A622a := m_TK_fx f627 hTK
        have sc643 : m_SC I622a A622a := m_SC_nd f628 hSC
        have tr644 : m_TR (t_up lo v623 (I 3905) (8 * (24 - (I 2775)) + (0))) I622a A622a := m_TR_nd (show m_TR lo (w_up I 2774 ((I 2774) + 1)) A from hTR) f628 (show 0 ≤ (I 3905) by omega) (show (I 3905) ≤ v623 by omega) (m_cl_ST (show m_ST lo I A lo (w_up I 2774 ((I 2774) + 1)) A from m_ST_refl) hTR (show 0 ≤ (I 3905) by omega)) (t_N_mk26 t_up_same (show 0 ≤ (I 3905) by omega) (show (I 3905) ≤ v623 by omega) (show 0 ≤ (8 * (24 - (I 2775)) + (0)) by omega) (fun q q1 q2 => by omega) (Or.inl rfl))
        have s645 : m_ST lo I A (t_up lo v623 (I 3905) (8 * (24 - (I 2775)) + (0))) I622a A622a := m_ST_nd (l := (I 3905)) (show m_ST lo I A lo (w_up I 2774 ((I 2774) + 1)) A from m_ST_refl) f628 (show (I 3905) ≤ (I 3905) by omega) (show (I 3905) ≤ (I 3905) by omega)
        have rk646 : m_RK (t_up lo v623 (I 3905) (8 * (24 - (I 2775)) + (0))) (I 3905) (I622a 3905) (8 * (24 - (I 2775)) + (0)) := fun q q1 q2 => by rw [show q = v623 by omega, t_up_same]; exact Int.le_refl _
        have k647 : m_kd (t_up lo v623 (I 3905) (8 * (24 - (I 2775)) + (0))) I622a A622a (I 3905) (8 * (24 - (I 2775)) + (0)) v623 (fun k => k = 26) := m_kd_new f628 (show 0 ≤ (I 3905) by omega) (show (I 3905) ≤ v623 by omega) rfl
        have rt648 : m_rt (t_up lo v623 (I 3905) (8 * (24 - (I 2775)) + (0))) (I622a 3905) v623 := m_rt_new f628
        show w_W _ _ _ (94, [(2, .int (Int32.ofInt (0))), (1, .int (Int32.ofInt ((A 46) ((I 2774))))), (0, .ref 43)], [.int (Int32.ofInt (v623))], M621) _
        refine w_fin (r := .inl (some (v623))) (M' := M621) rfl ?_
        exact Or.inl ⟨v623, (t_up lo v623 (I 3905) (8 * (24 - (I 2775)) + (0))), I622a, A622a, B622a, C622a, rfl, ⟨by omega, by omega⟩, hR622a, (show m_fx I A I622a A622a by exact f627), (show ((0 ≤ (I622a 2774) ∧ (I622a 2774) < (I622a 2754) ∧ (I622a 2754) ≤ 1501 ∧ 0 ≤ (I622a 2775) ∧ (I622a 2775) ≤ 24) ∧ ((I622a 3393) = (I622a 3905) ∧ (I622a 3521) = (I622a 3905) ∧ (I622a 3649) = (I622a 3905) ∧ (I622a 3777) = (I622a 3905) ∧ 0 ≤ (I622a 3905) ∧ (I622a 3905) ≤ 3 * (I622a 2774)) ∧ ((I622a 4161) = (I622a 4033) ∧ 7 ≤ (I622a 4289) ∧ (I622a 4289) ≤ (I622a 4033) ∧ (I622a 4033) ≤ 7 + (I622a 2774)) ∧ 0 ≤ (I622a 5889) ∧ (I622a 5889) ≤ (I622a 2774)) ∧ ((I622a 2754) = (I 2754) ∧ (I 2774) + 1 ≤ (I622a 2774) ∧ (I622a 2775) = (I 2775) ∧ (I 4289) ≤ (I622a 4289) ∧ (I622a 5889) = (I 5889)) ∧ ((I622a 3905) + 1 ≤ (I 3905) + 3 * ((I622a 2774) - (I 2774)) ∧ (I 3905) ≤ v623 ∧ v623 + 1 = (I622a 3905) ∧ (I 4033) ≤ (I622a 4033) ∧ (I622a 4033) ≤ (I 4033) + ((I622a 2774) - (I 2774))) by (repeat' apply And.intro) <;> first | assumption | omega), (show m_SC I622a A622a by exact sc643), (show m_TR (t_up lo v623 (I 3905) (8 * (24 - (I 2775)) + (0))) I622a A622a by exact tr644), (show m_ST lo I A (t_up lo v623 (I 3905) (8 * (24 - (I 2775)) + (0))) I622a A622a by exact s645), (show (fun k => k = 26) ((A622a 53) (v623)) by exact (k647).2), (show m_rt (t_up lo v623 (I 3905) (8 * (24 - (I 2775)) + (0))) (I622a 3905) v623 by exact rt648), (show m_RK (t_up lo v623 (I 3905) (8 * (24 - (I 2775)) + (0))) (I 3905) (I622a 3905) (8 * (24 - (I 2775)) + 2) by exact m_RK_le (show m_RK (t_up lo v623 (I 3905) (8 * (24 - (I 2775)) + (0))) (I 3905) (I622a 3905) (8 * (24 - (I 2775)) + (0)) from rk646) (show (8 * (24 - (I 2775)) + (0)) ≤ 8 * (24 - (I 2775)) + 2 by omega))⟩
  · have h5 : ¬ (¬ (A 45) ((I 2774)) = 4) := h5
    have w649 : (I 2774) + 1 < (I 2754) := m_TK_lt hTK (by omega) (by omega) (by omega)
    show w_W _ _ _ (13, [(0, .ref 43)], [], M) _
    refine w_adv (n := 2) (F' := (15, [(0, .ref 43)], [.ref 43, .ref 43], M)) rfl ?_
    refine w_gf (v := .int (Int32.ofInt ((I 2774)))) hR rfl rfl rfl rfl ?_
    refine w_adv (n := 1) (F' := (19, [(0, .ref 43)], [.int (Int32.ofInt (1)), .int (Int32.ofInt ((I 2774))), .ref 43], M)) rfl ?_
    refine w_add rfl ?_
    refine w_pf hR rfl rfl rfl rfl (show w_in ((I 2774) + 1) from ⟨by omega, by omega⟩) (fun h => absurd h (by decide)) (fun M650 hR651 => ?_)
    replace hR651 : w_Rep w_TM fr X u l (w_up I 2774 ((I 2774) + 1)) A B C M650 := hR651
    refine w_adv (n := 4) (F' := (28, [(0, .ref 43)], [.ref 43, .int (Int32.ofInt (0)), .int (Int32.ofInt (26)), .ref 43], M650)) rfl ?_
    refine w_gf (v := .ref 46) hR651 rfl rfl rfl rfl ?_
    refine w_adv (n := 1) (F' := (32, [(0, .ref 43)], [.ref 43, .ref 46, .int (Int32.ofInt (0)), .int (Int32.ofInt (26)), .ref 43], M650)) rfl ?_
    refine w_gf (v := .int (Int32.ofInt ((I 2774) + 1))) hR651 rfl rfl rfl rfl ?_
    refine w_adv (n := 1) (F' := (36, [(0, .ref 43)], [.int (Int32.ofInt (1)), .int (Int32.ofInt ((I 2774) + 1)), .ref 46, .int (Int32.ofInt (0)), .int (Int32.ofInt (26)), .ref 43], M650)) rfl ?_
    refine w_sub rfl ?_
    refine w_la (n := 1502) hR651 rfl (Or.inl ⟨rfl, rfl⟩) rfl (show 0 ≤ ((I 2774) + 1) - 1 by omega) (show ((I 2774) + 1) - 1 < (1502 : Int) by omega) (by decide) ?_
    obtain ⟨r652, r653⟩ : -2147483648 ≤ (A 46) (((I 2774) + 1) - 1) ∧ (A 46) (((I 2774) + 1) - 1) ≤ 2147483647 := hR651.ra 46 (((I 2774) + 1) - 1)
    show w_W _ _ _ (38, [(0, .ref 43)], [.int (Int32.ofInt ((A 46) (((I 2774) + 1) - 1))), .int (Int32.ofInt (0)), .int (Int32.ofInt (26)), .ref 43], M650) _
    refine w_adv (n := 1) (F' := (39, [(0, .ref 43)], [.int (Int32.ofInt ((-1))), .int (Int32.ofInt ((A 46) (((I 2774) + 1) - 1))), .int (Int32.ofInt (0)), .int (Int32.ofInt (26)), .ref 43], M650)) rfl ?_
    refine w_call (cm := 239) (as := [(0, .ref 43), (1, .int (Int32.ofInt (26))), (2, .int (Int32.ofInt (0))), (3, .int (Int32.ofInt ((A 46) (((I 2774) + 1) - 1)))), (4, .int (Int32.ofInt ((-1))))]) (rest := []) (o := some (9, 43)) rfl (w_fitR hR651 rfl) (m_node (26) (0) ((A 46) (((I 2774) + 1) - 1)) ((-1)) hR651 (show 2 ≤ d by omega) ⟨by omega, by omega⟩ ⟨by omega, by omega⟩ ⟨by omega, by omega⟩ ⟨by omega, by omega⟩ (show (I 3393) = (I 3905) by first | assumption | omega) (show (I 3521) = (I 3905) by first | assumption | omega) (show (I 3649) = (I 3905) by first | assumption | omega) (show (I 3777) = (I 3905) by first | assumption | omega) (show (I 3905) < 65536 by first | assumption | omega)) (fun r654 M655 q656 => ?_)
    rcases q656 with ⟨v657, I656a, A656a, B656a, C656a, e658, ⟨r659, r660⟩, hR656a, f661, f662⟩
    rw [e658]
    replace hR656a : w_Rep w_TM fr X u l I656a A656a B656a C656a M655 := hR656a
    replace f661 : m_fx (w_up I 2774 ((I 2774) + 1)) A I656a A656a := f661
    replace f662 : m_nd (w_up I 2774 ((I 2774) + 1)) A I656a A656a v657 26 0 ((A 46) (((I 2774) + 1) - 1)) (-1) := f662
    obtain ⟨⟨n663, n664, n665, n666, n667, n668⟩, ⟨n669, n670, n671, n672, n673, n674, n675⟩⟩ : (v657 = (I 3905) ∧ (I656a 3905) = (I 3905) + 1 ∧ (I656a 3393) = (I 3393) + 1 ∧ (I656a 3521) = (I 3521) + 1 ∧ (I656a 3649) = (I 3649) + 1 ∧ (I656a 3777) = (I 3777) + 1) ∧ ((I656a 2774) = (I 2774) + 1 ∧ (I656a 2754) = (I 2754) ∧ (I656a 2775) = (I 2775) ∧ (I656a 4289) = (I 4289) ∧ (I656a 4033) = (I 4033) ∧ (I656a 4161) = (I 4161) ∧ (I656a 5889) = (I 5889)) := m_nd_num f662
    have tk676 : m_TK I656a A656a := m_TK_fx f661 hTK
    have sc677 : m_SC I656a A656a := m_SC_nd f662 hSC
    have tr678 : m_TR (t_up lo v657 (I 3905) (8 * (24 - (I 2775)) + (0))) I656a A656a := m_TR_nd (show m_TR lo (w_up I 2774 ((I 2774) + 1)) A from hTR) f662 (show 0 ≤ (I 3905) by omega) (show (I 3905) ≤ v657 by omega) (m_cl_ST (show m_ST lo I A lo (w_up I 2774 ((I 2774) + 1)) A from m_ST_refl) hTR (show 0 ≤ (I 3905) by omega)) (t_N_mk26 t_up_same (show 0 ≤ (I 3905) by omega) (show (I 3905) ≤ v657 by omega) (show 0 ≤ (8 * (24 - (I 2775)) + (0)) by omega) (fun q q1 q2 => by omega) (Or.inl rfl))
    have s679 : m_ST lo I A (t_up lo v657 (I 3905) (8 * (24 - (I 2775)) + (0))) I656a A656a := m_ST_nd (l := (I 3905)) (show m_ST lo I A lo (w_up I 2774 ((I 2774) + 1)) A from m_ST_refl) f662 (show (I 3905) ≤ (I 3905) by omega) (show (I 3905) ≤ (I 3905) by omega)
    have rk680 : m_RK (t_up lo v657 (I 3905) (8 * (24 - (I 2775)) + (0))) (I 3905) (I656a 3905) (8 * (24 - (I 2775)) + (0)) := fun q q1 q2 => by rw [show q = v657 by omega, t_up_same]; exact Int.le_refl _
    have k681 : m_kd (t_up lo v657 (I 3905) (8 * (24 - (I 2775)) + (0))) I656a A656a (I 3905) (8 * (24 - (I 2775)) + (0)) v657 (fun k => k = 26) := m_kd_new f662 (show 0 ≤ (I 3905) by omega) (show (I 3905) ≤ v657 by omega) rfl
    have rt682 : m_rt (t_up lo v657 (I 3905) (8 * (24 - (I 2775)) + (0))) (I656a 3905) v657 := m_rt_new f662
    show w_W _ _ _ (42, [(0, .ref 43)], [.int (Int32.ofInt (v657))], M655) _
    refine w_fin (r := .inl (some (v657))) (M' := M655) rfl ?_
    exact Or.inl ⟨v657, (t_up lo v657 (I 3905) (8 * (24 - (I 2775)) + (0))), I656a, A656a, B656a, C656a, rfl, ⟨by omega, by omega⟩, hR656a, (show m_fx I A I656a A656a by exact f661), (show ((0 ≤ (I656a 2774) ∧ (I656a 2774) < (I656a 2754) ∧ (I656a 2754) ≤ 1501 ∧ 0 ≤ (I656a 2775) ∧ (I656a 2775) ≤ 24) ∧ ((I656a 3393) = (I656a 3905) ∧ (I656a 3521) = (I656a 3905) ∧ (I656a 3649) = (I656a 3905) ∧ (I656a 3777) = (I656a 3905) ∧ 0 ≤ (I656a 3905) ∧ (I656a 3905) ≤ 3 * (I656a 2774)) ∧ ((I656a 4161) = (I656a 4033) ∧ 7 ≤ (I656a 4289) ∧ (I656a 4289) ≤ (I656a 4033) ∧ (I656a 4033) ≤ 7 + (I656a 2774)) ∧ 0 ≤ (I656a 5889) ∧ (I656a 5889) ≤ (I656a 2774)) ∧ ((I656a 2754) = (I 2754) ∧ (I 2774) + 1 ≤ (I656a 2774) ∧ (I656a 2775) = (I 2775) ∧ (I 4289) ≤ (I656a 4289) ∧ (I656a 5889) = (I 5889)) ∧ ((I656a 3905) + 1 ≤ (I 3905) + 3 * ((I656a 2774) - (I 2774)) ∧ (I 3905) ≤ v657 ∧ v657 + 1 = (I656a 3905) ∧ (I 4033) ≤ (I656a 4033) ∧ (I656a 4033) ≤ (I 4033) + ((I656a 2774) - (I 2774))) by (repeat' apply And.intro) <;> first | assumption | omega), (show m_SC I656a A656a by exact sc677), (show m_TR (t_up lo v657 (I 3905) (8 * (24 - (I 2775)) + (0))) I656a A656a by exact tr678), (show m_ST lo I A (t_up lo v657 (I 3905) (8 * (24 - (I 2775)) + (0))) I656a A656a by exact s679), (show (fun k => k = 26) ((A656a 53) (v657)) by exact (k681).2), (show m_rt (t_up lo v657 (I 3905) (8 * (24 - (I 2775)) + (0))) (I656a 3905) v657 by exact rt682), (show m_RK (t_up lo v657 (I 3905) (8 * (24 - (I 2775)) + (0))) (I 3905) (I656a 3905) (8 * (24 - (I 2775)) + 2) by exact m_RK_le (show m_RK (t_up lo v657 (I 3905) (8 * (24 - (I 2775)) + (0))) (I 3905) (I656a 3905) (8 * (24 - (I 2775)) + (0)) from rk680) (show (8 * (24 - (I 2775)) + (0)) ≤ 8 * (24 - (I 2775)) + 2 by omega))⟩
