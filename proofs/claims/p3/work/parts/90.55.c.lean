def m_pattern_Q (fr : Nat → Bool) (X : Nat → Option (q_C (Nat → Int32))) (u l : Nat) (I : Nat → Int) (A : Nat → Int → Int) (B C : Nat → Nat) (M : w_M) (lo : Int → Int × Int) : w_X → w_M → Prop := fun r M' => (∃ v : Int, ∃ lo' : Int → Int × Int, ∃ (I' : Nat → Int) (A' : Nat → Int → Int) (B' C' : Nat → Nat), (r = .inl (some v)) ∧ (w_in v) ∧ (w_Rep w_TM fr X u l I' A' B' C' M') ∧ (m_fx I A I' A') ∧ (((0 ≤ (I' 2774) ∧ (I' 2774) < (I' 2754) ∧ (I' 2754) ≤ 1501 ∧ 0 ≤ (I' 2775) ∧ (I' 2775) ≤ 24) ∧ ((I' 3393) = (I' 3905) ∧ (I' 3521) = (I' 3905) ∧ (I' 3649) = (I' 3905) ∧ (I' 3777) = (I' 3905) ∧ 0 ≤ (I' 3905) ∧ (I' 3905) ≤ 3 * (I' 2774)) ∧ ((I' 4161) = (I' 4033) ∧ 7 ≤ (I' 4289) ∧ (I' 4289) ≤ (I' 4033) ∧ (I' 4033) ≤ 7 + (I' 2774)) ∧ 0 ≤ (I' 5889) ∧ (I' 5889) ≤ (I' 2774)) ∧ ((I' 2754) = (I 2754) ∧ (I 2774) + 1 ≤ (I' 2774) ∧ (I' 2775) = (I 2775) ∧ (I 4289) ≤ (I' 4289) ∧ (I' 5889) = (I 5889)) ∧ ((I' 3905) + 1 ≤ (I 3905) + 3 * ((I' 2774) - (I 2774)) ∧ (I 3905) ≤ v ∧ v + 1 = (I' 3905) ∧ (I 4033) ≤ (I' 4033) ∧ (I' 4033) ≤ (I 4033) + ((I' 2774) - (I 2774)))) ∧ (m_SC I' A') ∧ (m_TR lo' I' A') ∧ (m_ST lo I A lo' I' A') ∧ ((fun k => k = 26) ((A' 53) (v))) ∧ (m_rt lo' (I' 3905) v) ∧ (m_RK lo' (I 3905) (I' 3905) (8 * (24 - (I 2775)) + 2))) ∨ (∃ (I' : Nat → Int) (A' : Nat → Int → Int) (B' C' : Nat → Nat), (r = .inr 69) ∧ (w_Rep w_TM fr X u l I' A' B' C' M') ∧ (m_fx I A I' A'))
set_option maxHeartbeats 100000000 in
set_option maxRecDepth 100000 in
theorem m_pattern {L : Nat} {xs : Nat → Int32} {d : Nat} {fr : Nat → Bool} {X : Nat → Option (q_C (Nat → Int32))} {u l : Nat} {I : Nat → Int} {A : Nat → Int → Int} {B C : Nat → Nat} {M : w_M} {N : Int} (hA : m_all L xs N) (lo : Int → Int × Int) (hR : w_Rep w_TM fr X u l I A B C M) (hd : 20 * (24 - (I 2775)) + 26 ≤ (d : Int)) (hTK : m_TK I A) (hNU : (0 ≤ (I 2774) ∧ (I 2774) < (I 2754) ∧ (I 2754) ≤ 1501 ∧ 0 ≤ (I 2775) ∧ (I 2775) ≤ 24) ∧ ((I 3393) = (I 3905) ∧ (I 3521) = (I 3905) ∧ (I 3649) = (I 3905) ∧ (I 3777) = (I 3905) ∧ 0 ≤ (I 3905) ∧ (I 3905) ≤ 3 * (I 2774)) ∧ ((I 4161) = (I 4033) ∧ 7 ≤ (I 4289) ∧ (I 4289) ≤ (I 4033) ∧ (I 4033) ≤ 7 + (I 2774)) ∧ 0 ≤ (I 5889) ∧ (I 5889) ≤ (I 2774)) (hSC : m_SC I A) (hTR : m_TR lo I A) (hm : (I 2754) - (I 2774) < N) : w_W (z_P L xs) d 270 (0, [(0, .ref 43)], [], M) (m_pattern_Q fr X u l I A B C M lo) := by
  obtain ⟨d, rfl⟩ : ∃ d0, d = d0 + 1 := ⟨d - 1, by omega⟩
  refine w_adv (n := 1) (F' := (1, [(0, .ref 43)], [.ref 43], M)) rfl ?_
  refine w_gf (v := .ref 45) hR rfl rfl rfl rfl ?_
  refine w_adv (n := 1) (F' := (5, [(0, .ref 43)], [.ref 43, .ref 45], M)) rfl ?_
  refine w_gf (v := .int (Int32.ofInt ((I 2774)))) hR rfl rfl rfl rfl ?_
  obtain ⟨r1, r2⟩ : -2147483648 ≤ (I 2774) ∧ (I 2774) ≤ 2147483647 := hR.ri 2774
  refine w_la (n := 1502) hR rfl (Or.inl ⟨rfl, rfl⟩) rfl (show 0 ≤ (I 2774) by omega) (show (I 2774) < (1502 : Int) by omega) (by decide) ?_
  obtain ⟨r3, r4⟩ : -2147483648 ≤ (A 45) ((I 2774)) ∧ (A 45) ((I 2774)) ≤ 2147483647 := hR.ra 45 ((I 2774))
  show w_W _ _ _ (9, [(0, .ref 43)], [.int (Int32.ofInt ((A 45) ((I 2774))))], M) _
  refine w_adv (n := 1) (F' := (10, [(0, .ref 43)], [.int (Int32.ofInt (4)), .int (Int32.ofInt ((A 45) ((I 2774))))], M)) rfl ?_
  refine w_br2 (a := (A 45) ((I 2774))) (b := 4) rfl rfl ⟨by omega, by omega⟩ ⟨by omega, by omega⟩ (fun h5 => ?_) (fun h5 => ?_)
  · have h5 : ¬ (A 45) ((I 2774)) = 4 := h5
    show w_W _ _ _ (43, [(0, .ref 43)], [], M) _
    refine w_adv (n := 1) (F' := (44, [(0, .ref 43)], [.ref 43], M)) rfl ?_
    refine w_gf (v := .ref 45) hR rfl rfl rfl rfl ?_
    refine w_adv (n := 1) (F' := (48, [(0, .ref 43)], [.ref 43, .ref 45], M)) rfl ?_
    refine w_gf (v := .int (Int32.ofInt ((I 2774)))) hR rfl rfl rfl rfl ?_
    refine w_la (n := 1502) hR rfl (Or.inl ⟨rfl, rfl⟩) rfl (show 0 ≤ (I 2774) by omega) (show (I 2774) < (1502 : Int) by omega) (by decide) ?_
    show w_W _ _ _ (52, [(0, .ref 43)], [.int (Int32.ofInt ((A 45) ((I 2774))))], M) _
    refine w_adv (n := 1) (F' := (53, [(0, .ref 43)], [.int (Int32.ofInt (1)), .int (Int32.ofInt ((A 45) ((I 2774))))], M)) rfl ?_
    refine w_br2 (a := (A 45) ((I 2774))) (b := 1) rfl rfl ⟨by omega, by omega⟩ ⟨by omega, by omega⟩ (fun h6 => ?_) (fun h6 => ?_)
    · have h6 : ¬ (A 45) ((I 2774)) = 1 := h6
      show w_W _ _ _ (143, [(0, .ref 43)], [], M) _
      have jn174 : w_W (z_P L xs) (d + 1) 270 (174, [(0, .ref 43)], [], M) (m_pattern_Q fr X u l I A B C M lo) := by
        skip
        refine w_adv (n := 1) (F' := (175, [(0, .ref 43)], [.ref 43], M)) rfl ?_
        refine w_gf (v := .ref 67) hR rfl rfl rfl rfl ?_
        refine w_gf (v := .int (Int32.ofInt ((I 4289)))) hR rfl rfl rfl rfl ?_
        obtain ⟨r7, r8⟩ : -2147483648 ≤ (I 4289) ∧ (I 4289) ≤ 2147483647 := hR.ri 4289
        obtain ⟨r9a, r9b, r9c⟩ : 0 ≤ (I 4289) ∧ (I 4289) ≤ (C 67 : Int) ∧ (C 67 : Int) ≤ 131072 := hR.sz (show 67 ∈ w_TM.2.2 by decide)
        refine w_adv (n := 5) (F' := (186, [(1, .int (Int32.ofInt ((I 4289)))), (0, .ref 43)], [.int (Int32.ofInt (0)), .int (Int32.ofInt ((I 4289))), .int (Int32.ofInt (1)), .ref 43], M)) rfl ?_
        refine w_call (cm := 258) (as := [(0, .ref 43), (1, .int (Int32.ofInt (1))), (2, .int (Int32.ofInt ((I 4289)))), (3, .int (Int32.ofInt (0)))]) (rest := []) (o := some (9, 43)) rfl (w_fitR hR rfl) (m_slot (1) ((I 4289)) (0) (lo) hR (show 20 * (24 - (I 2775)) + 8 ≤ (d : Int) by omega) ⟨by omega, by omega⟩ ⟨by omega, by omega⟩ ⟨by omega, by omega⟩ (show m_TK I A by exact hTK) (show (0 ≤ (I 2774) ∧ (I 2774) < (I 2754) ∧ (I 2754) ≤ 1501 ∧ 0 ≤ (I 2775) ∧ (I 2775) ≤ 24) ∧ ((I 3393) = (I 3905) ∧ (I 3521) = (I 3905) ∧ (I 3649) = (I 3905) ∧ (I 3777) = (I 3905) ∧ 0 ≤ (I 3905) ∧ (I 3905) ≤ 3 * (I 2774)) ∧ ((I 4161) = (I 4033) ∧ 7 ≤ (I 4289) ∧ (I 4289) ≤ (I 4033) ∧ (I 4033) ≤ 7 + (I 2774)) ∧ 0 ≤ (I 5889) ∧ (I 5889) ≤ (I 2774) by (repeat' apply And.intro) <;> first | assumption | omega) (show m_SC I A by exact hSC) (show m_TR lo I A by exact hTR) (show 0 ≤ (I 4289) ∧ (I 4289) ≤ (I 4289) by first | assumption | omega)) (fun r10 M11 q12 => ?_)
        rcases q12 with ⟨v13, lo14, I12a, A12a, B12a, C12a, e15, ⟨r16, r17⟩, hR12a, f18, f19, f20, f21, f22, f23, f24, f25⟩ | ⟨I12b, A12b, B12b, C12b, e26, hR12b, f27⟩
        · rw [e15]
          replace hR12a : w_Rep w_TM fr X u l I12a A12a B12a C12a M11 := hR12a
          replace f18 : m_fx I A I12a A12a := f18
          replace f19 : ((0 ≤ (I12a 2774) ∧ (I12a 2774) < (I12a 2754) ∧ (I12a 2754) ≤ 1501 ∧ 0 ≤ (I12a 2775) ∧ (I12a 2775) ≤ 24) ∧ ((I12a 3393) = (I12a 3905) ∧ (I12a 3521) = (I12a 3905) ∧ (I12a 3649) = (I12a 3905) ∧ (I12a 3777) = (I12a 3905) ∧ 0 ≤ (I12a 3905) ∧ (I12a 3905) ≤ 3 * (I12a 2774)) ∧ ((I12a 4161) = (I12a 4033) ∧ 7 ≤ (I12a 4289) ∧ (I12a 4289) ≤ (I12a 4033) ∧ (I12a 4033) ≤ 7 + (I12a 2774)) ∧ 0 ≤ (I12a 5889) ∧ (I12a 5889) ≤ (I12a 2774)) ∧ ((I12a 2754) = (I 2754) ∧ (I 2774) + 1 ≤ (I12a 2774) ∧ (I12a 2775) = (I 2775) ∧ (I 4289) ≤ (I12a 4289) ∧ (I12a 5889) = (I 5889)) ∧ ((I12a 3905) + 1 ≤ (I 3905) + 3 * ((I12a 2774) - (I 2774)) ∧ (I 3905) ≤ v13 ∧ v13 + 1 = (I12a 3905) ∧ (I 4033) ≤ (I12a 4033) ∧ (I12a 4033) ≤ (I 4033) + ((I12a 2774) - (I 2774))) := f19
          obtain ⟨⟨⟨n28, n29, n30, n31, n32⟩, ⟨n33, n34, n35, n36, n37, n38⟩, ⟨n39, n40, n41, n42⟩, n43, n44⟩, ⟨n45, n46, n47, n48, n49⟩, ⟨n50, n51, n52, n53, n54⟩⟩ := id f19
          clear f19
          replace f20 : m_SC I12a A12a := f20
          replace f21 : m_TR lo14 I12a A12a := f21
          replace f22 : m_ST lo I A lo14 I12a A12a := f22
          replace f23 : (fun k => k = 27) ((A12a 53) (v13)) := f23
          replace f24 : m_rt lo14 (I12a 3905) v13 := f24
          replace f25 : m_RK lo14 (I 3905) (I12a 3905) (8 * (24 - (I 2775)) + 1) := f25
          have tk55 : m_TK I12a A12a := m_TK_fx f18 hTK
          have nn56 : (I 3905) ≤ (I12a 3905) := by omega
          have nz57 : 0 ≤ (I 3905) := by first | assumption | omega
          have ho58 : (I 2775) = (I 2775) + (0) := by omega
          have rk60 : m_RK lo14 (I 3905) (I12a 3905) (8 * (24 - (I 2775)) + (1)) := m_RK_app (I := I) (I' := I12a) (R := (8 * (24 - (I 2775)) + (1))) (show m_RK lo (I 3905) (I 3905) (8 * (24 - (I 2775)) + (1)) from fun q q1 q2 => by omega) f22 f25 (show 0 ≤ (I 3905) by first | assumption | omega) (m_r8 (by decide)) (m_r8o (k := 0) ho58 (by decide))
          have s59 : m_ST lo I A lo14 I12a A12a := f22
          have k61 : m_kd lo14 I12a A12a (I 3905) (8 * (24 - (I 2775)) + 1) v13 (fun k => k = 27) := m_kd_of f22 f21 nz57 (show (I 3905) ≤ v13 by first | assumption | omega) (show v13 < (I12a 3905) by omega) f23 f25
          obtain ⟨j62, j63, j64, j65, j66⟩ := k61.1
          show w_W _ _ _ (189, [(1, .int (Int32.ofInt ((I 4289)))), (0, .ref 43)], [.int (Int32.ofInt (v13))], M11) _
          refine w_adv (n := 3) (F' := (193, [(2, .int (Int32.ofInt (v13))), (1, .int (Int32.ofInt ((I 4289)))), (0, .ref 43)], [.int (Int32.ofInt (124)), .ref 43], M11)) rfl ?_
          refine w_call (cm := 257) (as := [(0, .ref 43), (1, .int (Int32.ofInt (124)))]) (rest := []) (o := some (9, 43)) rfl (w_fitR hR12a rfl) (m_needSign (124) hR12a (show 2 ≤ d by omega) ⟨by omega, by omega⟩ (show 0 ≤ (I12a 2774) ∧ (I12a 2774) < 1501 by omega)) (fun r67 M68 q69 => ?_)
          rcases q69 with ⟨e70, hR69a, f71⟩ | ⟨I69b, A69b, B69b, C69b, e72, hR69b, f73⟩
          · rw [e70]
            replace hR69a : w_Rep w_TM fr X u l (w_up I12a 2774 ((I12a 2774) + 1)) A12a B12a C12a M68 := hR69a
            replace f71 : (A12a 45) ((I12a 2774)) = 6 ∧ (A12a 46) ((I12a 2774)) = 124 := f71
            obtain ⟨n74, n75⟩ := id f71
            clear f71
            have w76 : (I12a 2774) + 1 < (I12a 2754) := m_TK_lt tk55 (show (I12a 2774) < (I12a 2754) by omega) (show 1 ≤ (A12a 45) ((I12a 2774)) by omega) (show (A12a 45) ((I12a 2774)) ≤ 6 by omega)
            show w_W _ _ _ (196, [(2, .int (Int32.ofInt (v13))), (1, .int (Int32.ofInt ((I 4289)))), (0, .ref 43)], [], M68) _
            refine w_adv (n := 4) (F' := (200, [(2, .int (Int32.ofInt (v13))), (1, .int (Int32.ofInt ((I 4289)))), (0, .ref 43)], [.int (Int32.ofInt (1)), .int (Int32.ofInt ((I 4289))), .int (Int32.ofInt (2)), .ref 43], M68)) rfl ?_
            refine w_call (cm := 258) (as := [(0, .ref 43), (1, .int (Int32.ofInt (2))), (2, .int (Int32.ofInt ((I 4289)))), (3, .int (Int32.ofInt (1)))]) (rest := []) (o := some (9, 43)) rfl (w_fitR hR69a rfl) (m_slot (2) ((I 4289)) (1) (lo14) hR69a (show 20 * (24 - (I12a 2775)) + 8 ≤ (d : Int) by omega) ⟨by omega, by omega⟩ ⟨by omega, by omega⟩ ⟨by omega, by omega⟩ (show m_TK (w_up I12a 2774 ((I12a 2774) + 1)) A12a by exact tk55) (show (0 ≤ (I12a 2774) + 1 ∧ (I12a 2774) + 1 < (I12a 2754) ∧ (I12a 2754) ≤ 1501 ∧ 0 ≤ (I12a 2775) ∧ (I12a 2775) ≤ 24) ∧ ((I12a 3393) = (I12a 3905) ∧ (I12a 3521) = (I12a 3905) ∧ (I12a 3649) = (I12a 3905) ∧ (I12a 3777) = (I12a 3905) ∧ 0 ≤ (I12a 3905) ∧ (I12a 3905) ≤ 3 * ((I12a 2774) + 1)) ∧ ((I12a 4161) = (I12a 4033) ∧ 7 ≤ (I12a 4289) ∧ (I12a 4289) ≤ (I12a 4033) ∧ (I12a 4033) ≤ 7 + ((I12a 2774) + 1)) ∧ 0 ≤ (I12a 5889) ∧ (I12a 5889) ≤ (I12a 2774) + 1 by (repeat' apply And.intro) <;> first | assumption | omega) (show m_SC (w_up I12a 2774 ((I12a 2774) + 1)) A12a by exact f20) (show m_TR lo14 (w_up I12a 2774 ((I12a 2774) + 1)) A12a by exact f21) (show 0 ≤ (I 4289) ∧ (I 4289) ≤ (I12a 4289) by first | assumption | omega)) (fun r77 M78 q79 => ?_)
            rcases q79 with ⟨v80, lo81, I79a, A79a, B79a, C79a, e82, ⟨r83, r84⟩, hR79a, f85, f86, f87, f88, f89, f90, f91, f92⟩ | ⟨I79b, A79b, B79b, C79b, e93, hR79b, f94⟩
            · rw [e82]
              replace hR79a : w_Rep w_TM fr X u l I79a A79a B79a C79a M78 := hR79a
              replace f85 : m_fx (w_up I12a 2774 ((I12a 2774) + 1)) A12a I79a A79a := f85
              replace f86 : ((0 ≤ (I79a 2774) ∧ (I79a 2774) < (I79a 2754) ∧ (I79a 2754) ≤ 1501 ∧ 0 ≤ (I79a 2775) ∧ (I79a 2775) ≤ 24) ∧ ((I79a 3393) = (I79a 3905) ∧ (I79a 3521) = (I79a 3905) ∧ (I79a 3649) = (I79a 3905) ∧ (I79a 3777) = (I79a 3905) ∧ 0 ≤ (I79a 3905) ∧ (I79a 3905) ≤ 3 * (I79a 2774)) ∧ ((I79a 4161) = (I79a 4033) ∧ 7 ≤ (I79a 4289) ∧ (I79a 4289) ≤ (I79a 4033) ∧ (I79a 4033) ≤ 7 + (I79a 2774)) ∧ 0 ≤ (I79a 5889) ∧ (I79a 5889) ≤ (I79a 2774)) ∧ ((I79a 2754) = (I12a 2754) ∧ ((I12a 2774) + 1) + 1 ≤ (I79a 2774) ∧ (I79a 2775) = (I12a 2775) ∧ (I12a 4289) ≤ (I79a 4289) ∧ (I79a 5889) = (I12a 5889)) ∧ ((I79a 3905) + 1 ≤ (I12a 3905) + 3 * ((I79a 2774) - ((I12a 2774) + 1)) ∧ (I12a 3905) ≤ v80 ∧ v80 + 1 = (I79a 3905) ∧ (I12a 4033) ≤ (I79a 4033) ∧ (I79a 4033) ≤ (I12a 4033) + ((I79a 2774) - ((I12a 2774) + 1))) := f86
              obtain ⟨⟨⟨n95, n96, n97, n98, n99⟩, ⟨n100, n101, n102, n103, n104, n105⟩, ⟨n106, n107, n108, n109⟩, n110, n111⟩, ⟨n112, n113, n114, n115, n116⟩, ⟨n117, n118, n119, n120, n121⟩⟩ := id f86
              clear f86
              replace f87 : m_SC I79a A79a := f87
              replace f88 : m_TR lo81 I79a A79a := f88
              replace f89 : m_ST lo14 (w_up I12a 2774 ((I12a 2774) + 1)) A12a lo81 I79a A79a := f89
              replace f90 : (fun k => k = 27) ((A79a 53) (v80)) := f90
              replace f91 : m_rt lo81 (I79a 3905) v80 := f91
              replace f92 : m_RK lo81 (I12a 3905) (I79a 3905) (8 * (24 - (I12a 2775)) + 1) := f92
              have tk122 : m_TK I79a A79a := m_TK_fx f85 tk55
              have nn123 : (I12a 3905) ≤ (I79a 3905) := by omega
              have nz124 : 0 ≤ (I12a 3905) := by first | assumption | omega
              have ho125 : (I12a 2775) = (I 2775) + (0) := by omega
              have rk127 : m_RK lo81 (I 3905) (I79a 3905) (8 * (24 - (I 2775)) + (1)) := m_RK_app (I := (w_up I12a 2774 ((I12a 2774) + 1))) (I' := I79a) (R := (8 * (24 - (I 2775)) + (1))) (show m_RK lo14 (I 3905) (I12a 3905) (8 * (24 - (I 2775)) + (1)) from rk60) f89 f92 (show 0 ≤ (I 3905) by first | assumption | omega) (m_r8 (by decide)) (m_r8o (k := 0) ho125 (by decide))
              have s126 : m_ST lo I A lo81 I79a A79a := m_ST_trans (show m_ST lo I A lo14 (w_up I12a 2774 ((I12a 2774) + 1)) A12a from s59) f89 (show 0 ≤ (I 3905) by first | assumption | omega) (show (I 3905) ≤ (I12a 3905) by first | assumption | omega) (show (I 4289) ≤ (I12a 4289) by first | assumption | omega) (show (I 5889) ≤ (I12a 5889) by first | assumption | omega)
              have k128 : m_kd lo81 I79a A79a (I 3905) (8 * (24 - (I 2775)) + 1) v13 (fun k => k = 27) := m_kd_ST f89 nn123 k61
              have rt129 := m_rt_ST f89 (show 0 ≤ v13 by omega) (show v13 < (I12a 3905) by omega) f24
              have k130 : m_kd lo81 I79a A79a (I12a 3905) (8 * (24 - (I12a 2775)) + 1) v80 (fun k => k = 27) := m_kd_of f89 f88 nz124 (show (I12a 3905) ≤ v80 by first | assumption | omega) (show v80 < (I79a 3905) by omega) f90 f92
              obtain ⟨j131, j132, j133, j134, j135⟩ := k130.1
              show w_W _ _ _ (203, [(2, .int (Int32.ofInt (v13))), (1, .int (Int32.ofInt ((I 4289)))), (0, .ref 43)], [.int (Int32.ofInt (v80))], M78) _
              refine w_adv (n := 2) (F' := (205, [(3, .int (Int32.ofInt (v80))), (2, .int (Int32.ofInt (v13))), (1, .int (Int32.ofInt ((I 4289)))), (0, .ref 43)], [.ref 43], M78)) rfl ?_
              refine w_gf (v := .ref 61) hR79a rfl rfl rfl rfl ?_
              refine w_gf (v := .ref (B79a 61)) hR79a rfl rfl rfl rfl ?_
              refine w_adv (n := 2) (F' := (213, [(3, .int (Int32.ofInt (v80))), (2, .int (Int32.ofInt (v13))), (1, .int (Int32.ofInt ((I 4289)))), (0, .ref 43)], [.int (Int32.ofInt (v80)), .int (Int32.ofInt (v13)), .ref (B79a 61)], M78)) rfl ?_
              obtain ⟨r138a, r138b, r138c⟩ : 0 ≤ (I79a 3905) ∧ (I79a 3905) ≤ (C79a 61 : Int) ∧ (C79a 61 : Int) ≤ 131072 := hR79a.sz (show 61 ∈ w_TM.2.2 by decide)
              refine w_sr hR79a rfl (by decide) (show 0 ≤ v13 by omega) (show v13 < (C79a 61 : Int) by omega) (show w_in (v80) from ⟨by omega, by omega⟩) (fun M136 hR137 => ?_)
              replace hR137 : w_Rep w_TM fr X u l I79a (w_upF A79a 61 (w_upA (A79a 61) (v13) (v80))) B79a C79a M136 := hR137
              have t139 : v80 = -1 ∨ t_L ((A79a 53) (v13)) ((A79a 53) (v80)) := (show v80 = -1 ∨ m_kd lo81 I79a A79a (I12a 3905) (8 * (24 - (I12a 2775)) + 1) v80 (fun k => k = 27) from Or.inr k130).imp_right (fun q => Or.inl ⟨by have q1 : (A79a 53) (v13) = 27 := k128.2; have q2 : (A79a 53) (v80) = 27 := q.2; omega, by have q1 : (A79a 53) (v13) = 27 := k128.2; omega⟩)
              have tr140 : m_TR lo81 I79a (w_upF A79a 61 (w_upA (A79a 61) (v13) (v80))) := m_TR_link2 (l := (I12a 3905)) (R := (8 * (24 - (I12a 2775)) + 1)) (K := (fun k => k = 27)) (show m_TR lo81 I79a A79a from f88) rfl rfl rfl rfl rfl (show 0 ≤ v13 by omega) rt129 (Or.inr k130) (Or.inr f91) (show v13 < (I12a 3905) by omega) t139
              have s141 : m_ST lo I A lo81 I79a (w_upF A79a 61 (w_upA (A79a 61) (v13) (v80))) := m_ST_link (show m_ST lo I A lo81 I79a A79a from s126) (show (I 3905) ≤ v13 by omega) rfl rfl rfl rfl rfl rfl rfl
              refine w_adv (n := 5) (F' := (220, [(3, .int (Int32.ofInt (v80))), (2, .int (Int32.ofInt (v13))), (1, .int (Int32.ofInt ((I 4289)))), (0, .ref 43)], [.int (Int32.ofInt (v13)), .int (Int32.ofInt (3)), .int (Int32.ofInt (2)), .int (Int32.ofInt (26)), .ref 43], M136)) rfl ?_
              refine w_call (cm := 239) (as := [(0, .ref 43), (1, .int (Int32.ofInt (26))), (2, .int (Int32.ofInt (2))), (3, .int (Int32.ofInt (3))), (4, .int (Int32.ofInt (v13)))]) (rest := []) (o := some (9, 43)) rfl (w_fitR hR137 rfl) (m_node (26) (2) (3) (v13) hR137 (show 2 ≤ d by omega) ⟨by omega, by omega⟩ ⟨by omega, by omega⟩ ⟨by omega, by omega⟩ ⟨by omega, by omega⟩ (show (I79a 3393) = (I79a 3905) by first | assumption | omega) (show (I79a 3521) = (I79a 3905) by first | assumption | omega) (show (I79a 3649) = (I79a 3905) by first | assumption | omega) (show (I79a 3777) = (I79a 3905) by first | assumption | omega) (show (I79a 3905) < 65536 by first | assumption | omega)) (fun r142 M143 q144 => ?_)
              rcases q144 with ⟨v145, I144a, A144a, B144a, C144a, e146, ⟨r147, r148⟩, hR144a, f149, f150⟩
              rw [e146]
              replace hR144a : w_Rep w_TM fr X u l I144a A144a B144a C144a M143 := hR144a
              replace f149 : m_fx I79a (w_upF A79a 61 (w_upA (A79a 61) (v13) (v80))) I144a A144a := f149
              replace f150 : m_nd I79a (w_upF A79a 61 (w_upA (A79a 61) (v13) (v80))) I144a A144a v145 26 2 3 v13 := f150
              obtain ⟨⟨n151, n152, n153, n154, n155, n156⟩, ⟨n157, n158, n159, n160, n161, n162, n163⟩⟩ : (v145 = (I79a 3905) ∧ (I144a 3905) = (I79a 3905) + 1 ∧ (I144a 3393) = (I79a 3393) + 1 ∧ (I144a 3521) = (I79a 3521) + 1 ∧ (I144a 3649) = (I79a 3649) + 1 ∧ (I144a 3777) = (I79a 3777) + 1) ∧ ((I144a 2774) = (I79a 2774) ∧ (I144a 2754) = (I79a 2754) ∧ (I144a 2775) = (I79a 2775) ∧ (I144a 4289) = (I79a 4289) ∧ (I144a 4033) = (I79a 4033) ∧ (I144a 4161) = (I79a 4161) ∧ (I144a 5889) = (I79a 5889)) := m_nd_num f150
              have tk164 : m_TK I144a A144a := m_TK_fx f149 tk122
              have sc165 : m_SC I144a A144a := m_SC_nd f150 f87
              have tr166 : m_TR (t_up lo81 v145 (I 3905) (8 * (24 - (I 2775)) + (2))) I144a A144a := m_TR_nd (show m_TR lo81 I79a (w_upF A79a 61 (w_upA (A79a 61) (v13) (v80))) from tr140) f150 (show 0 ≤ (I 3905) by omega) (show (I 3905) ≤ v145 by omega) (m_cl_ST (show m_ST lo I A lo81 I79a (w_upF A79a 61 (w_upA (A79a 61) (v13) (v80))) from s141) hTR (show 0 ≤ (I 3905) by omega)) (t_N_mk26 t_up_same (show 0 ≤ (I 3905) by omega) (show (I 3905) ≤ v145 by omega) (show 0 ≤ (8 * (24 - (I 2775)) + (2)) by omega) (m_hw (show m_RK lo81 (I 3905) v145 (8 * (24 - (I 2775)) + (1)) from fun q q1 q2 => (show m_RK lo81 (I 3905) (I79a 3905) (8 * (24 - (I 2775)) + (1)) from rk127) q (show (I 3905) ≤ q by omega) (show q < (I79a 3905) by omega)) (m_r8l (by decide))) (Or.inr (m_ch f150 (show (I 3905) ≤ (I 3905) by omega) (show m_kd lo81 I79a (w_upF A79a 61 (w_upA (A79a 61) (v13) (v80))) (I 3905) (8 * (24 - (I 2775)) + 1) v13 (fun k => k = 27) from k128))))
              have s167 : m_ST lo I A (t_up lo81 v145 (I 3905) (8 * (24 - (I 2775)) + (2))) I144a A144a := m_ST_nd (l := (I 3905)) (show m_ST lo I A lo81 I79a (w_upF A79a 61 (w_upA (A79a 61) (v13) (v80))) from s141) f150 (show (I 3905) ≤ (I 3905) by omega) (show (I 3905) ≤ (I79a 3905) by omega)
              have rk168 : m_RK (t_up lo81 v145 (I 3905) (8 * (24 - (I 2775)) + (2))) (I 3905) (I144a 3905) (8 * (24 - (I 2775)) + (2)) := fun q q1 q2 => m_RK_nd (show m_RK lo81 (I 3905) v145 (8 * (24 - (I 2775)) + (1)) from fun q q1 q2 => (show m_RK lo81 (I 3905) (I79a 3905) (8 * (24 - (I 2775)) + (1)) from rk127) q q1 (show q < (I79a 3905) by omega)) (m_r8 (by decide)) (m_r8 (by decide)) q q1 (show q < v145 + 1 by omega)
              have k169 : m_kd (t_up lo81 v145 (I 3905) (8 * (24 - (I 2775)) + (2))) I144a A144a (I 3905) (8 * (24 - (I 2775)) + (2)) v145 (fun k => k = 26) := m_kd_new f150 (show 0 ≤ (I 3905) by omega) (show (I 3905) ≤ v145 by omega) rfl
              have rt170 : m_rt (t_up lo81 v145 (I 3905) (8 * (24 - (I 2775)) + (2))) (I144a 3905) v145 := m_rt_new f150
              show w_W _ _ _ (223, [(3, .int (Int32.ofInt (v80))), (2, .int (Int32.ofInt (v13))), (1, .int (Int32.ofInt ((I 4289)))), (0, .ref 43)], [.int (Int32.ofInt (v145))], M143) _
              refine w_fin (r := .inl (some (v145))) (M' := M143) rfl ?_
              exact Or.inl ⟨v145, (t_up lo81 v145 (I 3905) (8 * (24 - (I 2775)) + (2))), I144a, A144a, B144a, C144a, rfl, ⟨by omega, by omega⟩, hR144a, (show m_fx I A I144a A144a by exact (m_fx_trans (m_fx_trans f18 f85) f149)), (show ((0 ≤ (I144a 2774) ∧ (I144a 2774) < (I144a 2754) ∧ (I144a 2754) ≤ 1501 ∧ 0 ≤ (I144a 2775) ∧ (I144a 2775) ≤ 24) ∧ ((I144a 3393) = (I144a 3905) ∧ (I144a 3521) = (I144a 3905) ∧ (I144a 3649) = (I144a 3905) ∧ (I144a 3777) = (I144a 3905) ∧ 0 ≤ (I144a 3905) ∧ (I144a 3905) ≤ 3 * (I144a 2774)) ∧ ((I144a 4161) = (I144a 4033) ∧ 7 ≤ (I144a 4289) ∧ (I144a 4289) ≤ (I144a 4033) ∧ (I144a 4033) ≤ 7 + (I144a 2774)) ∧ 0 ≤ (I144a 5889) ∧ (I144a 5889) ≤ (I144a 2774)) ∧ ((I144a 2754) = (I 2754) ∧ (I 2774) + 1 ≤ (I144a 2774) ∧ (I144a 2775) = (I 2775) ∧ (I 4289) ≤ (I144a 4289) ∧ (I144a 5889) = (I 5889)) ∧ ((I144a 3905) + 1 ≤ (I 3905) + 3 * ((I144a 2774) - (I 2774)) ∧ (I 3905) ≤ v145 ∧ v145 + 1 = (I144a 3905) ∧ (I 4033) ≤ (I144a 4033) ∧ (I144a 4033) ≤ (I 4033) + ((I144a 2774) - (I 2774))) by (repeat' apply And.intro) <;> first | assumption | omega), (show m_SC I144a A144a by exact sc165), (show m_TR (t_up lo81 v145 (I 3905) (8 * (24 - (I 2775)) + (2))) I144a A144a by exact tr166), (show m_ST lo I A (t_up lo81 v145 (I 3905) (8 * (24 - (I 2775)) + (2))) I144a A144a by exact s167), (show (fun k => k = 26) ((A144a 53) (v145)) by exact (k169).2), (show m_rt (t_up lo81 v145 (I 3905) (8 * (24 - (I 2775)) + (2))) (I144a 3905) v145 by exact rt170), (show m_RK (t_up lo81 v145 (I 3905) (8 * (24 - (I 2775)) + (2))) (I 3905) (I144a 3905) (8 * (24 - (I 2775)) + 2) by exact m_RK_le (show m_RK (t_up lo81 v145 (I 3905) (8 * (24 - (I 2775)) + (2))) (I 3905) (I144a 3905) (8 * (24 - (I 2775)) + (2)) from rk168) (show (8 * (24 - (I 2775)) + (2)) ≤ 8 * (24 - (I 2775)) + 2 by omega))⟩
            · rw [e93]
              replace hR79b : w_Rep w_TM fr X u l I79b A79b B79b C79b M78 := hR79b
              replace f94 : m_fx (w_up I12a 2774 ((I12a 2774) + 1)) A12a I79b A79b := f94
              exact Or.inr (⟨I79b, A79b, B79b, C79b, rfl, hR79b, (show m_fx I A I79b A79b by exact (m_fx_trans f18 f94))⟩)
          · rw [e72]
            replace hR69b : w_Rep w_TM fr X u l I69b A69b B69b C69b M68 := hR69b
            replace f73 : m_fx I12a A12a I69b A69b := f73
            exact Or.inr (⟨I69b, A69b, B69b, C69b, rfl, hR69b, (show m_fx I A I69b A69b by exact (m_fx_trans f18 f73))⟩)
        · rw [e26]
          replace hR12b : w_Rep w_TM fr X u l I12b A12b B12b C12b M11 := hR12b
          replace f27 : m_fx I A I12b A12b := f27
          exact Or.inr (⟨I12b, A12b, B12b, C12b, rfl, hR12b, (show m_fx I A I12b A12b by exact f27)⟩)
      refine w_adv (n := 1) (F' := (144, [(0, .ref 43)], [.ref 43], M)) rfl ?_
      refine w_gf (v := .ref 45) hR rfl rfl rfl rfl ?_
      refine w_adv (n := 1) (F' := (148, [(0, .ref 43)], [.ref 43, .ref 45], M)) rfl ?_
      refine w_gf (v := .int (Int32.ofInt ((I 2774)))) hR rfl rfl rfl rfl ?_
      refine w_la (n := 1502) hR rfl (Or.inl ⟨rfl, rfl⟩) rfl (show 0 ≤ (I 2774) by omega) (show (I 2774) < (1502 : Int) by omega) (by decide) ?_
      show w_W _ _ _ (152, [(0, .ref 43)], [.int (Int32.ofInt ((A 45) ((I 2774))))], M) _
      refine w_adv (n := 1) (F' := (153, [(0, .ref 43)], [.int (Int32.ofInt (2)), .int (Int32.ofInt ((A 45) ((I 2774))))], M)) rfl ?_
      refine w_br2 (a := (A 45) ((I 2774))) (b := 2) rfl rfl ⟨by omega, by omega⟩ ⟨by omega, by omega⟩ (fun h171 => ?_) (fun h171 => ?_)
      · have h171 : (A 45) ((I 2774)) = 2 := h171
        have w172 : (I 2774) + 1 < (I 2754) := m_TK_lt hTK (by omega) (by omega) (by omega)
        show w_W _ _ _ (174, [(0, .ref 43)], [], M) _
        exact jn174   
      · have h171 : ¬ ((A 45) ((I 2774)) = 2) := h171
        show w_W _ _ _ (156, [(0, .ref 43)], [], M) _
        refine w_adv (n := 1) (F' := (157, [(0, .ref 43)], [.ref 43], M)) rfl ?_
        refine w_gf (v := .ref 45) hR rfl rfl rfl rfl ?_
        refine w_adv (n := 1) (F' := (161, [(0, .ref 43)], [.ref 43, .ref 45], M)) rfl ?_
        refine w_gf (v := .int (Int32.ofInt ((I 2774)))) hR rfl rfl rfl rfl ?_
        refine w_la (n := 1502) hR rfl (Or.inl ⟨rfl, rfl⟩) rfl (show 0 ≤ (I 2774) by omega) (show (I 2774) < (1502 : Int) by omega) (by decide) ?_
        show w_W _ _ _ (165, [(0, .ref 43)], [.int (Int32.ofInt ((A 45) ((I 2774))))], M) _
        refine w_adv (n := 1) (F' := (166, [(0, .ref 43)], [.int (Int32.ofInt (3)), .int (Int32.ofInt ((A 45) ((I 2774))))], M)) rfl ?_
        refine w_br2 (a := (A 45) ((I 2774))) (b := 3) rfl rfl ⟨by omega, by omega⟩ ⟨by omega, by omega⟩ (fun h173 => ?_) (fun h173 => ?_)
        · have h173 : (A 45) ((I 2774)) = 3 := h173
          have w174 : (I 2774) + 1 < (I 2754) := m_TK_lt hTK (by omega) (by omega) (by omega)
          show w_W _ _ _ (174, [(0, .ref 43)], [], M) _
          exact jn174   
        · have h173 : ¬ ((A 45) ((I 2774)) = 3) := h173
          show w_W _ _ _ (169, [(0, .ref 43)], [], M) _
          refine w_adv (n := 2) (F' := (171, [(0, .ref 43)], [.int (Int32.ofInt (1)), .ref 43], M)) rfl ?_
          refine w_call (cm := 232) (as := [(0, .ref 43), (1, .int (Int32.ofInt (1)))]) (rest := []) (o := some (9, 43)) rfl (w_fitR hR rfl) (m_fail (1) hR ⟨by omega, by omega⟩ (show 0 ≤ (I 2774) ∧ (I 2774) < 1501 by omega) (show 1 ≤ 1 ∧ 1 ≤ 7 by first | assumption | omega)) (fun r175 M176 q177 => ?_)
          rcases q177 with ⟨I177a, A177a, B177a, C177a, e178, hR177a, f179⟩
          rw [e178]
          replace hR177a : w_Rep w_TM fr X u l I177a A177a B177a C177a M176 := hR177a
          replace f179 : m_fx I A I177a A177a := f179
          exact Or.inr (⟨I177a, A177a, B177a, C177a, rfl, hR177a, (show m_fx I A I177a A177a by exact f179)⟩)
    · have h6 : ¬ (¬ (A 45) ((I 2774)) = 1) := h6
      have w180 : (I 2774) + 1 < (I 2754) := m_TK_lt hTK (by omega) (by omega) (by omega)
      show w_W _ _ _ (56, [(0, .ref 43)], [], M) _
      refine w_adv (n := 1) (F' := (57, [(0, .ref 43)], [.ref 43], M)) rfl ?_
      refine w_gf (v := .ref 46) hR rfl rfl rfl rfl ?_
      refine w_adv (n := 1) (F' := (61, [(0, .ref 43)], [.ref 43, .ref 46], M)) rfl ?_
      refine w_gf (v := .int (Int32.ofInt ((I 2774)))) hR rfl rfl rfl rfl ?_
      refine w_la (n := 1502) hR rfl (Or.inl ⟨rfl, rfl⟩) rfl (show 0 ≤ (I 2774) by omega) (show (I 2774) < (1502 : Int) by omega) (by decide) ?_
      obtain ⟨r181, r182⟩ : -2147483648 ≤ (A 46) ((I 2774)) ∧ (A 46) ((I 2774)) ≤ 2147483647 := hR.ra 46 ((I 2774))
      show w_W _ _ _ (65, [(0, .ref 43)], [.int (Int32.ofInt ((A 46) ((I 2774))))], M) _
      refine w_adv (n := 2) (F' := (67, [(1, .int (Int32.ofInt ((A 46) ((I 2774))))), (0, .ref 43)], [.ref 43], M)) rfl ?_
      refine w_call (cm := 252) (as := [(0, .ref 43)]) (rest := []) (o := some (9, 43)) rfl (w_fitR hR rfl) (m_isBracketed hR (show 0 ≤ (I 2774) ∧ (I 2774) < 1501 by omega)) (fun r183 M184 q185 => ?_)
      rcases q185 with ⟨e186, e187, f188⟩ | ⟨e189, e190⟩
      · rw [e186, e187]
        replace f188 : (A 45) ((I 2774) + 1) = 6 := f188
        have wb : (I 2774) + 2 < (I 2754) := by have wq := m_TK_lt hTK (i := (I 2774) + 1) (by omega) (by omega) (by omega); omega
        show w_W _ _ _ (70, [(1, .int (Int32.ofInt ((A 46) ((I 2774))))), (0, .ref 43)], [.int (Int32.ofInt (1))], M) _
        refine w_adv (n := 3) (F' := (73, [(2, .int (Int32.ofInt (1))), (1, .int (Int32.ofInt ((A 46) ((I 2774))))), (0, .ref 43)], [.ref 43, .ref 43], M)) rfl ?_
        refine w_gf (v := .int (Int32.ofInt ((I 2774)))) hR rfl rfl rfl rfl ?_
        refine w_adv (n := 1) (F' := (77, [(2, .int (Int32.ofInt (1))), (1, .int (Int32.ofInt ((A 46) ((I 2774))))), (0, .ref 43)], [.int (Int32.ofInt (1)), .int (Int32.ofInt ((I 2774))), .ref 43], M)) rfl ?_
        refine w_add rfl ?_
        refine w_pf hR rfl rfl rfl rfl (show w_in ((I 2774) + 1) from ⟨by omega, by omega⟩) (fun h => absurd h (by decide)) (fun M191 hR192 => ?_)
        replace hR192 : w_Rep w_TM fr X u l (w_up I 2774 ((I 2774) + 1)) A B C M191 := hR192
        refine w_adv (n := 3) (F' := (96, [(2, .int (Int32.ofInt (1))), (1, .int (Int32.ofInt ((A 46) ((I 2774))))), (0, .ref 43)], [.ref 43], M191)) rfl ?_
        refine w_call (cm := 235) (as := [(0, .ref 43)]) (rest := []) (o := some (9, 43)) rfl (w_fitR hR192 rfl) (m_enter hR192 (show 2 ≤ d by omega) (show 0 ≤ (I 2774) + 1 ∧ (I 2774) + 1 < 1501 by omega) (show 0 ≤ (I 2775) ∧ (I 2775) ≤ 24 by first | assumption | omega)) (fun r193 M194 q195 => ?_)
        rcases q195 with ⟨e196, hR195a, f197⟩ | ⟨I195b, A195b, B195b, C195b, e198, hR195b, f199⟩
        · rw [e196]
          replace hR195a : w_Rep w_TM fr X u l (w_up (w_up I 2775 ((I 2775) + 1)) 2774 ((I 2774) + 1 + 1)) A B C M194 := w_Rep.up hR195a (show (w_up (w_up I 2775 ((I 2775) + 1)) 2774 ((I 2774) + 1 + 1)) = _ from (funext fun s => if e0 : s = 2774 then (by subst e0; rfl) else if e1 : s = 2775 then (by subst e1; rfl) else (by simp only [w_up_ne e0, w_up_ne e1]))) rfl
          replace f197 : (I 2775) < 24 := f197
          have w200 : ((I 2774) + 1) + 1 < (I 2754) := m_TK_lt hTK (show (I 2774) + 1 < (I 2754) by omega) (show 1 ≤ (A 45) ((I 2774) + 1) by omega) (show (A 45) ((I 2774) + 1) ≤ 6 by omega)
          show w_W _ _ _ (99, [(2, .int (Int32.ofInt (1))), (1, .int (Int32.ofInt ((A 46) ((I 2774))))), (0, .ref 43)], [], M194) _
          refine w_adv (n := 1) (F' := (100, [(2, .int (Int32.ofInt (1))), (1, .int (Int32.ofInt ((A 46) ((I 2774))))), (0, .ref 43)], [.ref 43], M194)) rfl ?_
          refine w_call (cm := 253) (as := [(0, .ref 43)]) (rest := []) (o := some (9, 43)) rfl (w_fitR hR195a rfl) (m_isFeature hR195a (show 0 ≤ (I 2774) + 1 + 1 ∧ (I 2774) + 1 + 1 < 1501 by omega)) (fun r201 M202 q203 => ?_)
          rcases q203 with ⟨e204, e205, f206⟩ | ⟨e207, e208, f209⟩
          · rw [e204, e205]
            replace f206 : (A 45) ((I 2774) + 1 + 1) = 1 ∨ (A 45) ((I 2774) + 1 + 1) = 4 := f206
            have w210 : ((I 2774) + 1 + 1) + 1 < (I 2754) := m_TK_lt hTK (by omega) (by omega) (by omega)
            show w_W _ _ _ (103, [(2, .int (Int32.ofInt (1))), (1, .int (Int32.ofInt ((A 46) ((I 2774))))), (0, .ref 43)], [.int (Int32.ofInt (1))], M194) _
            refine w_adv (n := 3) (F' := (108, [(2, .int (Int32.ofInt (1))), (1, .int (Int32.ofInt ((A 46) ((I 2774))))), (0, .ref 43)], [.int (Int32.ofInt (1)), .ref 43], M194)) rfl ?_
            refine w_call (cm := 255) (as := [(0, .ref 43), (1, .int (Int32.ofInt (1)))]) (rest := []) (o := some (9, 43)) rfl (w_fitR hR195a rfl) (m_named hA (1) (lo) hR195a (show 20 * (24 - ((I 2775) + 1)) + 23 ≤ (d : Int) by omega) ⟨by omega, by omega⟩ (show m_TK (w_up (w_up I 2775 ((I 2775) + 1)) 2774 ((I 2774) + 1 + 1)) A by exact hTK) (show (0 ≤ (I 2774) + 1 + 1 ∧ (I 2774) + 1 + 1 < (I 2754) ∧ (I 2754) ≤ 1501 ∧ 0 ≤ (I 2775) + 1 ∧ (I 2775) + 1 ≤ 24) ∧ ((I 3393) = (I 3905) ∧ (I 3521) = (I 3905) ∧ (I 3649) = (I 3905) ∧ (I 3777) = (I 3905) ∧ 0 ≤ (I 3905) ∧ (I 3905) ≤ 3 * ((I 2774) + 1 + 1)) ∧ ((I 4161) = (I 4033) ∧ 7 ≤ (I 4289) ∧ (I 4289) ≤ (I 4033) ∧ (I 4033) ≤ 7 + ((I 2774) + 1 + 1)) ∧ 0 ≤ (I 5889) ∧ (I 5889) ≤ (I 2774) + 1 + 1 by (repeat' apply And.intro) <;> first | assumption | omega) (show m_SC (w_up (w_up I 2775 ((I 2775) + 1)) 2774 ((I 2774) + 1 + 1)) A by exact hSC) (show m_TR lo (w_up (w_up I 2775 ((I 2775) + 1)) 2774 ((I 2774) + 1 + 1)) A by exact hTR) (show 1 = 0 ∨ 1 = 1 by first | assumption | omega) (show (I 2754) - ((I 2774) + 1 + 1) < N by first | assumption | omega)) (fun r211 M212 q213 => ?_)
            rcases q213 with ⟨v214, lo215, I213a, A213a, B213a, C213a, e216, ⟨r217, r218⟩, hR213a, f219, f220, f221, f222, f223, f224, f225, f226⟩ | ⟨I213b, A213b, B213b, C213b, e227, hR213b, f228⟩
            · rw [e216]
              replace hR213a : w_Rep w_TM fr X u l I213a A213a B213a C213a M212 := hR213a
              replace f219 : m_fx (w_up (w_up I 2775 ((I 2775) + 1)) 2774 ((I 2774) + 1 + 1)) A I213a A213a := f219
              replace f220 : ((0 ≤ (I213a 2774) ∧ (I213a 2774) < (I213a 2754) ∧ (I213a 2754) ≤ 1501 ∧ 0 ≤ (I213a 2775) ∧ (I213a 2775) ≤ 24) ∧ ((I213a 3393) = (I213a 3905) ∧ (I213a 3521) = (I213a 3905) ∧ (I213a 3649) = (I213a 3905) ∧ (I213a 3777) = (I213a 3905) ∧ 0 ≤ (I213a 3905) ∧ (I213a 3905) ≤ 3 * (I213a 2774)) ∧ ((I213a 4161) = (I213a 4033) ∧ 7 ≤ (I213a 4289) ∧ (I213a 4289) ≤ (I213a 4033) ∧ (I213a 4033) ≤ 7 + (I213a 2774)) ∧ 0 ≤ (I213a 5889) ∧ (I213a 5889) ≤ (I213a 2774)) ∧ ((I213a 2754) = (I 2754) ∧ ((I 2774) + 1 + 1) + 0 ≤ (I213a 2774) ∧ (I213a 2775) = (I 2775) + 1 ∧ ((I 4289) ≤ (I213a 4289) ∧ ((1 : Int) = 0 → (I213a 4289) = (I 4289))) ∧ (I213a 5889) = (I 5889)) ∧ ((I213a 3905) + 0 ≤ (I 3905) + 3 * ((I213a 2774) - ((I 2774) + 1 + 1)) ∧ (I 3905) ≤ (I213a 3905) ∧ -1 ≤ v214 ∧ v214 < (I213a 3905) ∧ (I 4033) ≤ (I213a 4033) ∧ (I213a 4033) ≤ (I 4033) + ((I213a 2774) - ((I 2774) + 1 + 1))) := f220
              obtain ⟨⟨⟨n229, n230, n231, n232, n233⟩, ⟨n234, n235, n236, n237, n238, n239⟩, ⟨n240, n241, n242, n243⟩, n244, n245⟩, ⟨n246, n247, n248, ⟨n249, n250⟩, n251⟩, ⟨n252, n253, n254, n255, n256, n257⟩⟩ := id f220
              clear f220
              replace f221 : m_SC I213a A213a := f221
              replace f222 : m_TR lo215 I213a A213a := f222
              replace f223 : m_ST lo (w_up (w_up I 2775 ((I 2775) + 1)) 2774 ((I 2774) + 1 + 1)) A lo215 I213a A213a := f223
              replace f224 : v214 = -1 ∨ m_kd lo215 I213a A213a (I 3905) (8 * (24 - ((I 2775) + 1)) + 6) v214 (fun k => k = 6 + 21 * 1) := f224
              replace f225 : v214 = -1 ∨ m_rt lo215 (I213a 3905) v214 := f225
              replace f226 : m_RK lo215 (I 3905) (I213a 3905) (8 * (24 - ((I 2775) + 1)) + 6) := f226
              have tk258 : m_TK I213a A213a := m_TK_fx f219 hTK
              have nn259 : (I 3905) ≤ (I213a 3905) := by omega
              have nz260 : 0 ≤ (I 3905) := by first | assumption | omega
              have ho261 : (I 2775) + 1 = (I 2775) + (1) := by omega
              have rk263 : m_RK lo215 (I 3905) (I213a 3905) (8 * (24 - (I 2775)) + (-2)) := m_RK_app (I := (w_up (w_up I 2775 ((I 2775) + 1)) 2774 ((I 2774) + 1 + 1))) (I' := I213a) (R := (8 * (24 - (I 2775)) + (-2))) (show m_RK lo (I 3905) (I 3905) (8 * (24 - (I 2775)) + (-2)) from fun q q1 q2 => by omega) f223 f226 (show 0 ≤ (I 3905) by first | assumption | omega) (m_r8 (by decide)) (m_r8o (k := 1) ho261 (by decide))
              have s262 : m_ST lo I A lo215 I213a A213a := f223
              have o264 : v214 = -1 ∨ m_kd lo215 I213a A213a (I 3905) (8 * (24 - ((I 2775) + 1)) + 6) v214 (fun k => k = 27) := f224
              show w_W _ _ _ (111, [(2, .int (Int32.ofInt (1))), (1, .int (Int32.ofInt ((A 46) ((I 2774))))), (0, .ref 43)], [.int (Int32.ofInt (v214))], M212) _
              refine w_adv (n := 4) (F' := (122, [(3, .int (Int32.ofInt (v214))), (2, .int (Int32.ofInt (1))), (1, .int (Int32.ofInt ((A 46) ((I 2774))))), (0, .ref 43)], [.int (Int32.ofInt (41)), .ref 43], M212)) rfl ?_
              refine w_call (cm := 264) (as := [(0, .ref 43), (1, .int (Int32.ofInt (41)))]) (rest := []) (o := some (9, 43)) rfl (w_fitR hR213a rfl) (m_closeSign (41) hR213a (show 3 ≤ d by omega) ⟨by omega, by omega⟩ (show 0 ≤ (I213a 2774) ∧ (I213a 2774) < 1501 by omega) (show 1 ≤ (I213a 2775) ∧ (I213a 2775) ≤ 24 by first | assumption | omega)) (fun r265 M266 q267 => ?_)
              rcases q267 with ⟨e268, hR267a, f269⟩ | ⟨I267b, A267b, B267b, C267b, e270, hR267b, f271⟩
              · rw [e268]
                replace hR267a : w_Rep w_TM fr X u l (w_up (w_up I213a 2774 ((I213a 2774) + 1)) 2775 ((I213a 2775) - 1)) A213a B213a C213a M266 := hR267a
                replace f269 : (A213a 45) ((I213a 2774)) = 6 ∧ (A213a 46) ((I213a 2774)) = 41 := f269
                obtain ⟨n272, n273⟩ := id f269
                clear f269
                have w274 : (I213a 2774) + 1 < (I213a 2754) := m_TK_lt tk258 (show (I213a 2774) < (I213a 2754) by omega) (show 1 ≤ (A213a 45) ((I213a 2774)) by omega) (show (A213a 45) ((I213a 2774)) ≤ 6 by omega)
                show w_W _ _ _ (125, [(3, .int (Int32.ofInt (v214))), (2, .int (Int32.ofInt (1))), (1, .int (Int32.ofInt ((A 46) ((I 2774))))), (0, .ref 43)], [], M266) _
                refine w_adv (n := 3) (F' := (129, [(3, .int (Int32.ofInt (v214))), (2, .int (Int32.ofInt (1))), (1, .int (Int32.ofInt ((A 46) ((I 2774))))), (0, .ref 43)], [.int (Int32.ofInt (v214)), .int (Int32.ofInt (26)), .ref 43], M266)) rfl ?_
                refine w_br1 (a := v214) rfl rfl ⟨by omega, by omega⟩ (fun h275 => ?_) (fun h275 => ?_)
                · have h275 : v214 ≥ 0 := h275
                  show w_W _ _ _ (136, [(3, .int (Int32.ofInt (v214))), (2, .int (Int32.ofInt (1))), (1, .int (Int32.ofInt ((A 46) ((I 2774))))), (0, .ref 43)], [.int (Int32.ofInt (26)), .ref 43], M266) _
                  refine w_adv (n := 3) (F' := (139, [(3, .int (Int32.ofInt (v214))), (2, .int (Int32.ofInt (1))), (1, .int (Int32.ofInt ((A 46) ((I 2774))))), (0, .ref 43)], [.int (Int32.ofInt (v214)), .int (Int32.ofInt ((A 46) ((I 2774)))), .int (Int32.ofInt (2)), .int (Int32.ofInt (26)), .ref 43], M266)) rfl ?_
                  refine w_call (cm := 239) (as := [(0, .ref 43), (1, .int (Int32.ofInt (26))), (2, .int (Int32.ofInt (2))), (3, .int (Int32.ofInt ((A 46) ((I 2774))))), (4, .int (Int32.ofInt (v214)))]) (rest := []) (o := some (9, 43)) rfl (w_fitR hR267a rfl) (m_node (26) (2) ((A 46) ((I 2774))) (v214) hR267a (show 2 ≤ d by omega) ⟨by omega, by omega⟩ ⟨by omega, by omega⟩ ⟨by omega, by omega⟩ ⟨by omega, by omega⟩ (show (I213a 3393) = (I213a 3905) by first | assumption | omega) (show (I213a 3521) = (I213a 3905) by first | assumption | omega) (show (I213a 3649) = (I213a 3905) by first | assumption | omega) (show (I213a 3777) = (I213a 3905) by first | assumption | omega) (show (I213a 3905) < 65536 by first | assumption | omega)) (fun r276 M277 q278 => ?_)
                  rcases q278 with ⟨v279, I278a, A278a, B278a, C278a, e280, ⟨r281, r282⟩, hR278a, f283, f284⟩
                  rw [e280]
                  replace hR278a : w_Rep w_TM fr X u l I278a A278a B278a C278a M277 := hR278a
                  replace f283 : m_fx (w_up (w_up I213a 2774 ((I213a 2774) + 1)) 2775 ((I213a 2775) - 1)) A213a I278a A278a := f283
                  replace f284 : m_nd (w_up (w_up I213a 2774 ((I213a 2774) + 1)) 2775 ((I213a 2775) - 1)) A213a I278a A278a v279 26 2 ((A 46) ((I 2774))) v214 := f284
                  obtain ⟨⟨n285, n286, n287, n288, n289, n290⟩, ⟨n291, n292, n293, n294, n295, n296, n297⟩⟩ : (v279 = (I213a 3905) ∧ (I278a 3905) = (I213a 3905) + 1 ∧ (I278a 3393) = (I213a 3393) + 1 ∧ (I278a 3521) = (I213a 3521) + 1 ∧ (I278a 3649) = (I213a 3649) + 1 ∧ (I278a 3777) = (I213a 3777) + 1) ∧ ((I278a 2774) = (I213a 2774) + 1 ∧ (I278a 2754) = (I213a 2754) ∧ (I278a 2775) = (I213a 2775) - 1 ∧ (I278a 4289) = (I213a 4289) ∧ (I278a 4033) = (I213a 4033) ∧ (I278a 4161) = (I213a 4161) ∧ (I278a 5889) = (I213a 5889)) := m_nd_num f284
                  have tk298 : m_TK I278a A278a := m_TK_fx f283 tk258
                  have sc299 : m_SC I278a A278a := m_SC_nd f284 f221
                  have tr300 : m_TR (t_up lo215 v279 (I 3905) (8 * (24 - (I 2775)) + (-1))) I278a A278a := m_TR_nd (show m_TR lo215 (w_up (w_up I213a 2774 ((I213a 2774) + 1)) 2775 ((I213a 2775) - 1)) A213a from f222) f284 (show 0 ≤ (I 3905) by omega) (show (I 3905) ≤ v279 by omega) (m_cl_ST (show m_ST lo I A lo215 (w_up (w_up I213a 2774 ((I213a 2774) + 1)) 2775 ((I213a 2775) - 1)) A213a from s262) hTR (show 0 ≤ (I 3905) by omega)) (t_N_mk26 t_up_same (show 0 ≤ (I 3905) by omega) (show (I 3905) ≤ v279 by omega) (show 0 ≤ (8 * (24 - (I 2775)) + (-1)) by omega) (m_hw (show m_RK lo215 (I 3905) v279 (8 * (24 - (I 2775)) + (-2)) from fun q q1 q2 => (show m_RK lo215 (I 3905) (I213a 3905) (8 * (24 - (I 2775)) + (-2)) from rk263) q (show (I 3905) ≤ q by omega) (show q < (I213a 3905) by omega)) (m_r8l (by decide))) ((show v214 = -1 ∨ m_kd lo215 (w_up (w_up I213a 2774 ((I213a 2774) + 1)) 2775 ((I213a 2775) - 1)) A213a (I 3905) (8 * (24 - ((I 2775) + 1)) + 6) v214 (fun k => k = 27) from o264).imp_right (fun q => m_ch f284 (show (I 3905) ≤ (I 3905) by omega) q)))
                  have s301 : m_ST lo I A (t_up lo215 v279 (I 3905) (8 * (24 - (I 2775)) + (-1))) I278a A278a := m_ST_nd (l := (I 3905)) (show m_ST lo I A lo215 (w_up (w_up I213a 2774 ((I213a 2774) + 1)) 2775 ((I213a 2775) - 1)) A213a from s262) f284 (show (I 3905) ≤ (I 3905) by omega) (show (I 3905) ≤ (I213a 3905) by omega)
                  have rk302 : m_RK (t_up lo215 v279 (I 3905) (8 * (24 - (I 2775)) + (-1))) (I 3905) (I278a 3905) (8 * (24 - (I 2775)) + (-1)) := fun q q1 q2 => m_RK_nd (show m_RK lo215 (I 3905) v279 (8 * (24 - (I 2775)) + (-2)) from fun q q1 q2 => (show m_RK lo215 (I 3905) (I213a 3905) (8 * (24 - (I 2775)) + (-2)) from rk263) q q1 (show q < (I213a 3905) by omega)) (m_r8 (by decide)) (m_r8 (by decide)) q q1 (show q < v279 + 1 by omega)
                  have k303 : m_kd (t_up lo215 v279 (I 3905) (8 * (24 - (I 2775)) + (-1))) I278a A278a (I 3905) (8 * (24 - (I 2775)) + (-1)) v279 (fun k => k = 26) := m_kd_new f284 (show 0 ≤ (I 3905) by omega) (show (I 3905) ≤ v279 by omega) rfl
                  have rt304 : m_rt (t_up lo215 v279 (I 3905) (8 * (24 - (I 2775)) + (-1))) (I278a 3905) v279 := m_rt_new f284
                  show w_W _ _ _ (142, [(3, .int (Int32.ofInt (v214))), (2, .int (Int32.ofInt (1))), (1, .int (Int32.ofInt ((A 46) ((I 2774))))), (0, .ref 43)], [.int (Int32.ofInt (v279))], M277) _
                  refine w_fin (r := .inl (some (v279))) (M' := M277) rfl ?_
                  exact Or.inl ⟨v279, (t_up lo215 v279 (I 3905) (8 * (24 - (I 2775)) + (-1))), I278a, A278a, B278a, C278a, rfl, ⟨by omega, by omega⟩, hR278a, (show m_fx I A I278a A278a by exact (m_fx_trans f219 f283)), (show ((0 ≤ (I278a 2774) ∧ (I278a 2774) < (I278a 2754) ∧ (I278a 2754) ≤ 1501 ∧ 0 ≤ (I278a 2775) ∧ (I278a 2775) ≤ 24) ∧ ((I278a 3393) = (I278a 3905) ∧ (I278a 3521) = (I278a 3905) ∧ (I278a 3649) = (I278a 3905) ∧ (I278a 3777) = (I278a 3905) ∧ 0 ≤ (I278a 3905) ∧ (I278a 3905) ≤ 3 * (I278a 2774)) ∧ ((I278a 4161) = (I278a 4033) ∧ 7 ≤ (I278a 4289) ∧ (I278a 4289) ≤ (I278a 4033) ∧ (I278a 4033) ≤ 7 + (I278a 2774)) ∧ 0 ≤ (I278a 5889) ∧ (I278a 5889) ≤ (I278a 2774)) ∧ ((I278a 2754) = (I 2754) ∧ (I 2774) + 1 ≤ (I278a 2774) ∧ (I278a 2775) = (I 2775) ∧ (I 4289) ≤ (I278a 4289) ∧ (I278a 5889) = (I 5889)) ∧ ((I278a 3905) + 1 ≤ (I 3905) + 3 * ((I278a 2774) - (I 2774)) ∧ (I 3905) ≤ v279 ∧ v279 + 1 = (I278a 3905) ∧ (I 4033) ≤ (I278a 4033) ∧ (I278a 4033) ≤ (I 4033) + ((I278a 2774) - (I 2774))) by (repeat' apply And.intro) <;> first | assumption | omega), (show m_SC I278a A278a by exact sc299), (show m_TR (t_up lo215 v279 (I 3905) (8 * (24 - (I 2775)) + (-1))) I278a A278a by exact tr300), (show m_ST lo I A (t_up lo215 v279 (I 3905) (8 * (24 - (I 2775)) + (-1))) I278a A278a by exact s301), (show (fun k => k = 26) ((A278a 53) (v279)) by exact (k303).2), (show m_rt (t_up lo215 v279 (I 3905) (8 * (24 - (I 2775)) + (-1))) (I278a 3905) v279 by exact rt304), (show m_RK (t_up lo215 v279 (I 3905) (8 * (24 - (I 2775)) + (-1))) (I 3905) (I278a 3905) (8 * (24 - (I 2775)) + 2) by exact m_RK_le (show m_RK (t_up lo215 v279 (I 3905) (8 * (24 - (I 2775)) + (-1))) (I 3905) (I278a 3905) (8 * (24 - (I 2775)) + (-1)) from rk302) (show (8 * (24 - (I 2775)) + (-1)) ≤ 8 * (24 - (I 2775)) + 2 by omega))⟩
                · have h275 : ¬ (v214 ≥ 0) := h275
                  show w_W _ _ _ (132, [(3, .int (Int32.ofInt (v214))), (2, .int (Int32.ofInt (1))), (1, .int (Int32.ofInt ((A 46) ((I 2774))))), (0, .ref 43)], [.int (Int32.ofInt (26)), .ref 43], M266) _
                  refine w_adv (n := 4) (F' := (139, [(3, .int (Int32.ofInt (v214))), (2, .int (Int32.ofInt (1))), (1, .int (Int32.ofInt ((A 46) ((I 2774))))), (0, .ref 43)], [.int (Int32.ofInt (v214)), .int (Int32.ofInt ((A 46) ((I 2774)))), .int (Int32.ofInt (1)), .int (Int32.ofInt (26)), .ref 43], M266)) rfl ?_
                  refine w_call (cm := 239) (as := [(0, .ref 43), (1, .int (Int32.ofInt (26))), (2, .int (Int32.ofInt (1))), (3, .int (Int32.ofInt ((A 46) ((I 2774))))), (4, .int (Int32.ofInt (v214)))]) (rest := []) (o := some (9, 43)) rfl (w_fitR hR267a rfl) (m_node (26) (1) ((A 46) ((I 2774))) (v214) hR267a (show 2 ≤ d by omega) ⟨by omega, by omega⟩ ⟨by omega, by omega⟩ ⟨by omega, by omega⟩ ⟨by omega, by omega⟩ (show (I213a 3393) = (I213a 3905) by first | assumption | omega) (show (I213a 3521) = (I213a 3905) by first | assumption | omega) (show (I213a 3649) = (I213a 3905) by first | assumption | omega) (show (I213a 3777) = (I213a 3905) by first | assumption | omega) (show (I213a 3905) < 65536 by first | assumption | omega)) (fun r305 M306 q307 => ?_)
                  rcases q307 with ⟨v308, I307a, A307a, B307a, C307a, e309, ⟨r310, r311⟩, hR307a, f312, f313⟩
                  rw [e309]
                  replace hR307a : w_Rep w_TM fr X u l I307a A307a B307a C307a M306 := hR307a
                  replace f312 : m_fx (w_up (w_up I213a 2774 ((I213a 2774) + 1)) 2775 ((I213a 2775) - 1)) A213a I307a A307a := f312
                  replace f313 : m_nd (w_up (w_up I213a 2774 ((I213a 2774) + 1)) 2775 ((I213a 2775) - 1)) A213a I307a A307a v308 26 1 ((A 46) ((I 2774))) v214 := f313
                  obtain ⟨⟨n314, n315, n316, n317, n318, n319⟩, ⟨n320, n321, n322, n323, n324, n325, n326⟩⟩ : (v308 = (I213a 3905) ∧ (I307a 3905) = (I213a 3905) + 1 ∧ (I307a 3393) = (I213a 3393) + 1 ∧ (I307a 3521) = (I213a 3521) + 1 ∧ (I307a 3649) = (I213a 3649) + 1 ∧ (I307a 3777) = (I213a 3777) + 1) ∧ ((I307a 2774) = (I213a 2774) + 1 ∧ (I307a 2754) = (I213a 2754) ∧ (I307a 2775) = (I213a 2775) - 1 ∧ (I307a 4289) = (I213a 4289) ∧ (I307a 4033) = (I213a 4033) ∧ (I307a 4161) = (I213a 4161) ∧ (I307a 5889) = (I213a 5889)) := m_nd_num f313
                  have tk327 : m_TK I307a A307a := m_TK_fx f312 tk258
                  have sc328 : m_SC I307a A307a := m_SC_nd f313 f221
                  have tr329 : m_TR (t_up lo215 v308 (I 3905) (8 * (24 - (I 2775)) + (-1))) I307a A307a := m_TR_nd (show m_TR lo215 (w_up (w_up I213a 2774 ((I213a 2774) + 1)) 2775 ((I213a 2775) - 1)) A213a from f222) f313 (show 0 ≤ (I 3905) by omega) (show (I 3905) ≤ v308 by omega) (m_cl_ST (show m_ST lo I A lo215 (w_up (w_up I213a 2774 ((I213a 2774) + 1)) 2775 ((I213a 2775) - 1)) A213a from s262) hTR (show 0 ≤ (I 3905) by omega)) (t_N_mk26 t_up_same (show 0 ≤ (I 3905) by omega) (show (I 3905) ≤ v308 by omega) (show 0 ≤ (8 * (24 - (I 2775)) + (-1)) by omega) (m_hw (show m_RK lo215 (I 3905) v308 (8 * (24 - (I 2775)) + (-2)) from fun q q1 q2 => (show m_RK lo215 (I 3905) (I213a 3905) (8 * (24 - (I 2775)) + (-2)) from rk263) q (show (I 3905) ≤ q by omega) (show q < (I213a 3905) by omega)) (m_r8l (by decide))) ((show v214 = -1 ∨ m_kd lo215 (w_up (w_up I213a 2774 ((I213a 2774) + 1)) 2775 ((I213a 2775) - 1)) A213a (I 3905) (8 * (24 - ((I 2775) + 1)) + 6) v214 (fun k => k = 27) from o264).imp_right (fun q => m_ch f313 (show (I 3905) ≤ (I 3905) by omega) q)))
                  have s330 : m_ST lo I A (t_up lo215 v308 (I 3905) (8 * (24 - (I 2775)) + (-1))) I307a A307a := m_ST_nd (l := (I 3905)) (show m_ST lo I A lo215 (w_up (w_up I213a 2774 ((I213a 2774) + 1)) 2775 ((I213a 2775) - 1)) A213a from s262) f313 (show (I 3905) ≤ (I 3905) by omega) (show (I 3905) ≤ (I213a 3905) by omega)
                  have rk331 : m_RK (t_up lo215 v308 (I 3905) (8 * (24 - (I 2775)) + (-1))) (I 3905) (I307a 3905) (8 * (24 - (I 2775)) + (-1)) := fun q q1 q2 => m_RK_nd (show m_RK lo215 (I 3905) v308 (8 * (24 - (I 2775)) + (-2)) from fun q q1 q2 => (show m_RK lo215 (I 3905) (I213a 3905) (8 * (24 - (I 2775)) + (-2)) from rk263) q q1 (show q < (I213a 3905) by omega)) (m_r8 (by decide)) (m_r8 (by decide)) q q1 (show q < v308 + 1 by omega)
                  have k332 : m_kd (t_up lo215 v308 (I 3905) (8 * (24 - (I 2775)) + (-1))) I307a A307a (I 3905) (8 * (24 - (I 2775)) + (-1)) v308 (fun k => k = 26) := m_kd_new f313 (show 0 ≤ (I 3905) by omega) (show (I 3905) ≤ v308 by omega) rfl
                  have rt333 : m_rt (t_up lo215 v308 (I 3905) (8 * (24 - (I 2775)) + (-1))) (I307a 3905) v308 := m_rt_new f313
                  show w_W _ _ _ (142, [(3, .int (Int32.ofInt (v214))), (2, .int (Int32.ofInt (1))), (1, .int (Int32.ofInt ((A 46) ((I 2774))))), (0, .ref 43)], [.int (Int32.ofInt (v308))], M306) _
                  refine w_fin (r := .inl (some (v308))) (M' := M306) rfl ?_
                  exact Or.inl ⟨v308, (t_up lo215 v308 (I 3905) (8 * (24 - (I 2775)) + (-1))), I307a, A307a, B307a, C307a, rfl, ⟨by omega, by omega⟩, hR307a, (show m_fx I A I307a A307a by exact (m_fx_trans f219 f312)), (show ((0 ≤ (I307a 2774) ∧ (I307a 2774) < (I307a 2754) ∧ (I307a 2754) ≤ 1501 ∧ 0 ≤ (I307a 2775) ∧ (I307a 2775) ≤ 24) ∧ ((I307a 3393) = (I307a 3905) ∧ (I307a 3521) = (I307a 3905) ∧ (I307a 3649) = (I307a 3905) ∧ (I307a 3777) = (I307a 3905) ∧ 0 ≤ (I307a 3905) ∧ (I307a 3905) ≤ 3 * (I307a 2774)) ∧ ((I307a 4161) = (I307a 4033) ∧ 7 ≤ (I307a 4289) ∧ (I307a 4289) ≤ (I307a 4033) ∧ (I307a 4033) ≤ 7 + (I307a 2774)) ∧ 0 ≤ (I307a 5889) ∧ (I307a 5889) ≤ (I307a 2774)) ∧ ((I307a 2754) = (I 2754) ∧ (I 2774) + 1 ≤ (I307a 2774) ∧ (I307a 2775) = (I 2775) ∧ (I 4289) ≤ (I307a 4289) ∧ (I307a 5889) = (I 5889)) ∧ ((I307a 3905) + 1 ≤ (I 3905) + 3 * ((I307a 2774) - (I 2774)) ∧ (I 3905) ≤ v308 ∧ v308 + 1 = (I307a 3905) ∧ (I 4033) ≤ (I307a 4033) ∧ (I307a 4033) ≤ (I 4033) + ((I307a 2774) - (I 2774))) by (repeat' apply And.intro) <;> first | assumption | omega), (show m_SC I307a A307a by exact sc328), (show m_TR (t_up lo215 v308 (I 3905) (8 * (24 - (I 2775)) + (-1))) I307a A307a by exact tr329), (show m_ST lo I A (t_up lo215 v308 (I 3905) (8 * (24 - (I 2775)) + (-1))) I307a A307a by exact s330), (show (fun k => k = 26) ((A307a 53) (v308)) by exact (k332).2), (show m_rt (t_up lo215 v308 (I 3905) (8 * (24 - (I 2775)) + (-1))) (I307a 3905) v308 by exact rt333), (show m_RK (t_up lo215 v308 (I 3905) (8 * (24 - (I 2775)) + (-1))) (I 3905) (I307a 3905) (8 * (24 - (I 2775)) + 2) by exact m_RK_le (show m_RK (t_up lo215 v308 (I 3905) (8 * (24 - (I 2775)) + (-1))) (I 3905) (I307a 3905) (8 * (24 - (I 2775)) + (-1)) from rk331) (show (8 * (24 - (I 2775)) + (-1)) ≤ 8 * (24 - (I 2775)) + 2 by omega))⟩
              · rw [e270]
                replace hR267b : w_Rep w_TM fr X u l I267b A267b B267b C267b M266 := hR267b
                replace f271 : m_fx I213a A213a I267b A267b := f271
                exact Or.inr (⟨I267b, A267b, B267b, C267b, rfl, hR267b, (show m_fx I A I267b A267b by exact (m_fx_trans f219 f271))⟩)
            · rw [e227]
              replace hR213b : w_Rep w_TM fr X u l I213b A213b B213b C213b M212 := hR213b
              replace f228 : m_fx (w_up (w_up I 2775 ((I 2775) + 1)) 2774 ((I 2774) + 1 + 1)) A I213b A213b := f228
              exact Or.inr (⟨I213b, A213b, B213b, C213b, rfl, hR213b, (show m_fx I A I213b A213b by exact f228)⟩)
          · rw [e207, e208]
            replace f209 : ¬ ((A 45) ((I 2774) + 1 + 1) = 1 ∨ (A 45) ((I 2774) + 1 + 1) = 4) := f209
            show w_W _ _ _ (103, [(2, .int (Int32.ofInt (1))), (1, .int (Int32.ofInt ((A 46) ((I 2774))))), (0, .ref 43)], [.int (Int32.ofInt (0))], M194) _
            refine w_adv (n := 2) (F' := (115, [(2, .int (Int32.ofInt (1))), (1, .int (Int32.ofInt ((A 46) ((I 2774))))), (0, .ref 43)], [.ref 43], M194)) rfl ?_
            refine w_call (cm := 271) (as := [(0, .ref 43)]) (rest := []) (o := some (9, 43)) rfl (w_fitR hR195a rfl) (m_plainSlots (lo) hR195a (show 20 * (24 - ((I 2775) + 1)) + 10 ≤ (d : Int) by omega) (show m_TK (w_up (w_up I 2775 ((I 2775) + 1)) 2774 ((I 2774) + 1 + 1)) A by exact hTK) (show (0 ≤ (I 2774) + 1 + 1 ∧ (I 2774) + 1 + 1 < (I 2754) ∧ (I 2754) ≤ 1501 ∧ 0 ≤ (I 2775) + 1 ∧ (I 2775) + 1 ≤ 24) ∧ ((I 3393) = (I 3905) ∧ (I 3521) = (I 3905) ∧ (I 3649) = (I 3905) ∧ (I 3777) = (I 3905) ∧ 0 ≤ (I 3905) ∧ (I 3905) ≤ 3 * ((I 2774) + 1 + 1)) ∧ ((I 4161) = (I 4033) ∧ 7 ≤ (I 4289) ∧ (I 4289) ≤ (I 4033) ∧ (I 4033) ≤ 7 + ((I 2774) + 1 + 1)) ∧ 0 ≤ (I 5889) ∧ (I 5889) ≤ (I 2774) + 1 + 1 by (repeat' apply And.intro) <;> first | assumption | omega) (show m_SC (w_up (w_up I 2775 ((I 2775) + 1)) 2774 ((I 2774) + 1 + 1)) A by exact hSC) (show m_TR lo (w_up (w_up I 2775 ((I 2775) + 1)) 2774 ((I 2774) + 1 + 1)) A by exact hTR)) (fun r334 M335 q336 => ?_)
            rcases q336 with ⟨v337, lo338, I336a, A336a, B336a, C336a, e339, ⟨r340, r341⟩, hR336a, f342, f343, f344, f345, f346, f347, f348, f349⟩ | ⟨I336b, A336b, B336b, C336b, e350, hR336b, f351⟩
            · rw [e339]
              replace hR336a : w_Rep w_TM fr X u l I336a A336a B336a C336a M335 := hR336a
              replace f342 : m_fx (w_up (w_up I 2775 ((I 2775) + 1)) 2774 ((I 2774) + 1 + 1)) A I336a A336a := f342
              replace f343 : ((0 ≤ (I336a 2774) ∧ (I336a 2774) < (I336a 2754) ∧ (I336a 2754) ≤ 1501 ∧ 0 ≤ (I336a 2775) ∧ (I336a 2775) ≤ 24) ∧ ((I336a 3393) = (I336a 3905) ∧ (I336a 3521) = (I336a 3905) ∧ (I336a 3649) = (I336a 3905) ∧ (I336a 3777) = (I336a 3905) ∧ 0 ≤ (I336a 3905) ∧ (I336a 3905) ≤ 3 * (I336a 2774)) ∧ ((I336a 4161) = (I336a 4033) ∧ 7 ≤ (I336a 4289) ∧ (I336a 4289) ≤ (I336a 4033) ∧ (I336a 4033) ≤ 7 + (I336a 2774)) ∧ 0 ≤ (I336a 5889) ∧ (I336a 5889) ≤ (I336a 2774)) ∧ ((I336a 2754) = (I 2754) ∧ ((I 2774) + 1 + 1) + 0 ≤ (I336a 2774) ∧ (I336a 2775) = (I 2775) + 1 ∧ (I 4289) ≤ (I336a 4289) ∧ (I336a 5889) = (I 5889)) ∧ ((I336a 3905) + 0 ≤ (I 3905) + 3 * ((I336a 2774) - ((I 2774) + 1 + 1)) ∧ (I 3905) ≤ (I336a 3905) ∧ -1 ≤ v337 ∧ v337 < (I336a 3905) ∧ (I 4033) ≤ (I336a 4033) ∧ (I336a 4033) ≤ (I 4033) + ((I336a 2774) - ((I 2774) + 1 + 1))) := f343
              obtain ⟨⟨⟨n352, n353, n354, n355, n356⟩, ⟨n357, n358, n359, n360, n361, n362⟩, ⟨n363, n364, n365, n366⟩, n367, n368⟩, ⟨n369, n370, n371, n372, n373⟩, ⟨n374, n375, n376, n377, n378, n379⟩⟩ := id f343
              clear f343
              replace f344 : m_SC I336a A336a := f344
              replace f345 : m_TR lo338 I336a A336a := f345
              replace f346 : m_ST lo (w_up (w_up I 2775 ((I 2775) + 1)) 2774 ((I 2774) + 1 + 1)) A lo338 I336a A336a := f346
              replace f347 : v337 = -1 ∨ m_kd lo338 I336a A336a (I 3905) (8 * (24 - ((I 2775) + 1)) + 1) v337 (fun k => k = 27) := f347
              replace f348 : v337 = -1 ∨ m_rt lo338 (I336a 3905) v337 := f348
              replace f349 : m_RK lo338 (I 3905) (I336a 3905) (8 * (24 - ((I 2775) + 1)) + 1) := f349
              have tk380 : m_TK I336a A336a := m_TK_fx f342 hTK
              have nn381 : (I 3905) ≤ (I336a 3905) := by omega
              have nz382 : 0 ≤ (I 3905) := by first | assumption | omega
              have ho383 : (I 2775) + 1 = (I 2775) + (1) := by omega
              have rk385 : m_RK lo338 (I 3905) (I336a 3905) (8 * (24 - (I 2775)) + (-7)) := m_RK_app (I := (w_up (w_up I 2775 ((I 2775) + 1)) 2774 ((I 2774) + 1 + 1))) (I' := I336a) (R := (8 * (24 - (I 2775)) + (-7))) (show m_RK lo (I 3905) (I 3905) (8 * (24 - (I 2775)) + (-7)) from fun q q1 q2 => by omega) f346 f349 (show 0 ≤ (I 3905) by first | assumption | omega) (m_r8 (by decide)) (m_r8o (k := 1) ho383 (by decide))
              have s384 : m_ST lo I A lo338 I336a A336a := f346
              show w_W _ _ _ (118, [(2, .int (Int32.ofInt (1))), (1, .int (Int32.ofInt ((A 46) ((I 2774))))), (0, .ref 43)], [.int (Int32.ofInt (v337))], M335) _
              refine w_adv (n := 3) (F' := (122, [(3, .int (Int32.ofInt (v337))), (2, .int (Int32.ofInt (1))), (1, .int (Int32.ofInt ((A 46) ((I 2774))))), (0, .ref 43)], [.int (Int32.ofInt (41)), .ref 43], M335)) rfl ?_
              refine w_call (cm := 264) (as := [(0, .ref 43), (1, .int (Int32.ofInt (41)))]) (rest := []) (o := some (9, 43)) rfl (w_fitR hR336a rfl) (m_closeSign (41) hR336a (show 3 ≤ d by omega) ⟨by omega, by omega⟩ (show 0 ≤ (I336a 2774) ∧ (I336a 2774) < 1501 by omega) (show 1 ≤ (I336a 2775) ∧ (I336a 2775) ≤ 24 by first | assumption | omega)) (fun r386 M387 q388 => ?_)
              rcases q388 with ⟨e389, hR388a, f390⟩ | ⟨I388b, A388b, B388b, C388b, e391, hR388b, f392⟩
              · rw [e389]
                replace hR388a : w_Rep w_TM fr X u l (w_up (w_up I336a 2774 ((I336a 2774) + 1)) 2775 ((I336a 2775) - 1)) A336a B336a C336a M387 := hR388a
                replace f390 : (A336a 45) ((I336a 2774)) = 6 ∧ (A336a 46) ((I336a 2774)) = 41 := f390
                obtain ⟨n393, n394⟩ := id f390
                clear f390
                have w395 : (I336a 2774) + 1 < (I336a 2754) := m_TK_lt tk380 (show (I336a 2774) < (I336a 2754) by omega) (show 1 ≤ (A336a 45) ((I336a 2774)) by omega) (show (A336a 45) ((I336a 2774)) ≤ 6 by omega)
                show w_W _ _ _ (125, [(3, .int (Int32.ofInt (v337))), (2, .int (Int32.ofInt (1))), (1, .int (Int32.ofInt ((A 46) ((I 2774))))), (0, .ref 43)], [], M387) _
                refine w_adv (n := 3) (F' := (129, [(3, .int (Int32.ofInt (v337))), (2, .int (Int32.ofInt (1))), (1, .int (Int32.ofInt ((A 46) ((I 2774))))), (0, .ref 43)], [.int (Int32.ofInt (v337)), .int (Int32.ofInt (26)), .ref 43], M387)) rfl ?_
                refine w_br1 (a := v337) rfl rfl ⟨by omega, by omega⟩ (fun h396 => ?_) (fun h396 => ?_)
                · have h396 : v337 ≥ 0 := h396
                  show w_W _ _ _ (136, [(3, .int (Int32.ofInt (v337))), (2, .int (Int32.ofInt (1))), (1, .int (Int32.ofInt ((A 46) ((I 2774))))), (0, .ref 43)], [.int (Int32.ofInt (26)), .ref 43], M387) _
                  refine w_adv (n := 3) (F' := (139, [(3, .int (Int32.ofInt (v337))), (2, .int (Int32.ofInt (1))), (1, .int (Int32.ofInt ((A 46) ((I 2774))))), (0, .ref 43)], [.int (Int32.ofInt (v337)), .int (Int32.ofInt ((A 46) ((I 2774)))), .int (Int32.ofInt (2)), .int (Int32.ofInt (26)), .ref 43], M387)) rfl ?_
                  refine w_call (cm := 239) (as := [(0, .ref 43), (1, .int (Int32.ofInt (26))), (2, .int (Int32.ofInt (2))), (3, .int (Int32.ofInt ((A 46) ((I 2774))))), (4, .int (Int32.ofInt (v337)))]) (rest := []) (o := some (9, 43)) rfl (w_fitR hR388a rfl) (m_node (26) (2) ((A 46) ((I 2774))) (v337) hR388a (show 2 ≤ d by omega) ⟨by omega, by omega⟩ ⟨by omega, by omega⟩ ⟨by omega, by omega⟩ ⟨by omega, by omega⟩ (show (I336a 3393) = (I336a 3905) by first | assumption | omega) (show (I336a 3521) = (I336a 3905) by first | assumption | omega) (show (I336a 3649) = (I336a 3905) by first | assumption | omega) (show (I336a 3777) = (I336a 3905) by first | assumption | omega) (show (I336a 3905) < 65536 by first | assumption | omega)) (fun r397 M398 q399 => ?_)
                  rcases q399 with ⟨v400, I399a, A399a, B399a, C399a, e401, ⟨r402, r403⟩, hR399a, f404, f405⟩
                  rw [e401]
                  replace hR399a : w_Rep w_TM fr X u l I399a A399a B399a C399a M398 := hR399a
                  replace f404 : m_fx (w_up (w_up I336a 2774 ((I336a 2774) + 1)) 2775 ((I336a 2775) - 1)) A336a I399a A399a := f404
                  replace f405 : m_nd (w_up (w_up I336a 2774 ((I336a 2774) + 1)) 2775 ((I336a 2775) - 1)) A336a I399a A399a v400 26 2 ((A 46) ((I 2774))) v337 := f405
                  obtain ⟨⟨n406, n407, n408, n409, n410, n411⟩, ⟨n412, n413, n414, n415, n416, n417, n418⟩⟩ : (v400 = (I336a 3905) ∧ (I399a 3905) = (I336a 3905) + 1 ∧ (I399a 3393) = (I336a 3393) + 1 ∧ (I399a 3521) = (I336a 3521) + 1 ∧ (I399a 3649) = (I336a 3649) + 1 ∧ (I399a 3777) = (I336a 3777) + 1) ∧ ((I399a 2774) = (I336a 2774) + 1 ∧ (I399a 2754) = (I336a 2754) ∧ (I399a 2775) = (I336a 2775) - 1 ∧ (I399a 4289) = (I336a 4289) ∧ (I399a 4033) = (I336a 4033) ∧ (I399a 4161) = (I336a 4161) ∧ (I399a 5889) = (I336a 5889)) := m_nd_num f405
                  have tk419 : m_TK I399a A399a := m_TK_fx f404 tk380
                  have sc420 : m_SC I399a A399a := m_SC_nd f405 f344
                  have tr421 : m_TR (t_up lo338 v400 (I 3905) (8 * (24 - (I 2775)) + (-6))) I399a A399a := m_TR_nd (show m_TR lo338 (w_up (w_up I336a 2774 ((I336a 2774) + 1)) 2775 ((I336a 2775) - 1)) A336a from f345) f405 (show 0 ≤ (I 3905) by omega) (show (I 3905) ≤ v400 by omega) (m_cl_ST (show m_ST lo I A lo338 (w_up (w_up I336a 2774 ((I336a 2774) + 1)) 2775 ((I336a 2775) - 1)) A336a from s384) hTR (show 0 ≤ (I 3905) by omega)) (t_N_mk26 t_up_same (show 0 ≤ (I 3905) by omega) (show (I 3905) ≤ v400 by omega) (show 0 ≤ (8 * (24 - (I 2775)) + (-6)) by omega) (m_hw (show m_RK lo338 (I 3905) v400 (8 * (24 - (I 2775)) + (-7)) from fun q q1 q2 => (show m_RK lo338 (I 3905) (I336a 3905) (8 * (24 - (I 2775)) + (-7)) from rk385) q (show (I 3905) ≤ q by omega) (show q < (I336a 3905) by omega)) (m_r8l (by decide))) ((show v337 = -1 ∨ m_kd lo338 (w_up (w_up I336a 2774 ((I336a 2774) + 1)) 2775 ((I336a 2775) - 1)) A336a (I 3905) (8 * (24 - ((I 2775) + 1)) + 1) v337 (fun k => k = 27) from f347).imp_right (fun q => m_ch f405 (show (I 3905) ≤ (I 3905) by omega) q)))
                  have s422 : m_ST lo I A (t_up lo338 v400 (I 3905) (8 * (24 - (I 2775)) + (-6))) I399a A399a := m_ST_nd (l := (I 3905)) (show m_ST lo I A lo338 (w_up (w_up I336a 2774 ((I336a 2774) + 1)) 2775 ((I336a 2775) - 1)) A336a from s384) f405 (show (I 3905) ≤ (I 3905) by omega) (show (I 3905) ≤ (I336a 3905) by omega)
                  have rk423 : m_RK (t_up lo338 v400 (I 3905) (8 * (24 - (I 2775)) + (-6))) (I 3905) (I399a 3905) (8 * (24 - (I 2775)) + (-6)) := fun q q1 q2 => m_RK_nd (show m_RK lo338 (I 3905) v400 (8 * (24 - (I 2775)) + (-7)) from fun q q1 q2 => (show m_RK lo338 (I 3905) (I336a 3905) (8 * (24 - (I 2775)) + (-7)) from rk385) q q1 (show q < (I336a 3905) by omega)) (m_r8 (by decide)) (m_r8 (by decide)) q q1 (show q < v400 + 1 by omega)
                  have k424 : m_kd (t_up lo338 v400 (I 3905) (8 * (24 - (I 2775)) + (-6))) I399a A399a (I 3905) (8 * (24 - (I 2775)) + (-6)) v400 (fun k => k = 26) := m_kd_new f405 (show 0 ≤ (I 3905) by omega) (show (I 3905) ≤ v400 by omega) rfl
                  have rt425 : m_rt (t_up lo338 v400 (I 3905) (8 * (24 - (I 2775)) + (-6))) (I399a 3905) v400 := m_rt_new f405
                  show w_W _ _ _ (142, [(3, .int (Int32.ofInt (v337))), (2, .int (Int32.ofInt (1))), (1, .int (Int32.ofInt ((A 46) ((I 2774))))), (0, .ref 43)], [.int (Int32.ofInt (v400))], M398) _
                  refine w_fin (r := .inl (some (v400))) (M' := M398) rfl ?_
                  exact Or.inl ⟨v400, (t_up lo338 v400 (I 3905) (8 * (24 - (I 2775)) + (-6))), I399a, A399a, B399a, C399a, rfl, ⟨by omega, by omega⟩, hR399a, (show m_fx I A I399a A399a by exact (m_fx_trans f342 f404)), (show ((0 ≤ (I399a 2774) ∧ (I399a 2774) < (I399a 2754) ∧ (I399a 2754) ≤ 1501 ∧ 0 ≤ (I399a 2775) ∧ (I399a 2775) ≤ 24) ∧ ((I399a 3393) = (I399a 3905) ∧ (I399a 3521) = (I399a 3905) ∧ (I399a 3649) = (I399a 3905) ∧ (I399a 3777) = (I399a 3905) ∧ 0 ≤ (I399a 3905) ∧ (I399a 3905) ≤ 3 * (I399a 2774)) ∧ ((I399a 4161) = (I399a 4033) ∧ 7 ≤ (I399a 4289) ∧ (I399a 4289) ≤ (I399a 4033) ∧ (I399a 4033) ≤ 7 + (I399a 2774)) ∧ 0 ≤ (I399a 5889) ∧ (I399a 5889) ≤ (I399a 2774)) ∧ ((I399a 2754) = (I 2754) ∧ (I 2774) + 1 ≤ (I399a 2774) ∧ (I399a 2775) = (I 2775) ∧ (I 4289) ≤ (I399a 4289) ∧ (I399a 5889) = (I 5889)) ∧ ((I399a 3905) + 1 ≤ (I 3905) + 3 * ((I399a 2774) - (I 2774)) ∧ (I 3905) ≤ v400 ∧ v400 + 1 = (I399a 3905) ∧ (I 4033) ≤ (I399a 4033) ∧ (I399a 4033) ≤ (I 4033) + ((I399a 2774) - (I 2774))) by (repeat' apply And.intro) <;> first | assumption | omega), (show m_SC I399a A399a by exact sc420), (show m_TR (t_up lo338 v400 (I 3905) (8 * (24 - (I 2775)) + (-6))) I399a A399a by exact tr421), (show m_ST lo I A (t_up lo338 v400 (I 3905) (8 * (24 - (I 2775)) + (-6))) I399a A399a by exact s422), (show (fun k => k = 26) ((A399a 53) (v400)) by exact (k424).2), (show m_rt (t_up lo338 v400 (I 3905) (8 * (24 - (I 2775)) + (-6))) (I399a 3905) v400 by exact rt425), (show m_RK (t_up lo338 v400 (I 3905) (8 * (24 - (I 2775)) + (-6))) (I 3905) (I399a 3905) (8 * (24 - (I 2775)) + 2) by exact m_RK_le (show m_RK (t_up lo338 v400 (I 3905) (8 * (24 - (I 2775)) + (-6))) (I 3905) (I399a 3905) (8 * (24 - (I 2775)) + (-6)) from rk423) (show (8 * (24 - (I 2775)) + (-6)) ≤ 8 * (24 - (I 2775)) + 2 by omega))⟩
                · have h396 : ¬ (v337 ≥ 0) := h396
                  show w_W _ _ _ (132, [(3, .int (Int32.ofInt (v337))), (2, .int (Int32.ofInt (1))), (1, .int (Int32.ofInt ((A 46) ((I 2774))))), (0, .ref 43)], [.int (Int32.ofInt (26)), .ref 43], M387) _
                  refine w_adv (n := 4) (F' := (139, [(3, .int (Int32.ofInt (v337))), (2, .int (Int32.ofInt (1))), (1, .int (Int32.ofInt ((A 46) ((I 2774))))), (0, .ref 43)], [.int (Int32.ofInt (v337)), .int (Int32.ofInt ((A 46) ((I 2774)))), .int (Int32.ofInt (1)), .int (Int32.ofInt (26)), .ref 43], M387)) rfl ?_
                  refine w_call (cm := 239) (as := [(0, .ref 43), (1, .int (Int32.ofInt (26))), (2, .int (Int32.ofInt (1))), (3, .int (Int32.ofInt ((A 46) ((I 2774))))), (4, .int (Int32.ofInt (v337)))]) (rest := []) (o := some (9, 43)) rfl (w_fitR hR388a rfl) (m_node (26) (1) ((A 46) ((I 2774))) (v337) hR388a (show 2 ≤ d by omega) ⟨by omega, by omega⟩ ⟨by omega, by omega⟩ ⟨by omega, by omega⟩ ⟨by omega, by omega⟩ (show (I336a 3393) = (I336a 3905) by first | assumption | omega) (show (I336a 3521) = (I336a 3905) by first | assumption | omega) (show (I336a 3649) = (I336a 3905) by first | assumption | omega) (show (I336a 3777) = (I336a 3905) by first | assumption | omega) (show (I336a 3905) < 65536 by first | assumption | omega)) (fun r426 M427 q428 => ?_)
                  rcases q428 with ⟨v429, I428a, A428a, B428a, C428a, e430, ⟨r431, r432⟩, hR428a, f433, f434⟩
                  rw [e430]
                  replace hR428a : w_Rep w_TM fr X u l I428a A428a B428a C428a M427 := hR428a
                  replace f433 : m_fx (w_up (w_up I336a 2774 ((I336a 2774) + 1)) 2775 ((I336a 2775) - 1)) A336a I428a A428a := f433
                  replace f434 : m_nd (w_up (w_up I336a 2774 ((I336a 2774) + 1)) 2775 ((I336a 2775) - 1)) A336a I428a A428a v429 26 1 ((A 46) ((I 2774))) v337 := f434
                  obtain ⟨⟨n435, n436, n437, n438, n439, n440⟩, ⟨n441, n442, n443, n444, n445, n446, n447⟩⟩ : (v429 = (I336a 3905) ∧ (I428a 3905) = (I336a 3905) + 1 ∧ (I428a 3393) = (I336a 3393) + 1 ∧ (I428a 3521) = (I336a 3521) + 1 ∧ (I428a 3649) = (I336a 3649) + 1 ∧ (I428a 3777) = (I336a 3777) + 1) ∧ ((I428a 2774) = (I336a 2774) + 1 ∧ (I428a 2754) = (I336a 2754) ∧ (I428a 2775) = (I336a 2775) - 1 ∧ (I428a 4289) = (I336a 4289) ∧ (I428a 4033) = (I336a 4033) ∧ (I428a 4161) = (I336a 4161) ∧ (I428a 5889) = (I336a 5889)) := m_nd_num f434
                  have tk448 : m_TK I428a A428a := m_TK_fx f433 tk380
                  have sc449 : m_SC I428a A428a := m_SC_nd f434 f344
                  have tr450 : m_TR (t_up lo338 v429 (I 3905) (8 * (24 - (I 2775)) + (-6))) I428a A428a := m_TR_nd (show m_TR lo338 (w_up (w_up I336a 2774 ((I336a 2774) + 1)) 2775 ((I336a 2775) - 1)) A336a from f345) f434 (show 0 ≤ (I 3905) by omega) (show (I 3905) ≤ v429 by omega) (m_cl_ST (show m_ST lo I A lo338 (w_up (w_up I336a 2774 ((I336a 2774) + 1)) 2775 ((I336a 2775) - 1)) A336a from s384) hTR (show 0 ≤ (I 3905) by omega)) (t_N_mk26 t_up_same (show 0 ≤ (I 3905) by omega) (show (I 3905) ≤ v429 by omega) (show 0 ≤ (8 * (24 - (I 2775)) + (-6)) by omega) (m_hw (show m_RK lo338 (I 3905) v429 (8 * (24 - (I 2775)) + (-7)) from fun q q1 q2 => (show m_RK lo338 (I 3905) (I336a 3905) (8 * (24 - (I 2775)) + (-7)) from rk385) q (show (I 3905) ≤ q by omega) (show q < (I336a 3905) by omega)) (m_r8l (by decide))) ((show v337 = -1 ∨ m_kd lo338 (w_up (w_up I336a 2774 ((I336a 2774) + 1)) 2775 ((I336a 2775) - 1)) A336a (I 3905) (8 * (24 - ((I 2775) + 1)) + 1) v337 (fun k => k = 27) from f347).imp_right (fun q => m_ch f434 (show (I 3905) ≤ (I 3905) by omega) q)))
                  have s451 : m_ST lo I A (t_up lo338 v429 (I 3905) (8 * (24 - (I 2775)) + (-6))) I428a A428a := m_ST_nd (l := (I 3905)) (show m_ST lo I A lo338 (w_up (w_up I336a 2774 ((I336a 2774) + 1)) 2775 ((I336a 2775) - 1)) A336a from s384) f434 (show (I 3905) ≤ (I 3905) by omega) (show (I 3905) ≤ (I336a 3905) by omega)
                  have rk452 : m_RK (t_up lo338 v429 (I 3905) (8 * (24 - (I 2775)) + (-6))) (I 3905) (I428a 3905) (8 * (24 - (I 2775)) + (-6)) := fun q q1 q2 => m_RK_nd (show m_RK lo338 (I 3905) v429 (8 * (24 - (I 2775)) + (-7)) from fun q q1 q2 => (show m_RK lo338 (I 3905) (I336a 3905) (8 * (24 - (I 2775)) + (-7)) from rk385) q q1 (show q < (I336a 3905) by omega)) (m_r8 (by decide)) (m_r8 (by decide)) q q1 (show q < v429 + 1 by omega)
                  have k453 : m_kd (t_up lo338 v429 (I 3905) (8 * (24 - (I 2775)) + (-6))) I428a A428a (I 3905) (8 * (24 - (I 2775)) + (-6)) v429 (fun k => k = 26) := m_kd_new f434 (show 0 ≤ (I 3905) by omega) (show (I 3905) ≤ v429 by omega) rfl
                  have rt454 : m_rt (t_up lo338 v429 (I 3905) (8 * (24 - (I 2775)) + (-6))) (I428a 3905) v429 := m_rt_new f434
                  show w_W _ _ _ (142, [(3, .int (Int32.ofInt (v337))), (2, .int (Int32.ofInt (1))), (1, .int (Int32.ofInt ((A 46) ((I 2774))))), (0, .ref 43)], [.int (Int32.ofInt (v429))], M427) _
                  refine w_fin (r := .inl (some (v429))) (M' := M427) rfl ?_
                  exact Or.inl ⟨v429, (t_up lo338 v429 (I 3905) (8 * (24 - (I 2775)) + (-6))), I428a, A428a, B428a, C428a, rfl, ⟨by omega, by omega⟩, hR428a, (show m_fx I A I428a A428a by exact (m_fx_trans f342 f433)), (show ((0 ≤ (I428a 2774) ∧ (I428a 2774) < (I428a 2754) ∧ (I428a 2754) ≤ 1501 ∧ 0 ≤ (I428a 2775) ∧ (I428a 2775) ≤ 24) ∧ ((I428a 3393) = (I428a 3905) ∧ (I428a 3521) = (I428a 3905) ∧ (I428a 3649) = (I428a 3905) ∧ (I428a 3777) = (I428a 3905) ∧ 0 ≤ (I428a 3905) ∧ (I428a 3905) ≤ 3 * (I428a 2774)) ∧ ((I428a 4161) = (I428a 4033) ∧ 7 ≤ (I428a 4289) ∧ (I428a 4289) ≤ (I428a 4033) ∧ (I428a 4033) ≤ 7 + (I428a 2774)) ∧ 0 ≤ (I428a 5889) ∧ (I428a 5889) ≤ (I428a 2774)) ∧ ((I428a 2754) = (I 2754) ∧ (I 2774) + 1 ≤ (I428a 2774) ∧ (I428a 2775) = (I 2775) ∧ (I 4289) ≤ (I428a 4289) ∧ (I428a 5889) = (I 5889)) ∧ ((I428a 3905) + 1 ≤ (I 3905) + 3 * ((I428a 2774) - (I 2774)) ∧ (I 3905) ≤ v429 ∧ v429 + 1 = (I428a 3905) ∧ (I 4033) ≤ (I428a 4033) ∧ (I428a 4033) ≤ (I 4033) + ((I428a 2774) - (I 2774))) by (repeat' apply And.intro) <;> first | assumption | omega), (show m_SC I428a A428a by exact sc449), (show m_TR (t_up lo338 v429 (I 3905) (8 * (24 - (I 2775)) + (-6))) I428a A428a by exact tr450), (show m_ST lo I A (t_up lo338 v429 (I 3905) (8 * (24 - (I 2775)) + (-6))) I428a A428a by exact s451), (show (fun k => k = 26) ((A428a 53) (v429)) by exact (k453).2), (show m_rt (t_up lo338 v429 (I 3905) (8 * (24 - (I 2775)) + (-6))) (I428a 3905) v429 by exact rt454), (show m_RK (t_up lo338 v429 (I 3905) (8 * (24 - (I 2775)) + (-6))) (I 3905) (I428a 3905) (8 * (24 - (I 2775)) + 2) by exact m_RK_le (show m_RK (t_up lo338 v429 (I 3905) (8 * (24 - (I 2775)) + (-6))) (I 3905) (I428a 3905) (8 * (24 - (I 2775)) + (-6)) from rk452) (show (8 * (24 - (I 2775)) + (-6)) ≤ 8 * (24 - (I 2775)) + 2 by omega))⟩
              · rw [e391]
                replace hR388b : w_Rep w_TM fr X u l I388b A388b B388b C388b M387 := hR388b
                replace f392 : m_fx I336a A336a I388b A388b := f392
                exact Or.inr (⟨I388b, A388b, B388b, C388b, rfl, hR388b, (show m_fx I A I388b A388b by exact (m_fx_trans f342 f392))⟩)
            · rw [e350]
              replace hR336b : w_Rep w_TM fr X u l I336b A336b B336b C336b M335 := hR336b
              replace f351 : m_fx (w_up (w_up I 2775 ((I 2775) + 1)) 2774 ((I 2774) + 1 + 1)) A I336b A336b := f351
              exact Or.inr (⟨I336b, A336b, B336b, C336b, rfl, hR336b, (show m_fx I A I336b A336b by exact f351)⟩)
        · rw [e198]
          replace hR195b : w_Rep w_TM fr X u l I195b A195b B195b C195b M194 := hR195b
          replace f199 : m_fx (w_up I 2774 ((I 2774) + 1)) A I195b A195b := f199
          exact Or.inr (⟨I195b, A195b, B195b, C195b, rfl, hR195b, (show m_fx I A I195b A195b by exact f199)⟩)
      · rw [e189, e190]
        skip
        show w_W _ _ _ (70, [(1, .int (Int32.ofInt ((A 46) ((I 2774))))), (0, .ref 43)], [.int (Int32.ofInt (0))], M) _
        refine w_adv (n := 3) (F' := (73, [(2, .int (Int32.ofInt (0))), (1, .int (Int32.ofInt ((A 46) ((I 2774))))), (0, .ref 43)], [.ref 43, .ref 43], M)) rfl ?_
        refine w_gf (v := .int (Int32.ofInt ((I 2774)))) hR rfl rfl rfl rfl ?_
        refine w_adv (n := 1) (F' := (77, [(2, .int (Int32.ofInt (0))), (1, .int (Int32.ofInt ((A 46) ((I 2774))))), (0, .ref 43)], [.int (Int32.ofInt (1)), .int (Int32.ofInt ((I 2774))), .ref 43], M)) rfl ?_
        refine w_add rfl ?_
        refine w_pf hR rfl rfl rfl rfl (show w_in ((I 2774) + 1) from ⟨by omega, by omega⟩) (fun h => absurd h (by decide)) (fun M455 hR456 => ?_)
        replace hR456 : w_Rep w_TM fr X u l (w_up I 2774 ((I 2774) + 1)) A B C M455 := hR456
        refine w_adv (n := 7) (F' := (91, [(2, .int (Int32.ofInt (0))), (1, .int (Int32.ofInt ((A 46) ((I 2774))))), (0, .ref 43)], [.int (Int32.ofInt ((-1))), .int (Int32.ofInt ((A 46) ((I 2774)))), .int (Int32.ofInt (1)), .int (Int32.ofInt (26)), .ref 43], M455)) rfl ?_
        refine w_call (cm := 239) (as := [(0, .ref 43), (1, .int (Int32.ofInt (26))), (2, .int (Int32.ofInt (1))), (3, .int (Int32.ofInt ((A 46) ((I 2774))))), (4, .int (Int32.ofInt ((-1))))]) (rest := []) (o := some (9, 43)) rfl (w_fitR hR456 rfl) (m_node (26) (1) ((A 46) ((I 2774))) ((-1)) hR456 (show 2 ≤ d by omega) ⟨by omega, by omega⟩ ⟨by omega, by omega⟩ ⟨by omega, by omega⟩ ⟨by omega, by omega⟩ (show (I 3393) = (I 3905) by first | assumption | omega) (show (I 3521) = (I 3905) by first | assumption | omega) (show (I 3649) = (I 3905) by first | assumption | omega) (show (I 3777) = (I 3905) by first | assumption | omega) (show (I 3905) < 65536 by first | assumption | omega)) (fun r457 M458 q459 => ?_)
        rcases q459 with ⟨v460, I459a, A459a, B459a, C459a, e461, ⟨r462, r463⟩, hR459a, f464, f465⟩
        rw [e461]
        replace hR459a : w_Rep w_TM fr X u l I459a A459a B459a C459a M458 := hR459a
        replace f464 : m_fx (w_up I 2774 ((I 2774) + 1)) A I459a A459a := f464
        replace f465 : m_nd (w_up I 2774 ((I 2774) + 1)) A I459a A459a v460 26 1 ((A 46) ((I 2774))) (-1) := f465
        obtain ⟨⟨n466, n467, n468, n469, n470, n471⟩, ⟨n472, n473, n474, n475, n476, n477, n478⟩⟩ : (v460 = (I 3905) ∧ (I459a 3905) = (I 3905) + 1 ∧ (I459a 3393) = (I 3393) + 1 ∧ (I459a 3521) = (I 3521) + 1 ∧ (I459a 3649) = (I 3649) + 1 ∧ (I459a 3777) = (I 3777) + 1) ∧ ((I459a 2774) = (I 2774) + 1 ∧ (I459a 2754) = (I 2754) ∧ (I459a 2775) = (I 2775) ∧ (I459a 4289) = (I 4289) ∧ (I459a 4033) = (I 4033) ∧ (I459a 4161) = (I 4161) ∧ (I459a 5889) = (I 5889)) := m_nd_num f465
        have tk479 : m_TK I459a A459a := m_TK_fx f464 hTK
        have sc480 : m_SC I459a A459a := m_SC_nd f465 hSC
        have tr481 : m_TR (t_up lo v460 (I 3905) (8 * (24 - (I 2775)) + (0))) I459a A459a := m_TR_nd (show m_TR lo (w_up I 2774 ((I 2774) + 1)) A from hTR) f465 (show 0 ≤ (I 3905) by omega) (show (I 3905) ≤ v460 by omega) (m_cl_ST (show m_ST lo I A lo (w_up I 2774 ((I 2774) + 1)) A from m_ST_refl) hTR (show 0 ≤ (I 3905) by omega)) (t_N_mk26 t_up_same (show 0 ≤ (I 3905) by omega) (show (I 3905) ≤ v460 by omega) (show 0 ≤ (8 * (24 - (I 2775)) + (0)) by omega) (fun q q1 q2 => by omega) (Or.inl rfl))
        have s482 : m_ST lo I A (t_up lo v460 (I 3905) (8 * (24 - (I 2775)) + (0))) I459a A459a := m_ST_nd (l := (I 3905)) (show m_ST lo I A lo (w_up I 2774 ((I 2774) + 1)) A from m_ST_refl) f465 (show (I 3905) ≤ (I 3905) by omega) (show (I 3905) ≤ (I 3905) by omega)
        have rk483 : m_RK (t_up lo v460 (I 3905) (8 * (24 - (I 2775)) + (0))) (I 3905) (I459a 3905) (8 * (24 - (I 2775)) + (0)) := fun q q1 q2 => by rw [show q = v460 by omega, t_up_same]; exact Int.le_refl _
        have k484 : m_kd (t_up lo v460 (I 3905) (8 * (24 - (I 2775)) + (0))) I459a A459a (I 3905) (8 * (24 - (I 2775)) + (0)) v460 (fun k => k = 26) := m_kd_new f465 (show 0 ≤ (I 3905) by omega) (show (I 3905) ≤ v460 by omega) rfl
        have rt485 : m_rt (t_up lo v460 (I 3905) (8 * (24 - (I 2775)) + (0))) (I459a 3905) v460 := m_rt_new f465
        show w_W _ _ _ (94, [(2, .int (Int32.ofInt (0))), (1, .int (Int32.ofInt ((A 46) ((I 2774))))), (0, .ref 43)], [.int (Int32.ofInt (v460))], M458) _
        refine w_fin (r := .inl (some (v460))) (M' := M458) rfl ?_
        exact Or.inl ⟨v460, (t_up lo v460 (I 3905) (8 * (24 - (I 2775)) + (0))), I459a, A459a, B459a, C459a, rfl, ⟨by omega, by omega⟩, hR459a, (show m_fx I A I459a A459a by exact f464), (show ((0 ≤ (I459a 2774) ∧ (I459a 2774) < (I459a 2754) ∧ (I459a 2754) ≤ 1501 ∧ 0 ≤ (I459a 2775) ∧ (I459a 2775) ≤ 24) ∧ ((I459a 3393) = (I459a 3905) ∧ (I459a 3521) = (I459a 3905) ∧ (I459a 3649) = (I459a 3905) ∧ (I459a 3777) = (I459a 3905) ∧ 0 ≤ (I459a 3905) ∧ (I459a 3905) ≤ 3 * (I459a 2774)) ∧ ((I459a 4161) = (I459a 4033) ∧ 7 ≤ (I459a 4289) ∧ (I459a 4289) ≤ (I459a 4033) ∧ (I459a 4033) ≤ 7 + (I459a 2774)) ∧ 0 ≤ (I459a 5889) ∧ (I459a 5889) ≤ (I459a 2774)) ∧ ((I459a 2754) = (I 2754) ∧ (I 2774) + 1 ≤ (I459a 2774) ∧ (I459a 2775) = (I 2775) ∧ (I 4289) ≤ (I459a 4289) ∧ (I459a 5889) = (I 5889)) ∧ ((I459a 3905) + 1 ≤ (I 3905) + 3 * ((I459a 2774) - (I 2774)) ∧ (I 3905) ≤ v460 ∧ v460 + 1 = (I459a 3905) ∧ (I 4033) ≤ (I459a 4033) ∧ (I459a 4033) ≤ (I 4033) + ((I459a 2774) - (I 2774))) by (repeat' apply And.intro) <;> first | assumption | omega), (show m_SC I459a A459a by exact sc480), (show m_TR (t_up lo v460 (I 3905) (8 * (24 - (I 2775)) + (0))) I459a A459a by exact tr481), (show m_ST lo I A (t_up lo v460 (I 3905) (8 * (24 - (I 2775)) + (0))) I459a A459a by exact s482), (show (fun k => k = 26) ((A459a 53) (v460)) by exact (k484).2), (show m_rt (t_up lo v460 (I 3905) (8 * (24 - (I 2775)) + (0))) (I459a 3905) v460 by exact rt485), (show m_RK (t_up lo v460 (I 3905) (8 * (24 - (I 2775)) + (0))) (I 3905) (I459a 3905) (8 * (24 - (I 2775)) + 2) by exact m_RK_le (show m_RK (t_up lo v460 (I 3905) (8 * (24 - (I 2775)) + (0))) (I 3905) (I459a 3905) (8 * (24 - (I 2775)) + (0)) from rk483) (show (8 * (24 - (I 2775)) + (0)) ≤ 8 * (24 - (I 2775)) + 2 by omega))⟩
  · have h5 : ¬ (¬ (A 45) ((I 2774)) = 4) := h5
    have w486 : (I 2774) + 1 < (I 2754) := m_TK_lt hTK (by omega) (by omega) (by omega)
    show w_W _ _ _ (13, [(0, .ref 43)], [], M) _
    refine w_adv (n := 2) (F' := (15, [(0, .ref 43)], [.ref 43, .ref 43], M)) rfl ?_
    refine w_gf (v := .int (Int32.ofInt ((I 2774)))) hR rfl rfl rfl rfl ?_
    refine w_adv (n := 1) (F' := (19, [(0, .ref 43)], [.int (Int32.ofInt (1)), .int (Int32.ofInt ((I 2774))), .ref 43], M)) rfl ?_
    refine w_add rfl ?_
    refine w_pf hR rfl rfl rfl rfl (show w_in ((I 2774) + 1) from ⟨by omega, by omega⟩) (fun h => absurd h (by decide)) (fun M487 hR488 => ?_)
    replace hR488 : w_Rep w_TM fr X u l (w_up I 2774 ((I 2774) + 1)) A B C M487 := hR488
    refine w_adv (n := 4) (F' := (28, [(0, .ref 43)], [.ref 43, .int (Int32.ofInt (0)), .int (Int32.ofInt (26)), .ref 43], M487)) rfl ?_
    refine w_gf (v := .ref 46) hR488 rfl rfl rfl rfl ?_
    refine w_adv (n := 1) (F' := (32, [(0, .ref 43)], [.ref 43, .ref 46, .int (Int32.ofInt (0)), .int (Int32.ofInt (26)), .ref 43], M487)) rfl ?_
    refine w_gf (v := .int (Int32.ofInt ((I 2774) + 1))) hR488 rfl rfl rfl rfl ?_
    refine w_adv (n := 1) (F' := (36, [(0, .ref 43)], [.int (Int32.ofInt (1)), .int (Int32.ofInt ((I 2774) + 1)), .ref 46, .int (Int32.ofInt (0)), .int (Int32.ofInt (26)), .ref 43], M487)) rfl ?_
    refine w_sub rfl ?_
    refine w_la (n := 1502) hR488 rfl (Or.inl ⟨rfl, rfl⟩) rfl (show 0 ≤ ((I 2774) + 1) - 1 by omega) (show ((I 2774) + 1) - 1 < (1502 : Int) by omega) (by decide) ?_
    obtain ⟨r489, r490⟩ : -2147483648 ≤ (A 46) (((I 2774) + 1) - 1) ∧ (A 46) (((I 2774) + 1) - 1) ≤ 2147483647 := hR488.ra 46 (((I 2774) + 1) - 1)
    show w_W _ _ _ (38, [(0, .ref 43)], [.int (Int32.ofInt ((A 46) (((I 2774) + 1) - 1))), .int (Int32.ofInt (0)), .int (Int32.ofInt (26)), .ref 43], M487) _
    refine w_adv (n := 1) (F' := (39, [(0, .ref 43)], [.int (Int32.ofInt ((-1))), .int (Int32.ofInt ((A 46) (((I 2774) + 1) - 1))), .int (Int32.ofInt (0)), .int (Int32.ofInt (26)), .ref 43], M487)) rfl ?_
    refine w_call (cm := 239) (as := [(0, .ref 43), (1, .int (Int32.ofInt (26))), (2, .int (Int32.ofInt (0))), (3, .int (Int32.ofInt ((A 46) (((I 2774) + 1) - 1)))), (4, .int (Int32.ofInt ((-1))))]) (rest := []) (o := some (9, 43)) rfl (w_fitR hR488 rfl) (m_node (26) (0) ((A 46) (((I 2774) + 1) - 1)) ((-1)) hR488 (show 2 ≤ d by omega) ⟨by omega, by omega⟩ ⟨by omega, by omega⟩ ⟨by omega, by omega⟩ ⟨by omega, by omega⟩ (show (I 3393) = (I 3905) by first | assumption | omega) (show (I 3521) = (I 3905) by first | assumption | omega) (show (I 3649) = (I 3905) by first | assumption | omega) (show (I 3777) = (I 3905) by first | assumption | omega) (show (I 3905) < 65536 by first | assumption | omega)) (fun r491 M492 q493 => ?_)
    rcases q493 with ⟨v494, I493a, A493a, B493a, C493a, e495, ⟨r496, r497⟩, hR493a, f498, f499⟩
    rw [e495]
    replace hR493a : w_Rep w_TM fr X u l I493a A493a B493a C493a M492 := hR493a
    replace f498 : m_fx (w_up I 2774 ((I 2774) + 1)) A I493a A493a := f498
    replace f499 : m_nd (w_up I 2774 ((I 2774) + 1)) A I493a A493a v494 26 0 ((A 46) (((I 2774) + 1) - 1)) (-1) := f499
    obtain ⟨⟨n500, n501, n502, n503, n504, n505⟩, ⟨n506, n507, n508, n509, n510, n511, n512⟩⟩ : (v494 = (I 3905) ∧ (I493a 3905) = (I 3905) + 1 ∧ (I493a 3393) = (I 3393) + 1 ∧ (I493a 3521) = (I 3521) + 1 ∧ (I493a 3649) = (I 3649) + 1 ∧ (I493a 3777) = (I 3777) + 1) ∧ ((I493a 2774) = (I 2774) + 1 ∧ (I493a 2754) = (I 2754) ∧ (I493a 2775) = (I 2775) ∧ (I493a 4289) = (I 4289) ∧ (I493a 4033) = (I 4033) ∧ (I493a 4161) = (I 4161) ∧ (I493a 5889) = (I 5889)) := m_nd_num f499
    have tk513 : m_TK I493a A493a := m_TK_fx f498 hTK
    have sc514 : m_SC I493a A493a := m_SC_nd f499 hSC
    have tr515 : m_TR (t_up lo v494 (I 3905) (8 * (24 - (I 2775)) + (0))) I493a A493a := m_TR_nd (show m_TR lo (w_up I 2774 ((I 2774) + 1)) A from hTR) f499 (show 0 ≤ (I 3905) by omega) (show (I 3905) ≤ v494 by omega) (m_cl_ST (show m_ST lo I A lo (w_up I 2774 ((I 2774) + 1)) A from m_ST_refl) hTR (show 0 ≤ (I 3905) by omega)) (t_N_mk26 t_up_same (show 0 ≤ (I 3905) by omega) (show (I 3905) ≤ v494 by omega) (show 0 ≤ (8 * (24 - (I 2775)) + (0)) by omega) (fun q q1 q2 => by omega) (Or.inl rfl))
    have s516 : m_ST lo I A (t_up lo v494 (I 3905) (8 * (24 - (I 2775)) + (0))) I493a A493a := m_ST_nd (l := (I 3905)) (show m_ST lo I A lo (w_up I 2774 ((I 2774) + 1)) A from m_ST_refl) f499 (show (I 3905) ≤ (I 3905) by omega) (show (I 3905) ≤ (I 3905) by omega)
    have rk517 : m_RK (t_up lo v494 (I 3905) (8 * (24 - (I 2775)) + (0))) (I 3905) (I493a 3905) (8 * (24 - (I 2775)) + (0)) := fun q q1 q2 => by rw [show q = v494 by omega, t_up_same]; exact Int.le_refl _
    have k518 : m_kd (t_up lo v494 (I 3905) (8 * (24 - (I 2775)) + (0))) I493a A493a (I 3905) (8 * (24 - (I 2775)) + (0)) v494 (fun k => k = 26) := m_kd_new f499 (show 0 ≤ (I 3905) by omega) (show (I 3905) ≤ v494 by omega) rfl
    have rt519 : m_rt (t_up lo v494 (I 3905) (8 * (24 - (I 2775)) + (0))) (I493a 3905) v494 := m_rt_new f499
    show w_W _ _ _ (42, [(0, .ref 43)], [.int (Int32.ofInt (v494))], M492) _
    refine w_fin (r := .inl (some (v494))) (M' := M492) rfl ?_
    exact Or.inl ⟨v494, (t_up lo v494 (I 3905) (8 * (24 - (I 2775)) + (0))), I493a, A493a, B493a, C493a, rfl, ⟨by omega, by omega⟩, hR493a, (show m_fx I A I493a A493a by exact f498), (show ((0 ≤ (I493a 2774) ∧ (I493a 2774) < (I493a 2754) ∧ (I493a 2754) ≤ 1501 ∧ 0 ≤ (I493a 2775) ∧ (I493a 2775) ≤ 24) ∧ ((I493a 3393) = (I493a 3905) ∧ (I493a 3521) = (I493a 3905) ∧ (I493a 3649) = (I493a 3905) ∧ (I493a 3777) = (I493a 3905) ∧ 0 ≤ (I493a 3905) ∧ (I493a 3905) ≤ 3 * (I493a 2774)) ∧ ((I493a 4161) = (I493a 4033) ∧ 7 ≤ (I493a 4289) ∧ (I493a 4289) ≤ (I493a 4033) ∧ (I493a 4033) ≤ 7 + (I493a 2774)) ∧ 0 ≤ (I493a 5889) ∧ (I493a 5889) ≤ (I493a 2774)) ∧ ((I493a 2754) = (I 2754) ∧ (I 2774) + 1 ≤ (I493a 2774) ∧ (I493a 2775) = (I 2775) ∧ (I 4289) ≤ (I493a 4289) ∧ (I493a 5889) = (I 5889)) ∧ ((I493a 3905) + 1 ≤ (I 3905) + 3 * ((I493a 2774) - (I 2774)) ∧ (I 3905) ≤ v494 ∧ v494 + 1 = (I493a 3905) ∧ (I 4033) ≤ (I493a 4033) ∧ (I493a 4033) ≤ (I 4033) + ((I493a 2774) - (I 2774))) by (repeat' apply And.intro) <;> first | assumption | omega), (show m_SC I493a A493a by exact sc514), (show m_TR (t_up lo v494 (I 3905) (8 * (24 - (I 2775)) + (0))) I493a A493a by exact tr515), (show m_ST lo I A (t_up lo v494 (I 3905) (8 * (24 - (I 2775)) + (0))) I493a A493a by exact s516), (show (fun k => k = 26) ((A493a 53) (v494)) by exact (k518).2), (show m_rt (t_up lo v494 (I 3905) (8 * (24 - (I 2775)) + (0))) (I493a 3905) v494 by exact rt519), (show m_RK (t_up lo v494 (I 3905) (8 * (24 - (I 2775)) + (0))) (I 3905) (I493a 3905) (8 * (24 - (I 2775)) + 2) by exact m_RK_le (show m_RK (t_up lo v494 (I 3905) (8 * (24 - (I 2775)) + (0))) (I 3905) (I493a 3905) (8 * (24 - (I 2775)) + (0)) from rk517) (show (8 * (24 - (I 2775)) + (0)) ≤ 8 * (24 - (I 2775)) + 2 by omega))⟩
