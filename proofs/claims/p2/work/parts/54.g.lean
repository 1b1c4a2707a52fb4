def m_procedure_Q (fr : Nat → Bool) (X : Nat → Option (q_C (Nat → Int32))) (u l : Nat) (I : Nat → Int) (A : Nat → Int → Int) (B C : Nat → Nat) (M : w_M) (lo : Int → Int × Int) : w_X → w_M → Prop := fun r M' => (∃ v : Int, ∃ lo' : Int → Int × Int, ∃ (I' : Nat → Int) (A' : Nat → Int → Int) (B' C' : Nat → Nat), (r = .inl (some v)) ∧ (w_in v) ∧ (w_Rep w_TM fr X u l I' A' B' C' M') ∧ (m_fx I A I' A') ∧ (((0 ≤ (I' 2774) ∧ (I' 2774) < (I' 2754) ∧ (I' 2754) ≤ 1501 ∧ 0 ≤ (I' 2775) ∧ (I' 2775) ≤ 24) ∧ ((I' 3393) = (I' 3905) ∧ (I' 3521) = (I' 3905) ∧ (I' 3649) = (I' 3905) ∧ (I' 3777) = (I' 3905) ∧ 0 ≤ (I' 3905) ∧ (I' 3905) ≤ 3 * (I' 2774)) ∧ ((I' 4161) = (I' 4033) ∧ 7 ≤ (I' 4289) ∧ (I' 4289) ≤ (I' 4033) ∧ (I' 4033) ≤ 7 + (I' 2774)) ∧ 0 ≤ (I' 5889) ∧ (I' 5889) ≤ (I' 2774)) ∧ ((I' 2754) = (I 2754) ∧ (I 2774) + 1 ≤ (I' 2774) ∧ (I' 2775) = (I 2775) ∧ (I' 4289) = (I 4289) + 0 ∧ (I' 5889) = (I 5889)) ∧ ((I' 3905) + 2 ≤ (I 3905) + 3 * ((I' 2774) - (I 2774)) ∧ (I 3905) ≤ v ∧ v + 1 = (I' 3905) ∧ (I 4033) ≤ (I' 4033) ∧ (I' 4033) ≤ (I 4033) + ((I' 2774) - (I 2774)))) ∧ (m_SC I' A') ∧ (m_TR lo' I' A') ∧ (m_ST lo I A lo' I' A') ∧ (t_E ((A' 53) (v))) ∧ (m_rt lo' (I' 3905) v) ∧ (m_RK lo' (I 3905) (I' 3905) (8 * (24 - (I 2775)) + 0))) ∨ (∃ (I' : Nat → Int) (A' : Nat → Int → Int) (B' C' : Nat → Nat), (r = .inr 69) ∧ (w_Rep w_TM fr X u l I' A' B' C' M') ∧ (m_fx I A I' A'))
set_option maxHeartbeats 100000000 in
set_option maxRecDepth 100000 in
theorem m_procedure {L : Nat} {xs : Nat → Int32} {d : Nat} {fr : Nat → Bool} {X : Nat → Option (q_C (Nat → Int32))} {u l : Nat} {I : Nat → Int} {A : Nat → Int → Int} {B C : Nat → Nat} {M : w_M} {N : Int} (hA : m_all L xs N) (lo : Int → Int × Int) (hR : w_Rep w_TM fr X u l I A B C M) (hd : 20 * (24 - (I 2775)) + 11 ≤ (d : Int)) (hTK : m_TK I A) (hNU : (0 ≤ (I 2774) ∧ (I 2774) < (I 2754) ∧ (I 2754) ≤ 1501 ∧ 0 ≤ (I 2775) ∧ (I 2775) ≤ 24) ∧ ((I 3393) = (I 3905) ∧ (I 3521) = (I 3905) ∧ (I 3649) = (I 3905) ∧ (I 3777) = (I 3905) ∧ 0 ≤ (I 3905) ∧ (I 3905) ≤ 3 * (I 2774)) ∧ ((I 4161) = (I 4033) ∧ 7 ≤ (I 4289) ∧ (I 4289) ≤ (I 4033) ∧ (I 4033) ≤ 7 + (I 2774)) ∧ 0 ≤ (I 5889) ∧ (I 5889) ≤ (I 2774)) (hSC : m_SC I A) (hTR : m_TR lo I A) (hk : 1 ≤ (A 45) ((I 2774)) ∧ (A 45) ((I 2774)) ≤ 6) (hm : (I 2754) - (I 2774) ≤ N) : w_W (z_P L xs) d 267 (0, [(0, .ref 43)], [], M) (m_procedure_Q fr X u l I A B C M lo) := by
  obtain ⟨d, rfl⟩ : ∃ d0, d = d0 + 1 := ⟨d - 1, by omega⟩
  have wl : (I 2774) + 1 < (I 2754) := m_TK_lt hTK (by omega) (by omega) (by omega)
  refine w_adv (n := 2) (F' := (3, [(0, .ref 43)], [.int (Int32.ofInt (11)), .ref 43], M)) rfl ?_
  refine w_call (cm := 231) (as := [(0, .ref 43), (1, .int (Int32.ofInt (11)))]) (rest := []) (o := some (9, 43)) rfl (w_fitR hR rfl) (m_isWord (11) hR ⟨by omega, by omega⟩ (show 0 ≤ (I 2774) ∧ (I 2774) < 1501 by omega)) (fun r1 M2 q3 => ?_)
  rcases q3 with ⟨e4, e5, f6⟩ | ⟨e7, e8, f9⟩
  · rw [e4, e5]
    replace f6 : (A 45) ((I 2774)) = 5 ∧ (A 46) ((I 2774)) = 11 := f6
    obtain ⟨n10, n11⟩ := id f6
    clear f6
    have w12 : (I 2774) + 1 < (I 2754) := m_TK_lt hTK (by omega) (by omega) (by omega)
    show w_W _ _ _ (6, [(0, .ref 43)], [.int (Int32.ofInt (1))], M) _
    refine w_adv (n := 2) (F' := (8, [(1, .int (Int32.ofInt (1))), (0, .ref 43)], [.ref 43], M)) rfl ?_
    refine w_gf (v := .ref 67) hR rfl rfl rfl rfl ?_
    refine w_gf (v := .int (Int32.ofInt ((I 4289)))) hR rfl rfl rfl rfl ?_
    obtain ⟨r13, r14⟩ : -2147483648 ≤ (I 4289) ∧ (I 4289) ≤ 2147483647 := hR.ri 4289
    obtain ⟨r15a, r15b, r15c⟩ : 0 ≤ (I 4289) ∧ (I 4289) ≤ (C 67 : Int) ∧ (C 67 : Int) ≤ 131072 := hR.sz (show 67 ∈ w_TM.2.2 by decide)
    refine w_adv (n := 2) (F' := (16, [(2, .int (Int32.ofInt ((I 4289)))), (1, .int (Int32.ofInt (1))), (0, .ref 43)], [.ref 43], M)) rfl ?_
    refine w_call (cm := 235) (as := [(0, .ref 43)]) (rest := []) (o := some (9, 43)) rfl (w_fitR hR rfl) (m_enter hR (show 2 ≤ d by omega) (show 0 ≤ (I 2774) ∧ (I 2774) < 1501 by omega) (show 0 ≤ (I 2775) ∧ (I 2775) ≤ 24 by first | assumption | omega)) (fun r16 M17 q18 => ?_)
    rcases q18 with ⟨e19, hR18a, f20⟩ | ⟨I18b, A18b, B18b, C18b, e21, hR18b, f22⟩
    · rw [e19]
      replace hR18a : w_Rep w_TM fr X u l (w_up (w_up I 2775 ((I 2775) + 1)) 2774 ((I 2774) + 1)) A B C M17 := hR18a
      replace f20 : (I 2775) < 24 := f20
      have w23 : (I 2774) + 1 < (I 2754) := m_TK_lt hTK (show (I 2774) < (I 2754) by omega) (show 1 ≤ (A 45) ((I 2774)) by omega) (show (A 45) ((I 2774)) ≤ 6 by omega)
      show w_W _ _ _ (19, [(2, .int (Int32.ofInt ((I 4289)))), (1, .int (Int32.ofInt (1))), (0, .ref 43)], [], M17) _
      refine w_adv (n := 2) (F' := (22, [(2, .int (Int32.ofInt ((I 4289)))), (1, .int (Int32.ofInt (1))), (0, .ref 43)], [.int (Int32.ofInt (123)), .ref 43], M17)) rfl ?_
      refine w_call (cm := 230) (as := [(0, .ref 43), (1, .int (Int32.ofInt (123)))]) (rest := []) (o := some (9, 43)) rfl (w_fitR hR18a rfl) (m_isSign (123) hR18a ⟨by omega, by omega⟩ (show 0 ≤ (I 2774) + 1 ∧ (I 2774) + 1 < 1501 by omega)) (fun r24 M25 q26 => ?_)
      rcases q26 with ⟨e27, e28, f29⟩ | ⟨e30, e31, f32⟩
      · rw [e27, e28]
        replace f29 : (A 45) ((I 2774) + 1) = 6 ∧ (A 46) ((I 2774) + 1) = 123 := f29
        obtain ⟨n33, n34⟩ := id f29
        clear f29
        have w35 : ((I 2774) + 1) + 1 < (I 2754) := m_TK_lt hTK (by omega) (by omega) (by omega)
        show w_W _ _ _ (25, [(2, .int (Int32.ofInt ((I 4289)))), (1, .int (Int32.ofInt (1))), (0, .ref 43)], [.int (Int32.ofInt (1))], M17) _
        refine w_adv (n := 2) (F' := (34, [(2, .int (Int32.ofInt ((I 4289)))), (1, .int (Int32.ofInt (1))), (0, .ref 43)], [.ref 43], M17)) rfl ?_
        refine w_call (cm := 235) (as := [(0, .ref 43)]) (rest := []) (o := some (9, 43)) rfl (w_fitR hR18a rfl) (m_enter hR18a (show 2 ≤ d by omega) (show 0 ≤ (I 2774) + 1 ∧ (I 2774) + 1 < 1501 by omega) (show 0 ≤ (I 2775) + 1 ∧ (I 2775) + 1 ≤ 24 by first | assumption | omega)) (fun r36 M37 q38 => ?_)
        rcases q38 with ⟨e39, hR38a, f40⟩ | ⟨I38b, A38b, B38b, C38b, e41, hR38b, f42⟩
        · rw [e39]
          replace hR38a : w_Rep w_TM fr X u l (w_up (w_up I 2775 ((I 2775) + 1 + 1)) 2774 ((I 2774) + 1 + 1)) A B C M37 := hR38a
          replace f40 : (I 2775) + 1 < 24 := f40
          have w43 : ((I 2774) + 1) + 1 < (I 2754) := m_TK_lt hTK (show (I 2774) + 1 < (I 2754) by omega) (show 1 ≤ (A 45) ((I 2774) + 1) by omega) (show (A 45) ((I 2774) + 1) ≤ 6 by omega)
          show w_W _ _ _ (37, [(2, .int (Int32.ofInt ((I 4289)))), (1, .int (Int32.ofInt (1))), (0, .ref 43)], [], M37) _
          refine w_adv (n := 1) (F' := (38, [(2, .int (Int32.ofInt ((I 4289)))), (1, .int (Int32.ofInt (1))), (0, .ref 43)], [.ref 43], M37)) rfl ?_
          refine w_call (cm := 236) (as := [(0, .ref 43)]) (rest := []) (o := some (9, 43)) rfl (w_fitR hR38a rfl) (m_binds (lo) hR38a (show 20 * (24 - ((I 2775) + 1 + 1)) + 8 ≤ (d : Int) by omega) (show m_TK (w_up (w_up I 2775 ((I 2775) + 1 + 1)) 2774 ((I 2774) + 1 + 1)) A by exact hTK) (show (0 ≤ (I 2774) + 1 + 1 ∧ (I 2774) + 1 + 1 < (I 2754) ∧ (I 2754) ≤ 1501 ∧ 0 ≤ (I 2775) + 1 + 1 ∧ (I 2775) + 1 + 1 ≤ 24) ∧ ((I 3393) = (I 3905) ∧ (I 3521) = (I 3905) ∧ (I 3649) = (I 3905) ∧ (I 3777) = (I 3905) ∧ 0 ≤ (I 3905) ∧ (I 3905) ≤ 3 * ((I 2774) + 1 + 1)) ∧ ((I 4161) = (I 4033) ∧ 7 ≤ (I 4289) ∧ (I 4289) ≤ (I 4033) ∧ (I 4033) ≤ 7 + ((I 2774) + 1 + 1)) ∧ 0 ≤ (I 5889) ∧ (I 5889) ≤ (I 2774) + 1 + 1 by (repeat' apply And.intro) <;> first | assumption | omega) (show m_SC (w_up (w_up I 2775 ((I 2775) + 1 + 1)) 2774 ((I 2774) + 1 + 1)) A by exact hSC) (show m_TR lo (w_up (w_up I 2775 ((I 2775) + 1 + 1)) 2774 ((I 2774) + 1 + 1)) A by exact hTR)) (fun r44 M45 q46 => ?_)
          rcases q46 with ⟨v47, lo48, I46a, A46a, B46a, C46a, e49, ⟨r50, r51⟩, hR46a, f52, f53, f54, f55, f56, f57, f58, f59⟩ | ⟨I46b, A46b, B46b, C46b, e60, hR46b, f61⟩
          · rw [e49]
            replace hR46a : w_Rep w_TM fr X u l I46a A46a B46a C46a M45 := hR46a
            replace f52 : m_fx (w_up (w_up I 2775 ((I 2775) + 1 + 1)) 2774 ((I 2774) + 1 + 1)) A I46a A46a := f52
            replace f53 : ((0 ≤ (I46a 2774) ∧ (I46a 2774) < (I46a 2754) ∧ (I46a 2754) ≤ 1501 ∧ 0 ≤ (I46a 2775) ∧ (I46a 2775) ≤ 24) ∧ ((I46a 3393) = (I46a 3905) ∧ (I46a 3521) = (I46a 3905) ∧ (I46a 3649) = (I46a 3905) ∧ (I46a 3777) = (I46a 3905) ∧ 0 ≤ (I46a 3905) ∧ (I46a 3905) ≤ 3 * (I46a 2774)) ∧ ((I46a 4161) = (I46a 4033) ∧ 7 ≤ (I46a 4289) ∧ (I46a 4289) ≤ (I46a 4033) ∧ (I46a 4033) ≤ 7 + (I46a 2774)) ∧ 0 ≤ (I46a 5889) ∧ (I46a 5889) ≤ (I46a 2774)) ∧ ((I46a 2754) = (I 2754) ∧ ((I 2774) + 1 + 1) + 0 ≤ (I46a 2774) ∧ (I46a 2775) = (I 2775) + 1 + 1 ∧ (I 4289) ≤ (I46a 4289) ∧ (I46a 5889) = (I 5889)) ∧ ((I46a 3905) + 0 ≤ (I 3905) + 3 * ((I46a 2774) - ((I 2774) + 1 + 1)) ∧ (I 3905) ≤ (I46a 3905) ∧ -1 ≤ v47 ∧ v47 < (I46a 3905) ∧ (I 4033) ≤ (I46a 4033) ∧ (I46a 4033) ≤ (I 4033) + ((I46a 2774) - ((I 2774) + 1 + 1))) := f53
            obtain ⟨⟨⟨n62, n63, n64, n65, n66⟩, ⟨n67, n68, n69, n70, n71, n72⟩, ⟨n73, n74, n75, n76⟩, n77, n78⟩, ⟨n79, n80, n81, n82, n83⟩, ⟨n84, n85, n86, n87, n88, n89⟩⟩ := id f53
            clear f53
            replace f54 : m_SC I46a A46a := f54
            replace f55 : m_TR lo48 I46a A46a := f55
            replace f56 : m_ST lo (w_up (w_up I 2775 ((I 2775) + 1 + 1)) 2774 ((I 2774) + 1 + 1)) A lo48 I46a A46a := f56
            replace f57 : v47 = -1 ∨ m_kd lo48 I46a A46a (I 3905) (8 * (24 - ((I 2775) + 1 + 1)) + 0) v47 (fun k => k = 28) := f57
            replace f58 : v47 = -1 ∨ m_rt lo48 (I46a 3905) v47 := f58
            replace f59 : m_RK lo48 (I 3905) (I46a 3905) (8 * (24 - ((I 2775) + 1 + 1)) + 0) := f59
            have tk90 : m_TK I46a A46a := m_TK_fx f52 hTK
            have nn91 : (I 3905) ≤ (I46a 3905) := by omega
            have nz92 : 0 ≤ (I 3905) := by first | assumption | omega
            have ho93 : (I 2775) + 1 + 1 = (I 2775) + (2) := by omega
            have rk95 : m_RK lo48 (I 3905) (I46a 3905) (8 * (24 - (I 2775)) + (-16)) := m_RK_app (I := (w_up (w_up I 2775 ((I 2775) + 1 + 1)) 2774 ((I 2774) + 1 + 1))) (I' := I46a) (R := (8 * (24 - (I 2775)) + (-16))) (show m_RK lo (I 3905) (I 3905) (8 * (24 - (I 2775)) + (-16)) from fun q q1 q2 => by omega) f56 f59 (show 0 ≤ (I 3905) by first | assumption | omega) (m_r8 (by decide)) (m_r8o (k := 2) ho93 (by decide))
            have s94 : m_ST lo I A lo48 I46a A46a := f56
            show w_W _ _ _ (41, [(2, .int (Int32.ofInt ((I 4289)))), (1, .int (Int32.ofInt (1))), (0, .ref 43)], [.int (Int32.ofInt (v47))], M45) _
            refine w_adv (n := 3) (F' := (45, [(3, .int (Int32.ofInt (v47))), (2, .int (Int32.ofInt ((I 4289)))), (1, .int (Int32.ofInt (1))), (0, .ref 43)], [.int (Int32.ofInt (125)), .ref 43], M45)) rfl ?_
            refine w_call (cm := 264) (as := [(0, .ref 43), (1, .int (Int32.ofInt (125)))]) (rest := []) (o := some (9, 43)) rfl (w_fitR hR46a rfl) (m_closeSign (125) hR46a (show 3 ≤ d by omega) ⟨by omega, by omega⟩ (show 0 ≤ (I46a 2774) ∧ (I46a 2774) < 1501 by omega) (show 1 ≤ (I46a 2775) ∧ (I46a 2775) ≤ 24 by first | assumption | omega)) (fun r96 M97 q98 => ?_)
            rcases q98 with ⟨e99, hR98a, f100⟩ | ⟨I98b, A98b, B98b, C98b, e101, hR98b, f102⟩
            · rw [e99]
              replace hR98a : w_Rep w_TM fr X u l (w_up (w_up I46a 2774 ((I46a 2774) + 1)) 2775 ((I46a 2775) - 1)) A46a B46a C46a M97 := hR98a
              replace f100 : (A46a 45) ((I46a 2774)) = 6 ∧ (A46a 46) ((I46a 2774)) = 125 := f100
              obtain ⟨n103, n104⟩ := id f100
              clear f100
              have w105 : (I46a 2774) + 1 < (I46a 2754) := m_TK_lt tk90 (show (I46a 2774) < (I46a 2754) by omega) (show 1 ≤ (A46a 45) ((I46a 2774)) by omega) (show (A46a 45) ((I46a 2774)) ≤ 6 by omega)
              show w_W _ _ _ (48, [(3, .int (Int32.ofInt (v47))), (2, .int (Int32.ofInt ((I 4289)))), (1, .int (Int32.ofInt (1))), (0, .ref 43)], [], M97) _
              refine w_adv (n := 3) (F' := (53, [(3, .int (Int32.ofInt (v47))), (2, .int (Int32.ofInt ((I 4289)))), (1, .int (Int32.ofInt (1))), (0, .ref 43)], [.ref 43], M97)) rfl ?_
              refine w_call (cm := 243) (as := [(0, .ref 43)]) (rest := []) (o := some (9, 43)) rfl (w_fitR hR98a rfl) (hA.2.2 (lo48) hR98a (show 20 * (24 - ((I46a 2775) - 1)) + 20 ≤ (d : Int) by omega) (show m_TK (w_up (w_up I46a 2774 ((I46a 2774) + 1)) 2775 ((I46a 2775) - 1)) A46a by exact tk90) (show (0 ≤ (I46a 2774) + 1 ∧ (I46a 2774) + 1 < (I46a 2754) ∧ (I46a 2754) ≤ 1501 ∧ 0 ≤ (I46a 2775) - 1 ∧ (I46a 2775) - 1 ≤ 24) ∧ ((I46a 3393) = (I46a 3905) ∧ (I46a 3521) = (I46a 3905) ∧ (I46a 3649) = (I46a 3905) ∧ (I46a 3777) = (I46a 3905) ∧ 0 ≤ (I46a 3905) ∧ (I46a 3905) ≤ 3 * ((I46a 2774) + 1)) ∧ ((I46a 4161) = (I46a 4033) ∧ 7 ≤ (I46a 4289) ∧ (I46a 4289) ≤ (I46a 4033) ∧ (I46a 4033) ≤ 7 + ((I46a 2774) + 1)) ∧ 0 ≤ (I46a 5889) ∧ (I46a 5889) ≤ (I46a 2774) + 1 by (repeat' apply And.intro) <;> first | assumption | omega) (show m_SC (w_up (w_up I46a 2774 ((I46a 2774) + 1)) 2775 ((I46a 2775) - 1)) A46a by exact f54) (show m_TR lo48 (w_up (w_up I46a 2774 ((I46a 2774) + 1)) 2775 ((I46a 2775) - 1)) A46a by exact f55) (show (I46a 2754) - ((I46a 2774) + 1) < N by first | assumption | omega)) (fun r106 M107 q108 => ?_)
              rcases q108 with ⟨v109, lo110, I108a, A108a, B108a, C108a, e111, ⟨r112, r113⟩, hR108a, f114, f115, f116, f117, f118, f119, f120, f121⟩ | ⟨I108b, A108b, B108b, C108b, e122, hR108b, f123⟩
              · rw [e111]
                replace hR108a : w_Rep w_TM fr X u l I108a A108a B108a C108a M107 := hR108a
                replace f114 : m_fx (w_up (w_up I46a 2774 ((I46a 2774) + 1)) 2775 ((I46a 2775) - 1)) A46a I108a A108a := f114
                replace f115 : ((0 ≤ (I108a 2774) ∧ (I108a 2774) < (I108a 2754) ∧ (I108a 2754) ≤ 1501 ∧ 0 ≤ (I108a 2775) ∧ (I108a 2775) ≤ 24) ∧ ((I108a 3393) = (I108a 3905) ∧ (I108a 3521) = (I108a 3905) ∧ (I108a 3649) = (I108a 3905) ∧ (I108a 3777) = (I108a 3905) ∧ 0 ≤ (I108a 3905) ∧ (I108a 3905) ≤ 3 * (I108a 2774)) ∧ ((I108a 4161) = (I108a 4033) ∧ 7 ≤ (I108a 4289) ∧ (I108a 4289) ≤ (I108a 4033) ∧ (I108a 4033) ≤ 7 + (I108a 2774)) ∧ 0 ≤ (I108a 5889) ∧ (I108a 5889) ≤ (I108a 2774)) ∧ ((I108a 2754) = (I46a 2754) ∧ ((I46a 2774) + 1) + 1 ≤ (I108a 2774) ∧ (I108a 2775) = (I46a 2775) - 1 ∧ (I108a 4289) = (I46a 4289) + 0 ∧ (I108a 5889) = (I46a 5889)) ∧ ((I108a 3905) + 1 ≤ (I46a 3905) + 3 * ((I108a 2774) - ((I46a 2774) + 1)) ∧ (I46a 3905) ≤ v109 ∧ v109 + 1 = (I108a 3905) ∧ (I46a 4033) ≤ (I108a 4033) ∧ (I108a 4033) ≤ (I46a 4033) + ((I108a 2774) - ((I46a 2774) + 1))) := f115
                obtain ⟨⟨⟨n124, n125, n126, n127, n128⟩, ⟨n129, n130, n131, n132, n133, n134⟩, ⟨n135, n136, n137, n138⟩, n139, n140⟩, ⟨n141, n142, n143, n144, n145⟩, ⟨n146, n147, n148, n149, n150⟩⟩ := id f115
                clear f115
                replace f116 : m_SC I108a A108a := f116
                replace f117 : m_TR lo110 I108a A108a := f117
                replace f118 : m_ST lo48 (w_up (w_up I46a 2774 ((I46a 2774) + 1)) 2775 ((I46a 2775) - 1)) A46a lo110 I108a A108a := f118
                replace f119 : (fun k => k = 19) ((A108a 53) (v109)) := f119
                replace f120 : m_rt lo110 (I108a 3905) v109 := f120
                replace f121 : m_RK lo110 (I46a 3905) (I108a 3905) (8 * (24 - ((I46a 2775) - 1)) + 7) := f121
                have tk151 : m_TK I108a A108a := m_TK_fx f114 tk90
                have nn152 : (I46a 3905) ≤ (I108a 3905) := by omega
                have nz153 : 0 ≤ (I46a 3905) := by first | assumption | omega
                have ho154 : (I46a 2775) - 1 = (I 2775) + (1) := by omega
                have rk156 : m_RK lo110 (I 3905) (I108a 3905) (8 * (24 - (I 2775)) + (-1)) := m_RK_app (I := (w_up (w_up I46a 2774 ((I46a 2774) + 1)) 2775 ((I46a 2775) - 1))) (I' := I108a) (R := (8 * (24 - (I 2775)) + (-16))) (show m_RK lo48 (I 3905) (I46a 3905) (8 * (24 - (I 2775)) + (-16)) from rk95) f118 f121 (show 0 ≤ (I 3905) by first | assumption | omega) (m_r8 (by decide)) (m_r8o (k := 1) ho154 (by decide))
                have s155 : m_ST lo I A lo110 I108a A108a := m_ST_trans (show m_ST lo I A lo48 (w_up (w_up I46a 2774 ((I46a 2774) + 1)) 2775 ((I46a 2775) - 1)) A46a from s94) f118 (show 0 ≤ (I 3905) by first | assumption | omega) (show (I 3905) ≤ (I46a 3905) by first | assumption | omega) (show (I 4289) ≤ (I46a 4289) by first | assumption | omega) (show (I 5889) ≤ (I46a 5889) by first | assumption | omega)
                have o157 : v47 = -1 ∨ m_kd lo110 I108a A108a (I 3905) (8 * (24 - ((I 2775) + 1 + 1)) + 0) v47 (fun k => k = 28) := (show v47 = -1 ∨ m_kd lo48 (w_up (w_up I46a 2774 ((I46a 2774) + 1)) 2775 ((I46a 2775) - 1)) A46a (I 3905) (8 * (24 - ((I 2775) + 1 + 1)) + 0) v47 (fun k => k = 28) from f57).imp_right (fun q => m_kd_ST f118 nn152 q)
                have k158 : m_kd lo110 I108a A108a (I46a 3905) (8 * (24 - ((I46a 2775) - 1)) + 7) v109 (fun k => k = 19) := m_kd_of f118 f117 nz153 (show (I46a 3905) ≤ v109 by first | assumption | omega) (show v109 < (I108a 3905) by omega) f119 f121
                obtain ⟨j159, j160, j161, j162, j163⟩ := k158.1
                show w_W _ _ _ (56, [(3, .int (Int32.ofInt (v47))), (2, .int (Int32.ofInt ((I 4289)))), (1, .int (Int32.ofInt (1))), (0, .ref 43)], [.int (Int32.ofInt (v109))], M107) _
                refine w_adv (n := 4) (F' := (67, [(4, .int (Int32.ofInt (v109))), (3, .int (Int32.ofInt (v47))), (2, .int (Int32.ofInt ((I 4289)))), (1, .int (Int32.ofInt (1))), (0, .ref 43)], [.int (Int32.ofInt (3)), .ref 43], M107)) rfl ?_
                refine w_call (cm := 244) (as := [(0, .ref 43), (1, .int (Int32.ofInt (3)))]) (rest := []) (o := some (9, 43)) rfl (w_fitR hR108a rfl) (m_closeWord (3) hR108a (show 3 ≤ d by omega) ⟨by omega, by omega⟩ (show 0 ≤ (I108a 2774) ∧ (I108a 2774) < 1501 by omega) (show 1 ≤ (I108a 2775) ∧ (I108a 2775) ≤ 24 by first | assumption | omega)) (fun r164 M165 q166 => ?_)
                rcases q166 with ⟨e167, hR166a, f168⟩ | ⟨I166b, A166b, B166b, C166b, e169, hR166b, f170⟩
                · rw [e167]
                  replace hR166a : w_Rep w_TM fr X u l (w_up (w_up I108a 2774 ((I108a 2774) + 1)) 2775 ((I108a 2775) - 1)) A108a B108a C108a M165 := hR166a
                  replace f168 : (A108a 45) ((I108a 2774)) = 5 ∧ (A108a 46) ((I108a 2774)) = 3 := f168
                  obtain ⟨n171, n172⟩ := id f168
                  clear f168
                  have w173 : (I108a 2774) + 1 < (I108a 2754) := m_TK_lt tk151 (show (I108a 2774) < (I108a 2754) by omega) (show 1 ≤ (A108a 45) ((I108a 2774)) by omega) (show (A108a 45) ((I108a 2774)) ≤ 6 by omega)
                  show w_W _ _ _ (70, [(4, .int (Int32.ofInt (v109))), (3, .int (Int32.ofInt (v47))), (2, .int (Int32.ofInt ((I 4289)))), (1, .int (Int32.ofInt (1))), (0, .ref 43)], [], M165) _
                  refine w_adv (n := 1) (F' := (71, [(4, .int (Int32.ofInt (v109))), (3, .int (Int32.ofInt (v47))), (2, .int (Int32.ofInt ((I 4289)))), (1, .int (Int32.ofInt (1))), (0, .ref 43)], [.ref 43], M165)) rfl ?_
                  refine w_gf (v := .ref 67) hR166a rfl rfl rfl rfl ?_
                  refine w_adv (n := 1) (F' := (75, [(4, .int (Int32.ofInt (v109))), (3, .int (Int32.ofInt (v47))), (2, .int (Int32.ofInt ((I 4289)))), (1, .int (Int32.ofInt (1))), (0, .ref 43)], [.int (Int32.ofInt ((I 4289))), .ref 67], M165)) rfl ?_
                  refine w_pf hR166a rfl rfl rfl rfl (show w_in ((I 4289)) from ⟨by omega, by omega⟩) (fun _ _ => (show 0 ≤ (I 4289) ∧ (I 4289) ≤ (C108a 67 : Int) by omega)) (fun M174 hR175 => ?_)
                  replace hR175 : w_Rep w_TM fr X u l (w_up (w_up (w_up I108a 2774 ((I108a 2774) + 1)) 2775 ((I108a 2775) - 1)) 4289 ((I 4289))) A108a B108a C108a M174 := hR175
                  have sc176 : m_SC (w_up (w_up (w_up I108a 2774 ((I108a 2774) + 1)) 2775 ((I108a 2775) - 1)) 4289 ((I 4289))) A108a := m_SC_cut f116 (show (I 4289) ≤ (I108a 4289) by omega) rfl rfl
                  refine w_adv (n := 8) (F' := (94, [(4, .int (Int32.ofInt (v109))), (3, .int (Int32.ofInt (v47))), (2, .int (Int32.ofInt ((I 4289)))), (1, .int (Int32.ofInt (1))), (0, .ref 43)], [.int (Int32.ofInt (0)), .int (Int32.ofInt (v109)), .int (Int32.ofInt (v47)), .int (Int32.ofInt (13)), .ref 43], M174)) rfl ?_
                  refine w_call (cm := 239) (as := [(0, .ref 43), (1, .int (Int32.ofInt (13))), (2, .int (Int32.ofInt (v47))), (3, .int (Int32.ofInt (v109))), (4, .int (Int32.ofInt (0)))]) (rest := []) (o := some (9, 43)) rfl (w_fitR hR175 rfl) (m_node (13) (v47) (v109) (0) hR175 (show 2 ≤ d by omega) ⟨by omega, by omega⟩ ⟨by omega, by omega⟩ ⟨by omega, by omega⟩ ⟨by omega, by omega⟩ (show (I108a 3393) = (I108a 3905) by first | assumption | omega) (show (I108a 3521) = (I108a 3905) by first | assumption | omega) (show (I108a 3649) = (I108a 3905) by first | assumption | omega) (show (I108a 3777) = (I108a 3905) by first | assumption | omega) (show (I108a 3905) < 65536 by first | assumption | omega)) (fun r177 M178 q179 => ?_)
                  rcases q179 with ⟨v180, I179a, A179a, B179a, C179a, e181, ⟨r182, r183⟩, hR179a, f184, f185⟩
                  rw [e181]
                  replace hR179a : w_Rep w_TM fr X u l I179a A179a B179a C179a M178 := hR179a
                  replace f184 : m_fx (w_up (w_up (w_up I108a 2774 ((I108a 2774) + 1)) 2775 ((I108a 2775) - 1)) 4289 ((I 4289))) A108a I179a A179a := f184
                  replace f185 : m_nd (w_up (w_up (w_up I108a 2774 ((I108a 2774) + 1)) 2775 ((I108a 2775) - 1)) 4289 ((I 4289))) A108a I179a A179a v180 13 v47 v109 0 := f185
                  obtain ⟨⟨n186, n187, n188, n189, n190, n191⟩, ⟨n192, n193, n194, n195, n196, n197, n198⟩⟩ : (v180 = (I108a 3905) ∧ (I179a 3905) = (I108a 3905) + 1 ∧ (I179a 3393) = (I108a 3393) + 1 ∧ (I179a 3521) = (I108a 3521) + 1 ∧ (I179a 3649) = (I108a 3649) + 1 ∧ (I179a 3777) = (I108a 3777) + 1) ∧ ((I179a 2774) = (I108a 2774) + 1 ∧ (I179a 2754) = (I108a 2754) ∧ (I179a 2775) = (I108a 2775) - 1 ∧ (I179a 4289) = (I 4289) ∧ (I179a 4033) = (I108a 4033) ∧ (I179a 4161) = (I108a 4161) ∧ (I179a 5889) = (I108a 5889)) := m_nd_num f185
                  have tk199 : m_TK I179a A179a := m_TK_fx f184 tk151
                  have sc200 : m_SC I179a A179a := m_SC_nd f185 sc176
                  have tr201 : m_TR (t_up lo110 v180 (I 3905) (8 * (24 - (I 2775)) + (0))) I179a A179a := m_TR_nd (show m_TR lo110 (w_up (w_up (w_up I108a 2774 ((I108a 2774) + 1)) 2775 ((I108a 2775) - 1)) 4289 ((I 4289))) A108a from f117) f185 (show 0 ≤ (I 3905) by omega) (show (I 3905) ≤ v180 by omega) (m_cl_ST (show m_ST lo I A lo110 (w_up (w_up (w_up I108a 2774 ((I108a 2774) + 1)) 2775 ((I108a 2775) - 1)) 4289 ((I 4289))) A108a from s155) hTR (show 0 ≤ (I 3905) by omega)) (t_N_mk13 t_up_same (show 0 ≤ (I 3905) by omega) (show (I 3905) ≤ v180 by omega) (show 0 ≤ (8 * (24 - (I 2775)) + (0)) by omega) (m_hw (show m_RK lo110 (I 3905) v180 (8 * (24 - (I 2775)) + (-1)) from fun q q1 q2 => (show m_RK lo110 (I 3905) (I108a 3905) (8 * (24 - (I 2775)) + (-1)) from rk156) q (show (I 3905) ≤ q by omega) (show q < (I108a 3905) by omega)) (m_r8l (by decide))) ⟨((show v47 = -1 ∨ m_kd lo110 (w_up (w_up (w_up I108a 2774 ((I108a 2774) + 1)) 2775 ((I108a 2775) - 1)) 4289 ((I 4289))) A108a (I 3905) (8 * (24 - ((I 2775) + 1 + 1)) + 0) v47 (fun k => k = 28) from o157).imp_right (fun q => m_ch f185 (show (I 3905) ≤ (I 3905) by omega) q)), m_ch f185 (show (I 3905) ≤ (I46a 3905) by omega) k158, ((show v47 = -1 ∨ m_kd lo110 (w_up (w_up (w_up I108a 2774 ((I108a 2774) + 1)) 2775 ((I108a 2775) - 1)) 4289 ((I 4289))) A108a (I 3905) (8 * (24 - ((I 2775) + 1 + 1)) + 0) v47 (fun k => k = 28) from o157).imp_right (fun q => m_od f185 k158 (show v47 < (I46a 3905) by have := q.1; omega))), (by omega)⟩)
                  have s202 : m_ST lo I A (t_up lo110 v180 (I 3905) (8 * (24 - (I 2775)) + (0))) I179a A179a := m_ST_nd (l := (I 3905)) (show m_ST lo I A lo110 (w_up (w_up (w_up I108a 2774 ((I108a 2774) + 1)) 2775 ((I108a 2775) - 1)) 4289 ((I 4289))) A108a from s155) f185 (show (I 3905) ≤ (I 3905) by omega) (show (I 3905) ≤ (I108a 3905) by omega)
                  have rk203 : m_RK (t_up lo110 v180 (I 3905) (8 * (24 - (I 2775)) + (0))) (I 3905) (I179a 3905) (8 * (24 - (I 2775)) + (0)) := fun q q1 q2 => m_RK_nd (show m_RK lo110 (I 3905) v180 (8 * (24 - (I 2775)) + (-1)) from fun q q1 q2 => (show m_RK lo110 (I 3905) (I108a 3905) (8 * (24 - (I 2775)) + (-1)) from rk156) q q1 (show q < (I108a 3905) by omega)) (m_r8 (by decide)) (m_r8 (by decide)) q q1 (show q < v180 + 1 by omega)
                  have k204 : m_kd (t_up lo110 v180 (I 3905) (8 * (24 - (I 2775)) + (0))) I179a A179a (I 3905) (8 * (24 - (I 2775)) + (0)) v180 (fun k => k = 13) := m_kd_new f185 (show 0 ≤ (I 3905) by omega) (show (I 3905) ≤ v180 by omega) rfl
                  have rt205 : m_rt (t_up lo110 v180 (I 3905) (8 * (24 - (I 2775)) + (0))) (I179a 3905) v180 := m_rt_new f185
                  show w_W _ _ _ (97, [(4, .int (Int32.ofInt (v109))), (3, .int (Int32.ofInt (v47))), (2, .int (Int32.ofInt ((I 4289)))), (1, .int (Int32.ofInt (1))), (0, .ref 43)], [.int (Int32.ofInt (v180))], M178) _
                  refine w_fin (r := .inl (some (v180))) (M' := M178) rfl ?_
                  exact Or.inl ⟨v180, (t_up lo110 v180 (I 3905) (8 * (24 - (I 2775)) + (0))), I179a, A179a, B179a, C179a, rfl, ⟨by omega, by omega⟩, hR179a, (show m_fx I A I179a A179a by exact (m_fx_trans (m_fx_trans f52 f114) f184)), (show ((0 ≤ (I179a 2774) ∧ (I179a 2774) < (I179a 2754) ∧ (I179a 2754) ≤ 1501 ∧ 0 ≤ (I179a 2775) ∧ (I179a 2775) ≤ 24) ∧ ((I179a 3393) = (I179a 3905) ∧ (I179a 3521) = (I179a 3905) ∧ (I179a 3649) = (I179a 3905) ∧ (I179a 3777) = (I179a 3905) ∧ 0 ≤ (I179a 3905) ∧ (I179a 3905) ≤ 3 * (I179a 2774)) ∧ ((I179a 4161) = (I179a 4033) ∧ 7 ≤ (I179a 4289) ∧ (I179a 4289) ≤ (I179a 4033) ∧ (I179a 4033) ≤ 7 + (I179a 2774)) ∧ 0 ≤ (I179a 5889) ∧ (I179a 5889) ≤ (I179a 2774)) ∧ ((I179a 2754) = (I 2754) ∧ (I 2774) + 1 ≤ (I179a 2774) ∧ (I179a 2775) = (I 2775) ∧ (I179a 4289) = (I 4289) + 0 ∧ (I179a 5889) = (I 5889)) ∧ ((I179a 3905) + 2 ≤ (I 3905) + 3 * ((I179a 2774) - (I 2774)) ∧ (I 3905) ≤ v180 ∧ v180 + 1 = (I179a 3905) ∧ (I 4033) ≤ (I179a 4033) ∧ (I179a 4033) ≤ (I 4033) + ((I179a 2774) - (I 2774))) by (repeat' apply And.intro) <;> first | assumption | omega), (show m_SC I179a A179a by exact sc200), (show m_TR (t_up lo110 v180 (I 3905) (8 * (24 - (I 2775)) + (0))) I179a A179a by exact tr201), (show m_ST lo I A (t_up lo110 v180 (I 3905) (8 * (24 - (I 2775)) + (0))) I179a A179a by exact s202), (show t_E ((A179a 53) (v180)) by exact ((m_kd_K k204 (fun k h => by have h : k = 13 := h; unfold t_E; omega))).2), (show m_rt (t_up lo110 v180 (I 3905) (8 * (24 - (I 2775)) + (0))) (I179a 3905) v180 by exact rt205), (show m_RK (t_up lo110 v180 (I 3905) (8 * (24 - (I 2775)) + (0))) (I 3905) (I179a 3905) (8 * (24 - (I 2775)) + 0) by exact m_RK_le (show m_RK (t_up lo110 v180 (I 3905) (8 * (24 - (I 2775)) + (0))) (I 3905) (I179a 3905) (8 * (24 - (I 2775)) + (0)) from rk203) (show (8 * (24 - (I 2775)) + (0)) ≤ 8 * (24 - (I 2775)) + 0 by omega))⟩
                · rw [e169]
                  replace hR166b : w_Rep w_TM fr X u l I166b A166b B166b C166b M165 := hR166b
                  replace f170 : m_fx I108a A108a I166b A166b := f170
                  exact Or.inr (⟨I166b, A166b, B166b, C166b, rfl, hR166b, (show m_fx I A I166b A166b by exact (m_fx_trans (m_fx_trans f52 f114) f170))⟩)
              · rw [e122]
                replace hR108b : w_Rep w_TM fr X u l I108b A108b B108b C108b M107 := hR108b
                replace f123 : m_fx (w_up (w_up I46a 2774 ((I46a 2774) + 1)) 2775 ((I46a 2775) - 1)) A46a I108b A108b := f123
                exact Or.inr (⟨I108b, A108b, B108b, C108b, rfl, hR108b, (show m_fx I A I108b A108b by exact (m_fx_trans f52 f123))⟩)
            · rw [e101]
              replace hR98b : w_Rep w_TM fr X u l I98b A98b B98b C98b M97 := hR98b
              replace f102 : m_fx I46a A46a I98b A98b := f102
              exact Or.inr (⟨I98b, A98b, B98b, C98b, rfl, hR98b, (show m_fx I A I98b A98b by exact (m_fx_trans f52 f102))⟩)
          · rw [e60]
            replace hR46b : w_Rep w_TM fr X u l I46b A46b B46b C46b M45 := hR46b
            replace f61 : m_fx (w_up (w_up I 2775 ((I 2775) + 1 + 1)) 2774 ((I 2774) + 1 + 1)) A I46b A46b := f61
            exact Or.inr (⟨I46b, A46b, B46b, C46b, rfl, hR46b, (show m_fx I A I46b A46b by exact f61)⟩)
        · rw [e41]
          replace hR38b : w_Rep w_TM fr X u l I38b A38b B38b C38b M37 := hR38b
          replace f42 : m_fx (w_up (w_up I 2775 ((I 2775) + 1)) 2774 ((I 2774) + 1)) A I38b A38b := f42
          exact Or.inr (⟨I38b, A38b, B38b, C38b, rfl, hR38b, (show m_fx I A I38b A38b by exact f42)⟩)
      · rw [e30, e31]
        replace f32 : ¬ ((A 45) ((I 2774) + 1) = 6 ∧ (A 46) ((I 2774) + 1) = 123) := f32
        show w_W _ _ _ (25, [(2, .int (Int32.ofInt ((I 4289)))), (1, .int (Int32.ofInt (1))), (0, .ref 43)], [.int (Int32.ofInt (0))], M17) _
        refine w_adv (n := 3) (F' := (30, [(2, .int (Int32.ofInt ((I 4289)))), (1, .int (Int32.ofInt (1))), (0, .ref 43)], [.int (Int32.ofInt (1)), .ref 43], M17)) rfl ?_
        refine w_call (cm := 232) (as := [(0, .ref 43), (1, .int (Int32.ofInt (1)))]) (rest := []) (o := some (9, 43)) rfl (w_fitR hR18a rfl) (m_fail (1) hR18a ⟨by omega, by omega⟩ (show 0 ≤ (I 2774) + 1 ∧ (I 2774) + 1 < 1501 by omega) (show 1 ≤ 1 ∧ 1 ≤ 7 by first | assumption | omega)) (fun r206 M207 q208 => ?_)
        rcases q208 with ⟨I208a, A208a, B208a, C208a, e209, hR208a, f210⟩
        rw [e209]
        replace hR208a : w_Rep w_TM fr X u l I208a A208a B208a C208a M207 := hR208a
        replace f210 : m_fx (w_up (w_up I 2775 ((I 2775) + 1)) 2774 ((I 2774) + 1)) A I208a A208a := f210
        exact Or.inr (⟨I208a, A208a, B208a, C208a, rfl, hR208a, (show m_fx I A I208a A208a by exact f210)⟩)
    · rw [e21]
      replace hR18b : w_Rep w_TM fr X u l I18b A18b B18b C18b M17 := hR18b
      replace f22 : m_fx I A I18b A18b := f22
      exact Or.inr (⟨I18b, A18b, B18b, C18b, rfl, hR18b, (show m_fx I A I18b A18b by exact f22)⟩)
  · rw [e7, e8]
    replace f9 : ¬ ((A 45) ((I 2774)) = 5 ∧ (A 46) ((I 2774)) = 11) := f9
    show w_W _ _ _ (6, [(0, .ref 43)], [.int (Int32.ofInt (0))], M) _
    refine w_adv (n := 2) (F' := (8, [(1, .int (Int32.ofInt (0))), (0, .ref 43)], [.ref 43], M)) rfl ?_
    refine w_gf (v := .ref 67) hR rfl rfl rfl rfl ?_
    refine w_gf (v := .int (Int32.ofInt ((I 4289)))) hR rfl rfl rfl rfl ?_
    obtain ⟨r211, r212⟩ : -2147483648 ≤ (I 4289) ∧ (I 4289) ≤ 2147483647 := hR.ri 4289
    obtain ⟨r213a, r213b, r213c⟩ : 0 ≤ (I 4289) ∧ (I 4289) ≤ (C 67 : Int) ∧ (C 67 : Int) ≤ 131072 := hR.sz (show 67 ∈ w_TM.2.2 by decide)
    refine w_adv (n := 2) (F' := (16, [(2, .int (Int32.ofInt ((I 4289)))), (1, .int (Int32.ofInt (0))), (0, .ref 43)], [.ref 43], M)) rfl ?_
    refine w_call (cm := 235) (as := [(0, .ref 43)]) (rest := []) (o := some (9, 43)) rfl (w_fitR hR rfl) (m_enter hR (show 2 ≤ d by omega) (show 0 ≤ (I 2774) ∧ (I 2774) < 1501 by omega) (show 0 ≤ (I 2775) ∧ (I 2775) ≤ 24 by first | assumption | omega)) (fun r214 M215 q216 => ?_)
    rcases q216 with ⟨e217, hR216a, f218⟩ | ⟨I216b, A216b, B216b, C216b, e219, hR216b, f220⟩
    · rw [e217]
      replace hR216a : w_Rep w_TM fr X u l (w_up (w_up I 2775 ((I 2775) + 1)) 2774 ((I 2774) + 1)) A B C M215 := hR216a
      replace f218 : (I 2775) < 24 := f218
      have w221 : (I 2774) + 1 < (I 2754) := m_TK_lt hTK (show (I 2774) < (I 2754) by omega) (show 1 ≤ (A 45) ((I 2774)) by omega) (show (A 45) ((I 2774)) ≤ 6 by omega)
      show w_W _ _ _ (19, [(2, .int (Int32.ofInt ((I 4289)))), (1, .int (Int32.ofInt (0))), (0, .ref 43)], [], M215) _
      refine w_adv (n := 2) (F' := (22, [(2, .int (Int32.ofInt ((I 4289)))), (1, .int (Int32.ofInt (0))), (0, .ref 43)], [.int (Int32.ofInt (123)), .ref 43], M215)) rfl ?_
      refine w_call (cm := 230) (as := [(0, .ref 43), (1, .int (Int32.ofInt (123)))]) (rest := []) (o := some (9, 43)) rfl (w_fitR hR216a rfl) (m_isSign (123) hR216a ⟨by omega, by omega⟩ (show 0 ≤ (I 2774) + 1 ∧ (I 2774) + 1 < 1501 by omega)) (fun r222 M223 q224 => ?_)
      rcases q224 with ⟨e225, e226, f227⟩ | ⟨e228, e229, f230⟩
      · rw [e225, e226]
        replace f227 : (A 45) ((I 2774) + 1) = 6 ∧ (A 46) ((I 2774) + 1) = 123 := f227
        obtain ⟨n231, n232⟩ := id f227
        clear f227
        have w233 : ((I 2774) + 1) + 1 < (I 2754) := m_TK_lt hTK (by omega) (by omega) (by omega)
        show w_W _ _ _ (25, [(2, .int (Int32.ofInt ((I 4289)))), (1, .int (Int32.ofInt (0))), (0, .ref 43)], [.int (Int32.ofInt (1))], M215) _
        refine w_adv (n := 2) (F' := (34, [(2, .int (Int32.ofInt ((I 4289)))), (1, .int (Int32.ofInt (0))), (0, .ref 43)], [.ref 43], M215)) rfl ?_
        refine w_call (cm := 235) (as := [(0, .ref 43)]) (rest := []) (o := some (9, 43)) rfl (w_fitR hR216a rfl) (m_enter hR216a (show 2 ≤ d by omega) (show 0 ≤ (I 2774) + 1 ∧ (I 2774) + 1 < 1501 by omega) (show 0 ≤ (I 2775) + 1 ∧ (I 2775) + 1 ≤ 24 by first | assumption | omega)) (fun r234 M235 q236 => ?_)
        rcases q236 with ⟨e237, hR236a, f238⟩ | ⟨I236b, A236b, B236b, C236b, e239, hR236b, f240⟩
        · rw [e237]
          replace hR236a : w_Rep w_TM fr X u l (w_up (w_up I 2775 ((I 2775) + 1 + 1)) 2774 ((I 2774) + 1 + 1)) A B C M235 := hR236a
          replace f238 : (I 2775) + 1 < 24 := f238
          have w241 : ((I 2774) + 1) + 1 < (I 2754) := m_TK_lt hTK (show (I 2774) + 1 < (I 2754) by omega) (show 1 ≤ (A 45) ((I 2774) + 1) by omega) (show (A 45) ((I 2774) + 1) ≤ 6 by omega)
          show w_W _ _ _ (37, [(2, .int (Int32.ofInt ((I 4289)))), (1, .int (Int32.ofInt (0))), (0, .ref 43)], [], M235) _
          refine w_adv (n := 1) (F' := (38, [(2, .int (Int32.ofInt ((I 4289)))), (1, .int (Int32.ofInt (0))), (0, .ref 43)], [.ref 43], M235)) rfl ?_
          refine w_call (cm := 236) (as := [(0, .ref 43)]) (rest := []) (o := some (9, 43)) rfl (w_fitR hR236a rfl) (m_binds (lo) hR236a (show 20 * (24 - ((I 2775) + 1 + 1)) + 8 ≤ (d : Int) by omega) (show m_TK (w_up (w_up I 2775 ((I 2775) + 1 + 1)) 2774 ((I 2774) + 1 + 1)) A by exact hTK) (show (0 ≤ (I 2774) + 1 + 1 ∧ (I 2774) + 1 + 1 < (I 2754) ∧ (I 2754) ≤ 1501 ∧ 0 ≤ (I 2775) + 1 + 1 ∧ (I 2775) + 1 + 1 ≤ 24) ∧ ((I 3393) = (I 3905) ∧ (I 3521) = (I 3905) ∧ (I 3649) = (I 3905) ∧ (I 3777) = (I 3905) ∧ 0 ≤ (I 3905) ∧ (I 3905) ≤ 3 * ((I 2774) + 1 + 1)) ∧ ((I 4161) = (I 4033) ∧ 7 ≤ (I 4289) ∧ (I 4289) ≤ (I 4033) ∧ (I 4033) ≤ 7 + ((I 2774) + 1 + 1)) ∧ 0 ≤ (I 5889) ∧ (I 5889) ≤ (I 2774) + 1 + 1 by (repeat' apply And.intro) <;> first | assumption | omega) (show m_SC (w_up (w_up I 2775 ((I 2775) + 1 + 1)) 2774 ((I 2774) + 1 + 1)) A by exact hSC) (show m_TR lo (w_up (w_up I 2775 ((I 2775) + 1 + 1)) 2774 ((I 2774) + 1 + 1)) A by exact hTR)) (fun r242 M243 q244 => ?_)
          rcases q244 with ⟨v245, lo246, I244a, A244a, B244a, C244a, e247, ⟨r248, r249⟩, hR244a, f250, f251, f252, f253, f254, f255, f256, f257⟩ | ⟨I244b, A244b, B244b, C244b, e258, hR244b, f259⟩
          · rw [e247]
            replace hR244a : w_Rep w_TM fr X u l I244a A244a B244a C244a M243 := hR244a
            replace f250 : m_fx (w_up (w_up I 2775 ((I 2775) + 1 + 1)) 2774 ((I 2774) + 1 + 1)) A I244a A244a := f250
            replace f251 : ((0 ≤ (I244a 2774) ∧ (I244a 2774) < (I244a 2754) ∧ (I244a 2754) ≤ 1501 ∧ 0 ≤ (I244a 2775) ∧ (I244a 2775) ≤ 24) ∧ ((I244a 3393) = (I244a 3905) ∧ (I244a 3521) = (I244a 3905) ∧ (I244a 3649) = (I244a 3905) ∧ (I244a 3777) = (I244a 3905) ∧ 0 ≤ (I244a 3905) ∧ (I244a 3905) ≤ 3 * (I244a 2774)) ∧ ((I244a 4161) = (I244a 4033) ∧ 7 ≤ (I244a 4289) ∧ (I244a 4289) ≤ (I244a 4033) ∧ (I244a 4033) ≤ 7 + (I244a 2774)) ∧ 0 ≤ (I244a 5889) ∧ (I244a 5889) ≤ (I244a 2774)) ∧ ((I244a 2754) = (I 2754) ∧ ((I 2774) + 1 + 1) + 0 ≤ (I244a 2774) ∧ (I244a 2775) = (I 2775) + 1 + 1 ∧ (I 4289) ≤ (I244a 4289) ∧ (I244a 5889) = (I 5889)) ∧ ((I244a 3905) + 0 ≤ (I 3905) + 3 * ((I244a 2774) - ((I 2774) + 1 + 1)) ∧ (I 3905) ≤ (I244a 3905) ∧ -1 ≤ v245 ∧ v245 < (I244a 3905) ∧ (I 4033) ≤ (I244a 4033) ∧ (I244a 4033) ≤ (I 4033) + ((I244a 2774) - ((I 2774) + 1 + 1))) := f251
            obtain ⟨⟨⟨n260, n261, n262, n263, n264⟩, ⟨n265, n266, n267, n268, n269, n270⟩, ⟨n271, n272, n273, n274⟩, n275, n276⟩, ⟨n277, n278, n279, n280, n281⟩, ⟨n282, n283, n284, n285, n286, n287⟩⟩ := id f251
            clear f251
            replace f252 : m_SC I244a A244a := f252
            replace f253 : m_TR lo246 I244a A244a := f253
            replace f254 : m_ST lo (w_up (w_up I 2775 ((I 2775) + 1 + 1)) 2774 ((I 2774) + 1 + 1)) A lo246 I244a A244a := f254
            replace f255 : v245 = -1 ∨ m_kd lo246 I244a A244a (I 3905) (8 * (24 - ((I 2775) + 1 + 1)) + 0) v245 (fun k => k = 28) := f255
            replace f256 : v245 = -1 ∨ m_rt lo246 (I244a 3905) v245 := f256
            replace f257 : m_RK lo246 (I 3905) (I244a 3905) (8 * (24 - ((I 2775) + 1 + 1)) + 0) := f257
            have tk288 : m_TK I244a A244a := m_TK_fx f250 hTK
            have nn289 : (I 3905) ≤ (I244a 3905) := by omega
            have nz290 : 0 ≤ (I 3905) := by first | assumption | omega
            have ho291 : (I 2775) + 1 + 1 = (I 2775) + (2) := by omega
            have rk293 : m_RK lo246 (I 3905) (I244a 3905) (8 * (24 - (I 2775)) + (-16)) := m_RK_app (I := (w_up (w_up I 2775 ((I 2775) + 1 + 1)) 2774 ((I 2774) + 1 + 1))) (I' := I244a) (R := (8 * (24 - (I 2775)) + (-16))) (show m_RK lo (I 3905) (I 3905) (8 * (24 - (I 2775)) + (-16)) from fun q q1 q2 => by omega) f254 f257 (show 0 ≤ (I 3905) by first | assumption | omega) (m_r8 (by decide)) (m_r8o (k := 2) ho291 (by decide))
            have s292 : m_ST lo I A lo246 I244a A244a := f254
            show w_W _ _ _ (41, [(2, .int (Int32.ofInt ((I 4289)))), (1, .int (Int32.ofInt (0))), (0, .ref 43)], [.int (Int32.ofInt (v245))], M243) _
            refine w_adv (n := 3) (F' := (45, [(3, .int (Int32.ofInt (v245))), (2, .int (Int32.ofInt ((I 4289)))), (1, .int (Int32.ofInt (0))), (0, .ref 43)], [.int (Int32.ofInt (125)), .ref 43], M243)) rfl ?_
            refine w_call (cm := 264) (as := [(0, .ref 43), (1, .int (Int32.ofInt (125)))]) (rest := []) (o := some (9, 43)) rfl (w_fitR hR244a rfl) (m_closeSign (125) hR244a (show 3 ≤ d by omega) ⟨by omega, by omega⟩ (show 0 ≤ (I244a 2774) ∧ (I244a 2774) < 1501 by omega) (show 1 ≤ (I244a 2775) ∧ (I244a 2775) ≤ 24 by first | assumption | omega)) (fun r294 M295 q296 => ?_)
            rcases q296 with ⟨e297, hR296a, f298⟩ | ⟨I296b, A296b, B296b, C296b, e299, hR296b, f300⟩
            · rw [e297]
              replace hR296a : w_Rep w_TM fr X u l (w_up (w_up I244a 2774 ((I244a 2774) + 1)) 2775 ((I244a 2775) - 1)) A244a B244a C244a M295 := hR296a
              replace f298 : (A244a 45) ((I244a 2774)) = 6 ∧ (A244a 46) ((I244a 2774)) = 125 := f298
              obtain ⟨n301, n302⟩ := id f298
              clear f298
              have w303 : (I244a 2774) + 1 < (I244a 2754) := m_TK_lt tk288 (show (I244a 2774) < (I244a 2754) by omega) (show 1 ≤ (A244a 45) ((I244a 2774)) by omega) (show (A244a 45) ((I244a 2774)) ≤ 6 by omega)
              show w_W _ _ _ (48, [(3, .int (Int32.ofInt (v245))), (2, .int (Int32.ofInt ((I 4289)))), (1, .int (Int32.ofInt (0))), (0, .ref 43)], [], M295) _
              refine w_adv (n := 3) (F' := (60, [(3, .int (Int32.ofInt (v245))), (2, .int (Int32.ofInt ((I 4289)))), (1, .int (Int32.ofInt (0))), (0, .ref 43)], [.ref 43], M295)) rfl ?_
              refine w_call (cm := 227) (as := [(0, .ref 43)]) (rest := []) (o := some (9, 43)) rfl (w_fitR hR296a rfl) (hA.2.1 (lo246) hR296a (show 20 * (24 - ((I244a 2775) - 1)) + 19 ≤ (d : Int) by omega) (show m_TK (w_up (w_up I244a 2774 ((I244a 2774) + 1)) 2775 ((I244a 2775) - 1)) A244a by exact tk288) (show (0 ≤ (I244a 2774) + 1 ∧ (I244a 2774) + 1 < (I244a 2754) ∧ (I244a 2754) ≤ 1501 ∧ 0 ≤ (I244a 2775) - 1 ∧ (I244a 2775) - 1 ≤ 24) ∧ ((I244a 3393) = (I244a 3905) ∧ (I244a 3521) = (I244a 3905) ∧ (I244a 3649) = (I244a 3905) ∧ (I244a 3777) = (I244a 3905) ∧ 0 ≤ (I244a 3905) ∧ (I244a 3905) ≤ 3 * ((I244a 2774) + 1)) ∧ ((I244a 4161) = (I244a 4033) ∧ 7 ≤ (I244a 4289) ∧ (I244a 4289) ≤ (I244a 4033) ∧ (I244a 4033) ≤ 7 + ((I244a 2774) + 1)) ∧ 0 ≤ (I244a 5889) ∧ (I244a 5889) ≤ (I244a 2774) + 1 by (repeat' apply And.intro) <;> first | assumption | omega) (show m_SC (w_up (w_up I244a 2774 ((I244a 2774) + 1)) 2775 ((I244a 2775) - 1)) A244a by exact f252) (show m_TR lo246 (w_up (w_up I244a 2774 ((I244a 2774) + 1)) 2775 ((I244a 2775) - 1)) A244a by exact f253) (show (I244a 2754) - ((I244a 2774) + 1) < N by first | assumption | omega)) (fun r304 M305 q306 => ?_)
              rcases q306 with ⟨v307, lo308, I306a, A306a, B306a, C306a, e309, ⟨r310, r311⟩, hR306a, f312, f313, f314, f315, f316, f317, f318, f319⟩ | ⟨I306b, A306b, B306b, C306b, e320, hR306b, f321⟩
              · rw [e309]
                replace hR306a : w_Rep w_TM fr X u l I306a A306a B306a C306a M305 := hR306a
                replace f312 : m_fx (w_up (w_up I244a 2774 ((I244a 2774) + 1)) 2775 ((I244a 2775) - 1)) A244a I306a A306a := f312
                replace f313 : ((0 ≤ (I306a 2774) ∧ (I306a 2774) < (I306a 2754) ∧ (I306a 2754) ≤ 1501 ∧ 0 ≤ (I306a 2775) ∧ (I306a 2775) ≤ 24) ∧ ((I306a 3393) = (I306a 3905) ∧ (I306a 3521) = (I306a 3905) ∧ (I306a 3649) = (I306a 3905) ∧ (I306a 3777) = (I306a 3905) ∧ 0 ≤ (I306a 3905) ∧ (I306a 3905) ≤ 3 * (I306a 2774)) ∧ ((I306a 4161) = (I306a 4033) ∧ 7 ≤ (I306a 4289) ∧ (I306a 4289) ≤ (I306a 4033) ∧ (I306a 4033) ≤ 7 + (I306a 2774)) ∧ 0 ≤ (I306a 5889) ∧ (I306a 5889) ≤ (I306a 2774)) ∧ ((I306a 2754) = (I244a 2754) ∧ ((I244a 2774) + 1) + 1 ≤ (I306a 2774) ∧ (I306a 2775) = (I244a 2775) - 1 ∧ (I306a 4289) = (I244a 4289) + 0 ∧ (I306a 5889) = (I244a 5889)) ∧ ((I306a 3905) + 1 ≤ (I244a 3905) + 3 * ((I306a 2774) - ((I244a 2774) + 1)) ∧ (I244a 3905) ≤ v307 ∧ v307 + 1 = (I306a 3905) ∧ (I244a 4033) ≤ (I306a 4033) ∧ (I306a 4033) ≤ (I244a 4033) + ((I306a 2774) - ((I244a 2774) + 1))) := f313
                obtain ⟨⟨⟨n322, n323, n324, n325, n326⟩, ⟨n327, n328, n329, n330, n331, n332⟩, ⟨n333, n334, n335, n336⟩, n337, n338⟩, ⟨n339, n340, n341, n342, n343⟩, ⟨n344, n345, n346, n347, n348⟩⟩ := id f313
                clear f313
                replace f314 : m_SC I306a A306a := f314
                replace f315 : m_TR lo308 I306a A306a := f315
                replace f316 : m_ST lo246 (w_up (w_up I244a 2774 ((I244a 2774) + 1)) 2775 ((I244a 2775) - 1)) A244a lo308 I306a A306a := f316
                replace f317 : (fun k => k = 25) ((A306a 53) (v307)) := f317
                replace f318 : m_rt lo308 (I306a 3905) v307 := f318
                replace f319 : m_RK lo308 (I244a 3905) (I306a 3905) (8 * (24 - ((I244a 2775) - 1)) + 7) := f319
                have tk349 : m_TK I306a A306a := m_TK_fx f312 tk288
                have nn350 : (I244a 3905) ≤ (I306a 3905) := by omega
                have nz351 : 0 ≤ (I244a 3905) := by first | assumption | omega
                have ho352 : (I244a 2775) - 1 = (I 2775) + (1) := by omega
                have rk354 : m_RK lo308 (I 3905) (I306a 3905) (8 * (24 - (I 2775)) + (-1)) := m_RK_app (I := (w_up (w_up I244a 2774 ((I244a 2774) + 1)) 2775 ((I244a 2775) - 1))) (I' := I306a) (R := (8 * (24 - (I 2775)) + (-16))) (show m_RK lo246 (I 3905) (I244a 3905) (8 * (24 - (I 2775)) + (-16)) from rk293) f316 f319 (show 0 ≤ (I 3905) by first | assumption | omega) (m_r8 (by decide)) (m_r8o (k := 1) ho352 (by decide))
                have s353 : m_ST lo I A lo308 I306a A306a := m_ST_trans (show m_ST lo I A lo246 (w_up (w_up I244a 2774 ((I244a 2774) + 1)) 2775 ((I244a 2775) - 1)) A244a from s292) f316 (show 0 ≤ (I 3905) by first | assumption | omega) (show (I 3905) ≤ (I244a 3905) by first | assumption | omega) (show (I 4289) ≤ (I244a 4289) by first | assumption | omega) (show (I 5889) ≤ (I244a 5889) by first | assumption | omega)
                have o355 : v245 = -1 ∨ m_kd lo308 I306a A306a (I 3905) (8 * (24 - ((I 2775) + 1 + 1)) + 0) v245 (fun k => k = 28) := (show v245 = -1 ∨ m_kd lo246 (w_up (w_up I244a 2774 ((I244a 2774) + 1)) 2775 ((I244a 2775) - 1)) A244a (I 3905) (8 * (24 - ((I 2775) + 1 + 1)) + 0) v245 (fun k => k = 28) from f255).imp_right (fun q => m_kd_ST f316 nn350 q)
                have k356 : m_kd lo308 I306a A306a (I244a 3905) (8 * (24 - ((I244a 2775) - 1)) + 7) v307 (fun k => k = 25) := m_kd_of f316 f315 nz351 (show (I244a 3905) ≤ v307 by first | assumption | omega) (show v307 < (I306a 3905) by omega) f317 f319
                obtain ⟨j357, j358, j359, j360, j361⟩ := k356.1
                show w_W _ _ _ (63, [(3, .int (Int32.ofInt (v245))), (2, .int (Int32.ofInt ((I 4289)))), (1, .int (Int32.ofInt (0))), (0, .ref 43)], [.int (Int32.ofInt (v307))], M305) _
                refine w_adv (n := 3) (F' := (67, [(4, .int (Int32.ofInt (v307))), (3, .int (Int32.ofInt (v245))), (2, .int (Int32.ofInt ((I 4289)))), (1, .int (Int32.ofInt (0))), (0, .ref 43)], [.int (Int32.ofInt (3)), .ref 43], M305)) rfl ?_
                refine w_call (cm := 244) (as := [(0, .ref 43), (1, .int (Int32.ofInt (3)))]) (rest := []) (o := some (9, 43)) rfl (w_fitR hR306a rfl) (m_closeWord (3) hR306a (show 3 ≤ d by omega) ⟨by omega, by omega⟩ (show 0 ≤ (I306a 2774) ∧ (I306a 2774) < 1501 by omega) (show 1 ≤ (I306a 2775) ∧ (I306a 2775) ≤ 24 by first | assumption | omega)) (fun r362 M363 q364 => ?_)
                rcases q364 with ⟨e365, hR364a, f366⟩ | ⟨I364b, A364b, B364b, C364b, e367, hR364b, f368⟩
                · rw [e365]
                  replace hR364a : w_Rep w_TM fr X u l (w_up (w_up I306a 2774 ((I306a 2774) + 1)) 2775 ((I306a 2775) - 1)) A306a B306a C306a M363 := hR364a
                  replace f366 : (A306a 45) ((I306a 2774)) = 5 ∧ (A306a 46) ((I306a 2774)) = 3 := f366
                  obtain ⟨n369, n370⟩ := id f366
                  clear f366
                  have w371 : (I306a 2774) + 1 < (I306a 2754) := m_TK_lt tk349 (show (I306a 2774) < (I306a 2754) by omega) (show 1 ≤ (A306a 45) ((I306a 2774)) by omega) (show (A306a 45) ((I306a 2774)) ≤ 6 by omega)
                  show w_W _ _ _ (70, [(4, .int (Int32.ofInt (v307))), (3, .int (Int32.ofInt (v245))), (2, .int (Int32.ofInt ((I 4289)))), (1, .int (Int32.ofInt (0))), (0, .ref 43)], [], M363) _
                  refine w_adv (n := 1) (F' := (71, [(4, .int (Int32.ofInt (v307))), (3, .int (Int32.ofInt (v245))), (2, .int (Int32.ofInt ((I 4289)))), (1, .int (Int32.ofInt (0))), (0, .ref 43)], [.ref 43], M363)) rfl ?_
                  refine w_gf (v := .ref 67) hR364a rfl rfl rfl rfl ?_
                  refine w_adv (n := 1) (F' := (75, [(4, .int (Int32.ofInt (v307))), (3, .int (Int32.ofInt (v245))), (2, .int (Int32.ofInt ((I 4289)))), (1, .int (Int32.ofInt (0))), (0, .ref 43)], [.int (Int32.ofInt ((I 4289))), .ref 67], M363)) rfl ?_
                  refine w_pf hR364a rfl rfl rfl rfl (show w_in ((I 4289)) from ⟨by omega, by omega⟩) (fun _ _ => (show 0 ≤ (I 4289) ∧ (I 4289) ≤ (C306a 67 : Int) by omega)) (fun M372 hR373 => ?_)
                  replace hR373 : w_Rep w_TM fr X u l (w_up (w_up (w_up I306a 2774 ((I306a 2774) + 1)) 2775 ((I306a 2775) - 1)) 4289 ((I 4289))) A306a B306a C306a M372 := hR373
                  have sc374 : m_SC (w_up (w_up (w_up I306a 2774 ((I306a 2774) + 1)) 2775 ((I306a 2775) - 1)) 4289 ((I 4289))) A306a := m_SC_cut f314 (show (I 4289) ≤ (I306a 4289) by omega) rfl rfl
                  refine w_adv (n := 7) (F' := (94, [(4, .int (Int32.ofInt (v307))), (3, .int (Int32.ofInt (v245))), (2, .int (Int32.ofInt ((I 4289)))), (1, .int (Int32.ofInt (0))), (0, .ref 43)], [.int (Int32.ofInt (0)), .int (Int32.ofInt (v307)), .int (Int32.ofInt (v245)), .int (Int32.ofInt (12)), .ref 43], M372)) rfl ?_
                  refine w_call (cm := 239) (as := [(0, .ref 43), (1, .int (Int32.ofInt (12))), (2, .int (Int32.ofInt (v245))), (3, .int (Int32.ofInt (v307))), (4, .int (Int32.ofInt (0)))]) (rest := []) (o := some (9, 43)) rfl (w_fitR hR373 rfl) (m_node (12) (v245) (v307) (0) hR373 (show 2 ≤ d by omega) ⟨by omega, by omega⟩ ⟨by omega, by omega⟩ ⟨by omega, by omega⟩ ⟨by omega, by omega⟩ (show (I306a 3393) = (I306a 3905) by first | assumption | omega) (show (I306a 3521) = (I306a 3905) by first | assumption | omega) (show (I306a 3649) = (I306a 3905) by first | assumption | omega) (show (I306a 3777) = (I306a 3905) by first | assumption | omega) (show (I306a 3905) < 65536 by first | assumption | omega)) (fun r375 M376 q377 => ?_)
                  rcases q377 with ⟨v378, I377a, A377a, B377a, C377a, e379, ⟨r380, r381⟩, hR377a, f382, f383⟩
                  rw [e379]
                  replace hR377a : w_Rep w_TM fr X u l I377a A377a B377a C377a M376 := hR377a
                  replace f382 : m_fx (w_up (w_up (w_up I306a 2774 ((I306a 2774) + 1)) 2775 ((I306a 2775) - 1)) 4289 ((I 4289))) A306a I377a A377a := f382
                  replace f383 : m_nd (w_up (w_up (w_up I306a 2774 ((I306a 2774) + 1)) 2775 ((I306a 2775) - 1)) 4289 ((I 4289))) A306a I377a A377a v378 12 v245 v307 0 := f383
                  obtain ⟨⟨n384, n385, n386, n387, n388, n389⟩, ⟨n390, n391, n392, n393, n394, n395, n396⟩⟩ : (v378 = (I306a 3905) ∧ (I377a 3905) = (I306a 3905) + 1 ∧ (I377a 3393) = (I306a 3393) + 1 ∧ (I377a 3521) = (I306a 3521) + 1 ∧ (I377a 3649) = (I306a 3649) + 1 ∧ (I377a 3777) = (I306a 3777) + 1) ∧ ((I377a 2774) = (I306a 2774) + 1 ∧ (I377a 2754) = (I306a 2754) ∧ (I377a 2775) = (I306a 2775) - 1 ∧ (I377a 4289) = (I 4289) ∧ (I377a 4033) = (I306a 4033) ∧ (I377a 4161) = (I306a 4161) ∧ (I377a 5889) = (I306a 5889)) := m_nd_num f383
                  have tk397 : m_TK I377a A377a := m_TK_fx f382 tk349
                  have sc398 : m_SC I377a A377a := m_SC_nd f383 sc374
                  have tr399 : m_TR (t_up lo308 v378 (I 3905) (8 * (24 - (I 2775)) + (0))) I377a A377a := m_TR_nd (show m_TR lo308 (w_up (w_up (w_up I306a 2774 ((I306a 2774) + 1)) 2775 ((I306a 2775) - 1)) 4289 ((I 4289))) A306a from f315) f383 (show 0 ≤ (I 3905) by omega) (show (I 3905) ≤ v378 by omega) (m_cl_ST (show m_ST lo I A lo308 (w_up (w_up (w_up I306a 2774 ((I306a 2774) + 1)) 2775 ((I306a 2775) - 1)) 4289 ((I 4289))) A306a from s353) hTR (show 0 ≤ (I 3905) by omega)) (t_N_mk12 t_up_same (show 0 ≤ (I 3905) by omega) (show (I 3905) ≤ v378 by omega) (show 0 ≤ (8 * (24 - (I 2775)) + (0)) by omega) (m_hw (show m_RK lo308 (I 3905) v378 (8 * (24 - (I 2775)) + (-1)) from fun q q1 q2 => (show m_RK lo308 (I 3905) (I306a 3905) (8 * (24 - (I 2775)) + (-1)) from rk354) q (show (I 3905) ≤ q by omega) (show q < (I306a 3905) by omega)) (m_r8l (by decide))) ⟨((show v245 = -1 ∨ m_kd lo308 (w_up (w_up (w_up I306a 2774 ((I306a 2774) + 1)) 2775 ((I306a 2775) - 1)) 4289 ((I 4289))) A306a (I 3905) (8 * (24 - ((I 2775) + 1 + 1)) + 0) v245 (fun k => k = 28) from o355).imp_right (fun q => m_ch f383 (show (I 3905) ≤ (I 3905) by omega) q)), m_ch f383 (show (I 3905) ≤ (I244a 3905) by omega) k356, ((show v245 = -1 ∨ m_kd lo308 (w_up (w_up (w_up I306a 2774 ((I306a 2774) + 1)) 2775 ((I306a 2775) - 1)) 4289 ((I 4289))) A306a (I 3905) (8 * (24 - ((I 2775) + 1 + 1)) + 0) v245 (fun k => k = 28) from o355).imp_right (fun q => m_od f383 k356 (show v245 < (I244a 3905) by have := q.1; omega))), (by omega)⟩)
                  have s400 : m_ST lo I A (t_up lo308 v378 (I 3905) (8 * (24 - (I 2775)) + (0))) I377a A377a := m_ST_nd (l := (I 3905)) (show m_ST lo I A lo308 (w_up (w_up (w_up I306a 2774 ((I306a 2774) + 1)) 2775 ((I306a 2775) - 1)) 4289 ((I 4289))) A306a from s353) f383 (show (I 3905) ≤ (I 3905) by omega) (show (I 3905) ≤ (I306a 3905) by omega)
                  have rk401 : m_RK (t_up lo308 v378 (I 3905) (8 * (24 - (I 2775)) + (0))) (I 3905) (I377a 3905) (8 * (24 - (I 2775)) + (0)) := fun q q1 q2 => m_RK_nd (show m_RK lo308 (I 3905) v378 (8 * (24 - (I 2775)) + (-1)) from fun q q1 q2 => (show m_RK lo308 (I 3905) (I306a 3905) (8 * (24 - (I 2775)) + (-1)) from rk354) q q1 (show q < (I306a 3905) by omega)) (m_r8 (by decide)) (m_r8 (by decide)) q q1 (show q < v378 + 1 by omega)
                  have k402 : m_kd (t_up lo308 v378 (I 3905) (8 * (24 - (I 2775)) + (0))) I377a A377a (I 3905) (8 * (24 - (I 2775)) + (0)) v378 (fun k => k = 12) := m_kd_new f383 (show 0 ≤ (I 3905) by omega) (show (I 3905) ≤ v378 by omega) rfl
                  have rt403 : m_rt (t_up lo308 v378 (I 3905) (8 * (24 - (I 2775)) + (0))) (I377a 3905) v378 := m_rt_new f383
                  show w_W _ _ _ (97, [(4, .int (Int32.ofInt (v307))), (3, .int (Int32.ofInt (v245))), (2, .int (Int32.ofInt ((I 4289)))), (1, .int (Int32.ofInt (0))), (0, .ref 43)], [.int (Int32.ofInt (v378))], M376) _
                  refine w_fin (r := .inl (some (v378))) (M' := M376) rfl ?_
                  exact Or.inl ⟨v378, (t_up lo308 v378 (I 3905) (8 * (24 - (I 2775)) + (0))), I377a, A377a, B377a, C377a, rfl, ⟨by omega, by omega⟩, hR377a, (show m_fx I A I377a A377a by exact (m_fx_trans (m_fx_trans f250 f312) f382)), (show ((0 ≤ (I377a 2774) ∧ (I377a 2774) < (I377a 2754) ∧ (I377a 2754) ≤ 1501 ∧ 0 ≤ (I377a 2775) ∧ (I377a 2775) ≤ 24) ∧ ((I377a 3393) = (I377a 3905) ∧ (I377a 3521) = (I377a 3905) ∧ (I377a 3649) = (I377a 3905) ∧ (I377a 3777) = (I377a 3905) ∧ 0 ≤ (I377a 3905) ∧ (I377a 3905) ≤ 3 * (I377a 2774)) ∧ ((I377a 4161) = (I377a 4033) ∧ 7 ≤ (I377a 4289) ∧ (I377a 4289) ≤ (I377a 4033) ∧ (I377a 4033) ≤ 7 + (I377a 2774)) ∧ 0 ≤ (I377a 5889) ∧ (I377a 5889) ≤ (I377a 2774)) ∧ ((I377a 2754) = (I 2754) ∧ (I 2774) + 1 ≤ (I377a 2774) ∧ (I377a 2775) = (I 2775) ∧ (I377a 4289) = (I 4289) + 0 ∧ (I377a 5889) = (I 5889)) ∧ ((I377a 3905) + 2 ≤ (I 3905) + 3 * ((I377a 2774) - (I 2774)) ∧ (I 3905) ≤ v378 ∧ v378 + 1 = (I377a 3905) ∧ (I 4033) ≤ (I377a 4033) ∧ (I377a 4033) ≤ (I 4033) + ((I377a 2774) - (I 2774))) by (repeat' apply And.intro) <;> first | assumption | omega), (show m_SC I377a A377a by exact sc398), (show m_TR (t_up lo308 v378 (I 3905) (8 * (24 - (I 2775)) + (0))) I377a A377a by exact tr399), (show m_ST lo I A (t_up lo308 v378 (I 3905) (8 * (24 - (I 2775)) + (0))) I377a A377a by exact s400), (show t_E ((A377a 53) (v378)) by exact ((m_kd_K k402 (fun k h => by have h : k = 12 := h; unfold t_E; omega))).2), (show m_rt (t_up lo308 v378 (I 3905) (8 * (24 - (I 2775)) + (0))) (I377a 3905) v378 by exact rt403), (show m_RK (t_up lo308 v378 (I 3905) (8 * (24 - (I 2775)) + (0))) (I 3905) (I377a 3905) (8 * (24 - (I 2775)) + 0) by exact m_RK_le (show m_RK (t_up lo308 v378 (I 3905) (8 * (24 - (I 2775)) + (0))) (I 3905) (I377a 3905) (8 * (24 - (I 2775)) + (0)) from rk401) (show (8 * (24 - (I 2775)) + (0)) ≤ 8 * (24 - (I 2775)) + 0 by omega))⟩
                · rw [e367]
                  replace hR364b : w_Rep w_TM fr X u l I364b A364b B364b C364b M363 := hR364b
                  replace f368 : m_fx I306a A306a I364b A364b := f368
                  exact Or.inr (⟨I364b, A364b, B364b, C364b, rfl, hR364b, (show m_fx I A I364b A364b by exact (m_fx_trans (m_fx_trans f250 f312) f368))⟩)
              · rw [e320]
                replace hR306b : w_Rep w_TM fr X u l I306b A306b B306b C306b M305 := hR306b
                replace f321 : m_fx (w_up (w_up I244a 2774 ((I244a 2774) + 1)) 2775 ((I244a 2775) - 1)) A244a I306b A306b := f321
                exact Or.inr (⟨I306b, A306b, B306b, C306b, rfl, hR306b, (show m_fx I A I306b A306b by exact (m_fx_trans f250 f321))⟩)
            · rw [e299]
              replace hR296b : w_Rep w_TM fr X u l I296b A296b B296b C296b M295 := hR296b
              replace f300 : m_fx I244a A244a I296b A296b := f300
              exact Or.inr (⟨I296b, A296b, B296b, C296b, rfl, hR296b, (show m_fx I A I296b A296b by exact (m_fx_trans f250 f300))⟩)
          · rw [e258]
            replace hR244b : w_Rep w_TM fr X u l I244b A244b B244b C244b M243 := hR244b
            replace f259 : m_fx (w_up (w_up I 2775 ((I 2775) + 1 + 1)) 2774 ((I 2774) + 1 + 1)) A I244b A244b := f259
            exact Or.inr (⟨I244b, A244b, B244b, C244b, rfl, hR244b, (show m_fx I A I244b A244b by exact f259)⟩)
        · rw [e239]
          replace hR236b : w_Rep w_TM fr X u l I236b A236b B236b C236b M235 := hR236b
          replace f240 : m_fx (w_up (w_up I 2775 ((I 2775) + 1)) 2774 ((I 2774) + 1)) A I236b A236b := f240
          exact Or.inr (⟨I236b, A236b, B236b, C236b, rfl, hR236b, (show m_fx I A I236b A236b by exact f240)⟩)
      · rw [e228, e229]
        replace f230 : ¬ ((A 45) ((I 2774) + 1) = 6 ∧ (A 46) ((I 2774) + 1) = 123) := f230
        show w_W _ _ _ (25, [(2, .int (Int32.ofInt ((I 4289)))), (1, .int (Int32.ofInt (0))), (0, .ref 43)], [.int (Int32.ofInt (0))], M215) _
        refine w_adv (n := 3) (F' := (30, [(2, .int (Int32.ofInt ((I 4289)))), (1, .int (Int32.ofInt (0))), (0, .ref 43)], [.int (Int32.ofInt (1)), .ref 43], M215)) rfl ?_
        refine w_call (cm := 232) (as := [(0, .ref 43), (1, .int (Int32.ofInt (1)))]) (rest := []) (o := some (9, 43)) rfl (w_fitR hR216a rfl) (m_fail (1) hR216a ⟨by omega, by omega⟩ (show 0 ≤ (I 2774) + 1 ∧ (I 2774) + 1 < 1501 by omega) (show 1 ≤ 1 ∧ 1 ≤ 7 by first | assumption | omega)) (fun r404 M405 q406 => ?_)
        rcases q406 with ⟨I406a, A406a, B406a, C406a, e407, hR406a, f408⟩
        rw [e407]
        replace hR406a : w_Rep w_TM fr X u l I406a A406a B406a C406a M405 := hR406a
        replace f408 : m_fx (w_up (w_up I 2775 ((I 2775) + 1)) 2774 ((I 2774) + 1)) A I406a A406a := f408
        exact Or.inr (⟨I406a, A406a, B406a, C406a, rfl, hR406a, (show m_fx I A I406a A406a by exact f408)⟩)
    · rw [e219]
      replace hR216b : w_Rep w_TM fr X u l I216b A216b B216b C216b M215 := hR216b
      replace f220 : m_fx I A I216b A216b := f220
      exact Or.inr (⟨I216b, A216b, B216b, C216b, rfl, hR216b, (show m_fx I A I216b A216b by exact f220)⟩)
