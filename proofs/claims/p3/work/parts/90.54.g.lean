def m_procedure_Q (fr : Nat → Bool) (X : Nat → Option (q_C (Nat → Int32))) (u l : Nat) (I : Nat → Int) (A : Nat → Int → Int) (B C : Nat → Nat) (M : w_M) (lo : Int → Int × Int) : w_X → w_M → Prop := fun r M' => (∃ v : Int, ∃ lo' : Int → Int × Int, ∃ (I' : Nat → Int) (A' : Nat → Int → Int) (B' C' : Nat → Nat), (r = .inl (some v)) ∧ (w_in v) ∧ (w_Rep w_TM fr X u l I' A' B' C' M') ∧ (m_fx I A I' A') ∧ (((0 ≤ (I' 2774) ∧ (I' 2774) < (I' 2754) ∧ (I' 2754) ≤ 1501 ∧ 0 ≤ (I' 2775) ∧ (I' 2775) ≤ 24) ∧ ((I' 3393) = (I' 3905) ∧ (I' 3521) = (I' 3905) ∧ (I' 3649) = (I' 3905) ∧ (I' 3777) = (I' 3905) ∧ 0 ≤ (I' 3905) ∧ (I' 3905) ≤ 3 * (I' 2774)) ∧ ((I' 4161) = (I' 4033) ∧ 7 ≤ (I' 4289) ∧ (I' 4289) ≤ (I' 4033) ∧ (I' 4033) ≤ 7 + (I' 2774)) ∧ 0 ≤ (I' 5889) ∧ (I' 5889) ≤ (I' 2774)) ∧ ((I' 2754) = (I 2754) ∧ (I 2774) + 1 ≤ (I' 2774) ∧ (I' 2775) = (I 2775) ∧ (I' 4289) = (I 4289) + 0 ∧ (I' 5889) = (I 5889)) ∧ ((I' 3905) + 2 ≤ (I 3905) + 3 * ((I' 2774) - (I 2774)) ∧ (I 3905) ≤ v ∧ v + 1 = (I' 3905) ∧ (I 4033) ≤ (I' 4033) ∧ (I' 4033) ≤ (I 4033) + ((I' 2774) - (I 2774)))) ∧ (m_SC I' A') ∧ (m_TR lo' I' A') ∧ (m_ST lo I A lo' I' A') ∧ (t_E ((A' 53) (v))) ∧ (m_rt lo' (I' 3905) v) ∧ (m_RK lo' (I 3905) (I' 3905) (8 * (24 - (I 2775)) + 0))) ∨ (∃ (I' : Nat → Int) (A' : Nat → Int → Int) (B' C' : Nat → Nat), (r = .inr 69) ∧ (w_Rep w_TM fr X u l I' A' B' C' M') ∧ (m_fx I A I' A'))
set_option maxHeartbeats 100000000 in
set_option maxRecDepth 100000 in
theorem m_procedure {L : Nat} {xs : Nat → Int32} {d : Nat} {fr : Nat → Bool} {X : Nat → Option (q_C (Nat → Int32))} {u l : Nat} {I : Nat → Int} {A : Nat → Int → Int} {B C : Nat → Nat} {M : w_M} {N : Int} (hA : m_all L xs N) (lo : Int → Int × Int) (hR : w_Rep w_TM fr X u l I A B C M) (hd : 20 * (24 - (I 2775)) + 11 ≤ (d : Int)) (hTK : m_TK I A) (hNU : (0 ≤ (I 2774) ∧ (I 2774) < (I 2754) ∧ (I 2754) ≤ 1501 ∧ 0 ≤ (I 2775) ∧ (I 2775) ≤ 24) ∧ ((I 3393) = (I 3905) ∧ (I 3521) = (I 3905) ∧ (I 3649) = (I 3905) ∧ (I 3777) = (I 3905) ∧ 0 ≤ (I 3905) ∧ (I 3905) ≤ 3 * (I 2774)) ∧ ((I 4161) = (I 4033) ∧ 7 ≤ (I 4289) ∧ (I 4289) ≤ (I 4033) ∧ (I 4033) ≤ 7 + (I 2774)) ∧ 0 ≤ (I 5889) ∧ (I 5889) ≤ (I 2774)) (hSC : m_SC I A) (hTR : m_TR lo I A) (hk : 1 ≤ (A 45) ((I 2774)) ∧ (A 45) ((I 2774)) ≤ 6) (hm : (I 2754) - (I 2774) ≤ N) : w_W (z_P L xs) d 267 (0, [(0, .ref 43)], [], M) (m_procedure_Q fr X u l I A B C M lo) := by
  obtain ⟨d, rfl⟩ : ∃ d0, d = d0 + 1 := ⟨d - 1, by omega⟩
  have wl : (I 2774) + 1 < (I 2754) := m_TK_lt hTK (by omega) (by omega) (by omega)
  refine w_adv (n := 2) (F' := (3, [(0, .ref 43)], [.int (Int32.ofInt (11)), .ref 43], M)) rfl ?_
  refine w_call (cm := 231) (as := [(0, .ref 43), (1, .int (Int32.ofInt (11)))]) (rest := []) (o := some (9, 43)) rfl (w_fitR hR rfl) (m_isWord (11) hR ⟨by omega, by omega⟩ (show 0 ≤ (I 2774) ∧ (I 2774) < 1501 by omega)) (fun r1 M2 q3 => ?_)
  rcases q3 with ⟨e4, e5, f6⟩ | ⟨e7, e8, f9⟩
  · rw [e4, e5]
    replace f6 : (A 45) ((I 2774)) = 5 ∧ (A 46) ((I 2774)) = 11 := f6
    obtain ⟨n10, n11⟩ := id f6
    clear f6
    have w12 : (I 2774) + 1 < (I 2754) := m_TK_lt hTK (by omega) (by omega) (by omega)
    show w_W _ _ _ (6, [(0, .ref 43)], [.int (Int32.ofInt (1))], M) _
    refine w_adv (n := 2) (F' := (8, [(1, .int (Int32.ofInt (1))), (0, .ref 43)], [.ref 43], M)) rfl ?_
    refine w_gf (v := .ref 67) hR rfl rfl rfl rfl ?_
    refine w_gf (v := .int (Int32.ofInt ((I 4289)))) hR rfl rfl rfl rfl ?_
    obtain ⟨r13, r14⟩ : -2147483648 ≤ (I 4289) ∧ (I 4289) ≤ 2147483647 := hR.ri 4289
    obtain ⟨r15a, r15b, r15c⟩ : 0 ≤ (I 4289) ∧ (I 4289) ≤ (C 67 : Int) ∧ (C 67 : Int) ≤ 131072 := hR.sz (show 67 ∈ w_TM.2.2 by decide)
    refine w_adv (n := 2) (F' := (16, [(2, .int (Int32.ofInt ((I 4289)))), (1, .int (Int32.ofInt (1))), (0, .ref 43)], [.ref 43], M)) rfl ?_
    refine w_call (cm := 235) (as := [(0, .ref 43)]) (rest := []) (o := some (9, 43)) rfl (w_fitR hR rfl) (m_enter hR (show 2 ≤ d by omega) (show 0 ≤ (I 2774) ∧ (I 2774) < 1501 by omega) (show 0 ≤ (I 2775) ∧ (I 2775) ≤ 24 by first | assumption | omega)) (fun r16 M17 q18 => ?_)
    rcases q18 with ⟨e19, hR18a, f20⟩ | ⟨I18b, A18b, B18b, C18b, e21, hR18b, f22⟩
    · rw [e19]
      replace hR18a : w_Rep w_TM fr X u l (w_up (w_up I 2775 ((I 2775) + 1)) 2774 ((I 2774) + 1)) A B C M17 := hR18a
      replace f20 : (I 2775) < 24 := f20
      have w23 : (I 2774) + 1 < (I 2754) := m_TK_lt hTK (show (I 2774) < (I 2754) by omega) (show 1 ≤ (A 45) ((I 2774)) by omega) (show (A 45) ((I 2774)) ≤ 6 by omega)
      show w_W _ _ _ (19, [(2, .int (Int32.ofInt ((I 4289)))), (1, .int (Int32.ofInt (1))), (0, .ref 43)], [], M17) _
      refine w_adv (n := 2) (F' := (22, [(2, .int (Int32.ofInt ((I 4289)))), (1, .int (Int32.ofInt (1))), (0, .ref 43)], [.int (Int32.ofInt (123)), .ref 43], M17)) rfl ?_
      refine w_call (cm := 230) (as := [(0, .ref 43), (1, .int (Int32.ofInt (123)))]) (rest := []) (o := some (9, 43)) rfl (w_fitR hR18a rfl) (m_isSign (123) hR18a ⟨by omega, by omega⟩ (show 0 ≤ (I 2774) + 1 ∧ (I 2774) + 1 < 1501 by omega)) (fun r24 M25 q26 => ?_)
      rcases q26 with ⟨e27, e28, f29⟩ | ⟨e30, e31, f32⟩
      · rw [e27, e28]
        replace f29 : (A 45) ((I 2774) + 1) = 6 ∧ (A 46) ((I 2774) + 1) = 123 := f29
        obtain ⟨n33, n34⟩ := id f29
        clear f29
        have w35 : ((I 2774) + 1) + 1 < (I 2754) := m_TK_lt hTK (by omega) (by omega) (by omega)
        show w_W _ _ _ (25, [(2, .int (Int32.ofInt ((I 4289)))), (1, .int (Int32.ofInt (1))), (0, .ref 43)], [.int (Int32.ofInt (1))], M17) _
        refine w_adv (n := 2) (F' := (34, [(2, .int (Int32.ofInt ((I 4289)))), (1, .int (Int32.ofInt (1))), (0, .ref 43)], [.ref 43], M17)) rfl ?_
        refine w_call (cm := 235) (as := [(0, .ref 43)]) (rest := []) (o := some (9, 43)) rfl (w_fitR hR18a rfl) (m_enter hR18a (show 2 ≤ d by omega) (show 0 ≤ (I 2774) + 1 ∧ (I 2774) + 1 < 1501 by omega) (show 0 ≤ (I 2775) + 1 ∧ (I 2775) + 1 ≤ 24 by first | assumption | omega)) (fun r36 M37 q38 => ?_)
        rcases q38 with ⟨e39, hR38a, f40⟩ | ⟨I38b, A38b, B38b, C38b, e41, hR38b, f42⟩
        · rw [e39]
          replace hR38a : w_Rep w_TM fr X u l (w_up (w_up I 2775 ((I 2775) + 1 + 1)) 2774 ((I 2774) + 1 + 1)) A B C M37 := w_Rep.up hR38a (show (w_up (w_up I 2775 ((I 2775) + 1 + 1)) 2774 ((I 2774) + 1 + 1)) = _ from (funext fun s => if e0 : s = 2774 then (by subst e0; rfl) else if e1 : s = 2775 then (by subst e1; rfl) else (by simp only [w_up_ne e0, w_up_ne e1]))) rfl
          replace f40 : (I 2775) + 1 < 24 := f40
          have w43 : ((I 2774) + 1) + 1 < (I 2754) := m_TK_lt hTK (show (I 2774) + 1 < (I 2754) by omega) (show 1 ≤ (A 45) ((I 2774) + 1) by omega) (show (A 45) ((I 2774) + 1) ≤ 6 by omega)
          show w_W _ _ _ (37, [(2, .int (Int32.ofInt ((I 4289)))), (1, .int (Int32.ofInt (1))), (0, .ref 43)], [], M37) _
          refine w_adv (n := 1) (F' := (38, [(2, .int (Int32.ofInt ((I 4289)))), (1, .int (Int32.ofInt (1))), (0, .ref 43)], [.ref 43], M37)) rfl ?_
          refine w_call (cm := 236) (as := [(0, .ref 43)]) (rest := []) (o := some (9, 43)) rfl (w_fitR hR38a rfl) (m_binds (lo) hR38a (show 20 * (24 - ((I 2775) + 1 + 1)) + 8 ≤ (d : Int) by omega) (show m_TK (w_up (w_up I 2775 ((I 2775) + 1 + 1)) 2774 ((I 2774) + 1 + 1)) A by exact hTK) (show (0 ≤ (I 2774) + 1 + 1 ∧ (I 2774) + 1 + 1 < (I 2754) ∧ (I 2754) ≤ 1501 ∧ 0 ≤ (I 2775) + 1 + 1 ∧ (I 2775) + 1 + 1 ≤ 24) ∧ ((I 3393) = (I 3905) ∧ (I 3521) = (I 3905) ∧ (I 3649) = (I 3905) ∧ (I 3777) = (I 3905) ∧ 0 ≤ (I 3905) ∧ (I 3905) ≤ 3 * ((I 2774) + 1 + 1)) ∧ ((I 4161) = (I 4033) ∧ 7 ≤ (I 4289) ∧ (I 4289) ≤ (I 4033) ∧ (I 4033) ≤ 7 + ((I 2774) + 1 + 1)) ∧ 0 ≤ (I 5889) ∧ (I 5889) ≤ (I 2774) + 1 + 1 by (repeat' apply And.intro) <;> first | assumption | omega) (show m_SC (w_up (w_up I 2775 ((I 2775) + 1 + 1)) 2774 ((I 2774) + 1 + 1)) A by exact hSC) (show m_TR lo (w_up (w_up I 2775 ((I 2775) + 1 + 1)) 2774 ((I 2774) + 1 + 1)) A by exact hTR)) (fun r44 M45 q46 => ?_)
          rcases q46 with ⟨v47, lo48, I46a, A46a, B46a, C46a, e49, ⟨r50, r51⟩, hR46a, f52, f53, f54, f55, f56, f57, f58, f59⟩ | ⟨I46b, A46b, B46b, C46b, e60, hR46b, f61⟩
          · rw [e49]
            replace hR46a : w_Rep w_TM fr X u l I46a A46a B46a C46a M45 := hR46a
            replace f52 : m_fx (w_up (w_up I 2775 ((I 2775) + 1 + 1)) 2774 ((I 2774) + 1 + 1)) A I46a A46a := f52
            replace f53 : ((0 ≤ (I46a 2774) ∧ (I46a 2774) < (I46a 2754) ∧ (I46a 2754) ≤ 1501 ∧ 0 ≤ (I46a 2775) ∧ (I46a 2775) ≤ 24) ∧ ((I46a 3393) = (I46a 3905) ∧ (I46a 3521) = (I46a 3905) ∧ (I46a 3649) = (I46a 3905) ∧ (I46a 3777) = (I46a 3905) ∧ 0 ≤ (I46a 3905) ∧ (I46a 3905) ≤ 3 * (I46a 2774)) ∧ ((I46a 4161) = (I46a 4033) ∧ 7 ≤ (I46a 4289) ∧ (I46a 4289) ≤ (I46a 4033) ∧ (I46a 4033) ≤ 7 + (I46a 2774)) ∧ 0 ≤ (I46a 5889) ∧ (I46a 5889) ≤ (I46a 2774)) ∧ ((I46a 2754) = (I 2754) ∧ ((I 2774) + 1 + 1) + 0 ≤ (I46a 2774) ∧ (I46a 2775) = (I 2775) + 1 + 1 ∧ (I 4289) ≤ (I46a 4289) ∧ (I46a 5889) = (I 5889)) ∧ ((I46a 3905) + 0 ≤ (I 3905) + 3 * ((I46a 2774) - ((I 2774) + 1 + 1)) ∧ (I 3905) ≤ (I46a 3905) ∧ -1 ≤ v47 ∧ v47 < (I46a 3905) ∧ (I 4033) ≤ (I46a 4033) ∧ (I46a 4033) ≤ (I 4033) + ((I46a 2774) - ((I 2774) + 1 + 1))) := f53
            obtain ⟨⟨⟨n62, n63, n64, n65, n66⟩, ⟨n67, n68, n69, n70, n71, n72⟩, ⟨n73, n74, n75, n76⟩, n77, n78⟩, ⟨n79, n80, n81, n82, n83⟩, ⟨n84, n85, n86, n87, n88, n89⟩⟩ := id f53
            clear f53
            replace f54 : m_SC I46a A46a := f54
            replace f55 : m_TR lo48 I46a A46a := f55
            replace f56 : m_ST lo (w_up (w_up I 2775 ((I 2775) + 1 + 1)) 2774 ((I 2774) + 1 + 1)) A lo48 I46a A46a := f56
            replace f57 : v47 = -1 ∨ m_kd lo48 I46a A46a (I 3905) (8 * (24 - ((I 2775) + 1 + 1)) + 0) v47 (fun k => k = 28) := f57
            replace f58 : v47 = -1 ∨ m_rt lo48 (I46a 3905) v47 := f58
            replace f59 : m_RK lo48 (I 3905) (I46a 3905) (8 * (24 - ((I 2775) + 1 + 1)) + 0) := f59
            have tk90 : m_TK I46a A46a := m_TK_fx f52 hTK
            have nn91 : (I 3905) ≤ (I46a 3905) := by omega
            have nz92 : 0 ≤ (I 3905) := by first | assumption | omega
            have ho93 : (I 2775) + 1 + 1 = (I 2775) + (2) := by omega
            have rk95 : m_RK lo48 (I 3905) (I46a 3905) (8 * (24 - (I 2775)) + (-16)) := m_RK_app (I := (w_up (w_up I 2775 ((I 2775) + 1 + 1)) 2774 ((I 2774) + 1 + 1))) (I' := I46a) (R := (8 * (24 - (I 2775)) + (-16))) (show m_RK lo (I 3905) (I 3905) (8 * (24 - (I 2775)) + (-16)) from fun q q1 q2 => by omega) f56 f59 (show 0 ≤ (I 3905) by first | assumption | omega) (m_r8 (by decide)) (m_r8o (k := 2) ho93 (by decide))
            have s94 : m_ST lo I A lo48 I46a A46a := f56
            show w_W _ _ _ (41, [(2, .int (Int32.ofInt ((I 4289)))), (1, .int (Int32.ofInt (1))), (0, .ref 43)], [.int (Int32.ofInt (v47))], M45) _
            refine w_adv (n := 3) (F' := (45, [(3, .int (Int32.ofInt (v47))), (2, .int (Int32.ofInt ((I 4289)))), (1, .int (Int32.ofInt (1))), (0, .ref 43)], [.int (Int32.ofInt (125)), .ref 43], M45)) rfl ?_
            refine w_call (cm := 264) (as := [(0, .ref 43), (1, .int (Int32.ofInt (125)))]) (rest := []) (o := some (9, 43)) rfl (w_fitR hR46a rfl) (m_closeSign (125) hR46a (show 3 ≤ d by omega) ⟨by omega, by omega⟩ (show 0 ≤ (I46a 2774) ∧ (I46a 2774) < 1501 by omega) (show 1 ≤ (I46a 2775) ∧ (I46a 2775) ≤ 24 by first | assumption | omega)) (fun r96 M97 q98 => ?_)
            rcases q98 with ⟨e99, hR98a, f100⟩ | ⟨I98b, A98b, B98b, C98b, e101, hR98b, f102⟩
            · rw [e99]
              replace hR98a : w_Rep w_TM fr X u l (w_up (w_up I46a 2774 ((I46a 2774) + 1)) 2775 ((I46a 2775) - 1)) A46a B46a C46a M97 := hR98a
              replace f100 : (A46a 45) ((I46a 2774)) = 6 ∧ (A46a 46) ((I46a 2774)) = 125 := f100
              obtain ⟨n103, n104⟩ := id f100
              clear f100
              have w105 : (I46a 2774) + 1 < (I46a 2754) := m_TK_lt tk90 (show (I46a 2774) < (I46a 2754) by omega) (show 1 ≤ (A46a 45) ((I46a 2774)) by omega) (show (A46a 45) ((I46a 2774)) ≤ 6 by omega)
              show w_W _ _ _ (48, [(3, .int (Int32.ofInt (v47))), (2, .int (Int32.ofInt ((I 4289)))), (1, .int (Int32.ofInt (1))), (0, .ref 43)], [], M97) _
              refine w_adv (n := 3) (F' := (53, [(3, .int (Int32.ofInt (v47))), (2, .int (Int32.ofInt ((I 4289)))), (1, .int (Int32.ofInt (1))), (0, .ref 43)], [.ref 43], M97)) rfl ?_
              refine w_call (cm := 243) (as := [(0, .ref 43)]) (rest := []) (o := some (9, 43)) rfl (w_fitR hR98a rfl) (hA.2.2 (lo48) hR98a (show 20 * (24 - ((I46a 2775) - 1)) + 20 ≤ (d : Int) by omega) (show m_TK (w_up (w_up I46a 2774 ((I46a 2774) + 1)) 2775 ((I46a 2775) - 1)) A46a by exact tk90) (show (0 ≤ (I46a 2774) + 1 ∧ (I46a 2774) + 1 < (I46a 2754) ∧ (I46a 2754) ≤ 1501 ∧ 0 ≤ (I46a 2775) - 1 ∧ (I46a 2775) - 1 ≤ 24) ∧ ((I46a 3393) = (I46a 3905) ∧ (I46a 3521) = (I46a 3905) ∧ (I46a 3649) = (I46a 3905) ∧ (I46a 3777) = (I46a 3905) ∧ 0 ≤ (I46a 3905) ∧ (I46a 3905) ≤ 3 * ((I46a 2774) + 1)) ∧ ((I46a 4161) = (I46a 4033) ∧ 7 ≤ (I46a 4289) ∧ (I46a 4289) ≤ (I46a 4033) ∧ (I46a 4033) ≤ 7 + ((I46a 2774) + 1)) ∧ 0 ≤ (I46a 5889) ∧ (I46a 5889) ≤ (I46a 2774) + 1 by (repeat' apply And.intro) <;> first | assumption | omega) (show m_SC (w_up (w_up I46a 2774 ((I46a 2774) + 1)) 2775 ((I46a 2775) - 1)) A46a by exact f54) (show m_TR lo48 (w_up (w_up I46a 2774 ((I46a 2774) + 1)) 2775 ((I46a 2775) - 1)) A46a by exact f55) (show (I46a 2754) - ((I46a 2774) + 1) < N by first | assumption | omega)) (fun r106 M107 q108 => ?_)
              rcases q108 with ⟨v109, lo110, I108a, A108a, B108a, C108a, e111, ⟨r112, r113⟩, hR108a, f114, f115, f116, f117, f118, f119, f120, f121⟩ | ⟨I108b, A108b, B108b, C108b, e122, hR108b, f123⟩
              · rw [e111]
                replace hR108a : w_Rep w_TM fr X u l I108a A108a B108a C108a M107 := hR108a
                replace f114 : m_fx (w_up (w_up I46a 2774 ((I46a 2774) + 1)) 2775 ((I46a 2775) - 1)) A46a I108a A108a := f114
                replace f115 : ((0 ≤ (I108a 2774) ∧ (I108a 2774) < (I108a 2754) ∧ (I108a 2754) ≤ 1501 ∧ 0 ≤ (I108a 2775) ∧ (I108a 2775) ≤ 24) ∧ ((I108a 3393) = (I108a 3905) ∧ (I108a 3521) = (I108a 3905) ∧ (I108a 3649) = (I108a 3905) ∧ (I108a 3777) = (I108a 3905) ∧ 0 ≤ (I108a 3905) ∧ (I108a 3905) ≤ 3 * (I108a 2774)) ∧ ((I108a 4161) = (I108a 4033) ∧ 7 ≤ (I108a 4289) ∧ (I108a 4289) ≤ (I108a 4033) ∧ (I108a 4033) ≤ 7 + (I108a 2774)) ∧ 0 ≤ (I108a 5889) ∧ (I108a 5889) ≤ (I108a 2774)) ∧ ((I108a 2754) = (I46a 2754) ∧ ((I46a 2774) + 1) + 1 ≤ (I108a 2774) ∧ (I108a 2775) = (I46a 2775) - 1 ∧ (I108a 4289) = (I46a 4289) + 0 ∧ (I108a 5889) = (I46a 5889)) ∧ ((I108a 3905) + 1 ≤ (I46a 3905) + 3 * ((I108a 2774) - ((I46a 2774) + 1)) ∧ (I46a 3905) ≤ v109 ∧ v109 + 1 = (I108a 3905) ∧ (I46a 4033) ≤ (I108a 4033) ∧ (I108a 4033) ≤ (I46a 4033) + ((I108a 2774) - ((I46a 2774) + 1))) := f115
                obtain ⟨⟨⟨n124, n125, n126, n127, n128⟩, ⟨n129, n130, n131, n132, n133, n134⟩, ⟨n135, n136, n137, n138⟩, n139, n140⟩, ⟨n141, n142, n143, n144, n145⟩, ⟨n146, n147, n148, n149, n150⟩⟩ := id f115
                clear f115
                replace f116 : m_SC I108a A108a := f116
                replace f117 : m_TR lo110 I108a A108a := f117
                replace f118 : m_ST lo48 (w_up (w_up I46a 2774 ((I46a 2774) + 1)) 2775 ((I46a 2775) - 1)) A46a lo110 I108a A108a := f118
                replace f119 : (fun k => k = 19) ((A108a 53) (v109)) := f119
                replace f120 : m_rt lo110 (I108a 3905) v109 := f120
                replace f121 : m_RK lo110 (I46a 3905) (I108a 3905) (8 * (24 - ((I46a 2775) - 1)) + 7) := f121
                have tk151 : m_TK I108a A108a := m_TK_fx f114 tk90
                have nn152 : (I46a 3905) ≤ (I108a 3905) := by omega
                have nz153 : 0 ≤ (I46a 3905) := by first | assumption | omega
                have ho154 : (I46a 2775) - 1 = (I 2775) + (1) := by omega
                have rk156 : m_RK lo110 (I 3905) (I108a 3905) (8 * (24 - (I 2775)) + (-1)) := m_RK_app (I := (w_up (w_up I46a 2774 ((I46a 2774) + 1)) 2775 ((I46a 2775) - 1))) (I' := I108a) (R := (8 * (24 - (I 2775)) + (-16))) (show m_RK lo48 (I 3905) (I46a 3905) (8 * (24 - (I 2775)) + (-16)) from rk95) f118 f121 (show 0 ≤ (I 3905) by first | assumption | omega) (m_r8 (by decide)) (m_r8o (k := 1) ho154 (by decide))
                have s155 : m_ST lo I A lo110 I108a A108a := m_ST_trans (show m_ST lo I A lo48 (w_up (w_up I46a 2774 ((I46a 2774) + 1)) 2775 ((I46a 2775) - 1)) A46a from s94) f118 (show 0 ≤ (I 3905) by first | assumption | omega) (show (I 3905) ≤ (I46a 3905) by first | assumption | omega) (show (I 4289) ≤ (I46a 4289) by first | assumption | omega) (show (I 5889) ≤ (I46a 5889) by first | assumption | omega)
                have o157 : v47 = -1 ∨ m_kd lo110 I108a A108a (I 3905) (8 * (24 - ((I 2775) + 1 + 1)) + 0) v47 (fun k => k = 28) := (show v47 = -1 ∨ m_kd lo48 (w_up (w_up I46a 2774 ((I46a 2774) + 1)) 2775 ((I46a 2775) - 1)) A46a (I 3905) (8 * (24 - ((I 2775) + 1 + 1)) + 0) v47 (fun k => k = 28) from f57).imp_right (fun q => m_kd_ST f118 nn152 q)
                have k158 : m_kd lo110 I108a A108a (I46a 3905) (8 * (24 - ((I46a 2775) - 1)) + 7) v109 (fun k => k = 19) := m_kd_of f118 f117 nz153 (show (I46a 3905) ≤ v109 by first | assumption | omega) (show v109 < (I108a 3905) by omega) f119 f121
                obtain ⟨j159, j160, j161, j162, j163⟩ := k158.1
                show w_W _ _ _ (56, [(3, .int (Int32.ofInt (v47))), (2, .int (Int32.ofInt ((I 4289)))), (1, .int (Int32.ofInt (1))), (0, .ref 43)], [.int (Int32.ofInt (v109))], M107) _
                refine w_adv (n := 4) (F' := (67, [(4, .int (Int32.ofInt (v109))), (3, .int (Int32.ofInt (v47))), (2, .int (Int32.ofInt ((I 4289)))), (1, .int (Int32.ofInt (1))), (0, .ref 43)], [.int (Int32.ofInt (3)), .ref 43], M107)) rfl ?_
                refine w_call (cm := 244) (as := [(0, .ref 43), (1, .int (Int32.ofInt (3)))]) (rest := []) (o := some (9, 43)) rfl (w_fitR hR108a rfl) (m_closeWord (3) hR108a (show 3 ≤ d by omega) ⟨by omega, by omega⟩ (show 0 ≤ (I108a 2774) ∧ (I108a 2774) < 1501 by omega) (show 1 ≤ (I108a 2775) ∧ (I108a 2775) ≤ 24 by first | assumption | omega)) (fun r164 M165 q166 => ?_)
                rcases q166 with ⟨e167, hR166a, f168⟩ | ⟨I166b, A166b, B166b, C166b, e169, hR166b, f170⟩
                · rw [e167]
                  replace hR166a : w_Rep w_TM fr X u l (w_up (w_up I108a 2774 ((I108a 2774) + 1)) 2775 ((I108a 2775) - 1)) A108a B108a C108a M165 := hR166a
                  replace f168 : (A108a 45) ((I108a 2774)) = 5 ∧ (A108a 46) ((I108a 2774)) = 3 := f168
                  obtain ⟨n171, n172⟩ := id f168
                  clear f168
                  have w173 : (I108a 2774) + 1 < (I108a 2754) := m_TK_lt tk151 (show (I108a 2774) < (I108a 2754) by omega) (show 1 ≤ (A108a 45) ((I108a 2774)) by omega) (show (A108a 45) ((I108a 2774)) ≤ 6 by omega)
                  show w_W _ _ _ (70, [(4, .int (Int32.ofInt (v109))), (3, .int (Int32.ofInt (v47))), (2, .int (Int32.ofInt ((I 4289)))), (1, .int (Int32.ofInt (1))), (0, .ref 43)], [], M165) _
                  refine w_adv (n := 1) (F' := (71, [(4, .int (Int32.ofInt (v109))), (3, .int (Int32.ofInt (v47))), (2, .int (Int32.ofInt ((I 4289)))), (1, .int (Int32.ofInt (1))), (0, .ref 43)], [.ref 43], M165)) rfl ?_
                  refine w_gf (v := .ref 67) hR166a rfl rfl rfl rfl ?_
                  refine w_adv (n := 1) (F' := (75, [(4, .int (Int32.ofInt (v109))), (3, .int (Int32.ofInt (v47))), (2, .int (Int32.ofInt ((I 4289)))), (1, .int (Int32.ofInt (1))), (0, .ref 43)], [.int (Int32.ofInt ((I 4289))), .ref 67], M165)) rfl ?_
                  obtain ⟨r174a, r174b, r174c⟩ : 0 ≤ (I108a 4289) ∧ (I108a 4289) ≤ (C108a 67 : Int) ∧ (C108a 67 : Int) ≤ 131072 := hR166a.sz (show 67 ∈ w_TM.2.2 by decide)
                  refine w_pf hR166a rfl rfl rfl rfl (show w_in ((I 4289)) from ⟨by omega, by omega⟩) (fun _ _ => (show 0 ≤ (I 4289) ∧ (I 4289) ≤ (C108a 67 : Int) by omega)) (fun M175 hR176 => ?_)
                  replace hR176 : w_Rep w_TM fr X u l (w_up (w_up (w_up I108a 2774 ((I108a 2774) + 1)) 2775 ((I108a 2775) - 1)) 4289 ((I 4289))) A108a B108a C108a M175 := hR176
                  have sc177 : m_SC (w_up (w_up (w_up I108a 2774 ((I108a 2774) + 1)) 2775 ((I108a 2775) - 1)) 4289 ((I 4289))) A108a := m_SC_cut f116 (show (I 4289) ≤ (I108a 4289) by omega) rfl rfl
                  refine w_adv (n := 8) (F' := (94, [(4, .int (Int32.ofInt (v109))), (3, .int (Int32.ofInt (v47))), (2, .int (Int32.ofInt ((I 4289)))), (1, .int (Int32.ofInt (1))), (0, .ref 43)], [.int (Int32.ofInt (0)), .int (Int32.ofInt (v109)), .int (Int32.ofInt (v47)), .int (Int32.ofInt (13)), .ref 43], M175)) rfl ?_
                  refine w_call (cm := 239) (as := [(0, .ref 43), (1, .int (Int32.ofInt (13))), (2, .int (Int32.ofInt (v47))), (3, .int (Int32.ofInt (v109))), (4, .int (Int32.ofInt (0)))]) (rest := []) (o := some (9, 43)) rfl (w_fitR hR176 rfl) (m_node (13) (v47) (v109) (0) hR176 (show 2 ≤ d by omega) ⟨by omega, by omega⟩ ⟨by omega, by omega⟩ ⟨by omega, by omega⟩ ⟨by omega, by omega⟩ (show (I108a 3393) = (I108a 3905) by first | assumption | omega) (show (I108a 3521) = (I108a 3905) by first | assumption | omega) (show (I108a 3649) = (I108a 3905) by first | assumption | omega) (show (I108a 3777) = (I108a 3905) by first | assumption | omega) (show (I108a 3905) < 65536 by first | assumption | omega)) (fun r178 M179 q180 => ?_)
                  rcases q180 with ⟨v181, I180a, A180a, B180a, C180a, e182, ⟨r183, r184⟩, hR180a, f185, f186⟩
                  rw [e182]
                  replace hR180a : w_Rep w_TM fr X u l I180a A180a B180a C180a M179 := hR180a
                  replace f185 : m_fx (w_up (w_up (w_up I108a 2774 ((I108a 2774) + 1)) 2775 ((I108a 2775) - 1)) 4289 ((I 4289))) A108a I180a A180a := f185
                  replace f186 : m_nd (w_up (w_up (w_up I108a 2774 ((I108a 2774) + 1)) 2775 ((I108a 2775) - 1)) 4289 ((I 4289))) A108a I180a A180a v181 13 v47 v109 0 := f186
                  obtain ⟨⟨n187, n188, n189, n190, n191, n192⟩, ⟨n193, n194, n195, n196, n197, n198, n199⟩⟩ : (v181 = (I108a 3905) ∧ (I180a 3905) = (I108a 3905) + 1 ∧ (I180a 3393) = (I108a 3393) + 1 ∧ (I180a 3521) = (I108a 3521) + 1 ∧ (I180a 3649) = (I108a 3649) + 1 ∧ (I180a 3777) = (I108a 3777) + 1) ∧ ((I180a 2774) = (I108a 2774) + 1 ∧ (I180a 2754) = (I108a 2754) ∧ (I180a 2775) = (I108a 2775) - 1 ∧ (I180a 4289) = (I 4289) ∧ (I180a 4033) = (I108a 4033) ∧ (I180a 4161) = (I108a 4161) ∧ (I180a 5889) = (I108a 5889)) := m_nd_num f186
                  have tk200 : m_TK I180a A180a := m_TK_fx f185 tk151
                  have sc201 : m_SC I180a A180a := m_SC_nd f186 sc177
                  have tr202 : m_TR (t_up lo110 v181 (I 3905) (8 * (24 - (I 2775)) + (0))) I180a A180a := m_TR_nd (show m_TR lo110 (w_up (w_up (w_up I108a 2774 ((I108a 2774) + 1)) 2775 ((I108a 2775) - 1)) 4289 ((I 4289))) A108a from f117) f186 (show 0 ≤ (I 3905) by omega) (show (I 3905) ≤ v181 by omega) (m_cl_ST (show m_ST lo I A lo110 (w_up (w_up (w_up I108a 2774 ((I108a 2774) + 1)) 2775 ((I108a 2775) - 1)) 4289 ((I 4289))) A108a from s155) hTR (show 0 ≤ (I 3905) by omega)) (t_N_mk13 t_up_same (show 0 ≤ (I 3905) by omega) (show (I 3905) ≤ v181 by omega) (show 0 ≤ (8 * (24 - (I 2775)) + (0)) by omega) (m_hw (show m_RK lo110 (I 3905) v181 (8 * (24 - (I 2775)) + (-1)) from fun q q1 q2 => (show m_RK lo110 (I 3905) (I108a 3905) (8 * (24 - (I 2775)) + (-1)) from rk156) q (show (I 3905) ≤ q by omega) (show q < (I108a 3905) by omega)) (m_r8l (by decide))) ⟨((show v47 = -1 ∨ m_kd lo110 (w_up (w_up (w_up I108a 2774 ((I108a 2774) + 1)) 2775 ((I108a 2775) - 1)) 4289 ((I 4289))) A108a (I 3905) (8 * (24 - ((I 2775) + 1 + 1)) + 0) v47 (fun k => k = 28) from o157).imp_right (fun q => m_ch f186 (show (I 3905) ≤ (I 3905) by omega) q)), m_ch f186 (show (I 3905) ≤ (I46a 3905) by omega) (show m_kd lo110 (w_up (w_up (w_up I108a 2774 ((I108a 2774) + 1)) 2775 ((I108a 2775) - 1)) 4289 ((I 4289))) A108a (I46a 3905) (8 * (24 - ((I46a 2775) - 1)) + 7) v109 (fun k => k = 19) from k158), ((show v47 = -1 ∨ m_kd lo110 (w_up (w_up (w_up I108a 2774 ((I108a 2774) + 1)) 2775 ((I108a 2775) - 1)) 4289 ((I 4289))) A108a (I 3905) (8 * (24 - ((I 2775) + 1 + 1)) + 0) v47 (fun k => k = 28) from o157).imp_right (fun q => m_od f186 (show m_kd lo110 (w_up (w_up (w_up I108a 2774 ((I108a 2774) + 1)) 2775 ((I108a 2775) - 1)) 4289 ((I 4289))) A108a (I46a 3905) (8 * (24 - ((I46a 2775) - 1)) + 7) v109 (fun k => k = 19) from k158) (show v47 < (I46a 3905) by have := q.1; omega))), (by omega)⟩)
                  have s203 : m_ST lo I A (t_up lo110 v181 (I 3905) (8 * (24 - (I 2775)) + (0))) I180a A180a := m_ST_nd (l := (I 3905)) (show m_ST lo I A lo110 (w_up (w_up (w_up I108a 2774 ((I108a 2774) + 1)) 2775 ((I108a 2775) - 1)) 4289 ((I 4289))) A108a from s155) f186 (show (I 3905) ≤ (I 3905) by omega) (show (I 3905) ≤ (I108a 3905) by omega)
                  have rk204 : m_RK (t_up lo110 v181 (I 3905) (8 * (24 - (I 2775)) + (0))) (I 3905) (I180a 3905) (8 * (24 - (I 2775)) + (0)) := fun q q1 q2 => m_RK_nd (show m_RK lo110 (I 3905) v181 (8 * (24 - (I 2775)) + (-1)) from fun q q1 q2 => (show m_RK lo110 (I 3905) (I108a 3905) (8 * (24 - (I 2775)) + (-1)) from rk156) q q1 (show q < (I108a 3905) by omega)) (m_r8 (by decide)) (m_r8 (by decide)) q q1 (show q < v181 + 1 by omega)
                  have k205 : m_kd (t_up lo110 v181 (I 3905) (8 * (24 - (I 2775)) + (0))) I180a A180a (I 3905) (8 * (24 - (I 2775)) + (0)) v181 (fun k => k = 13) := m_kd_new f186 (show 0 ≤ (I 3905) by omega) (show (I 3905) ≤ v181 by omega) rfl
                  have rt206 : m_rt (t_up lo110 v181 (I 3905) (8 * (24 - (I 2775)) + (0))) (I180a 3905) v181 := m_rt_new f186
                  show w_W _ _ _ (97, [(4, .int (Int32.ofInt (v109))), (3, .int (Int32.ofInt (v47))), (2, .int (Int32.ofInt ((I 4289)))), (1, .int (Int32.ofInt (1))), (0, .ref 43)], [.int (Int32.ofInt (v181))], M179) _
                  refine w_fin (r := .inl (some (v181))) (M' := M179) rfl ?_
                  exact Or.inl ⟨v181, (t_up lo110 v181 (I 3905) (8 * (24 - (I 2775)) + (0))), I180a, A180a, B180a, C180a, rfl, ⟨by omega, by omega⟩, hR180a, (show m_fx I A I180a A180a by exact (m_fx_trans (m_fx_trans f52 f114) f185)), (show ((0 ≤ (I180a 2774) ∧ (I180a 2774) < (I180a 2754) ∧ (I180a 2754) ≤ 1501 ∧ 0 ≤ (I180a 2775) ∧ (I180a 2775) ≤ 24) ∧ ((I180a 3393) = (I180a 3905) ∧ (I180a 3521) = (I180a 3905) ∧ (I180a 3649) = (I180a 3905) ∧ (I180a 3777) = (I180a 3905) ∧ 0 ≤ (I180a 3905) ∧ (I180a 3905) ≤ 3 * (I180a 2774)) ∧ ((I180a 4161) = (I180a 4033) ∧ 7 ≤ (I180a 4289) ∧ (I180a 4289) ≤ (I180a 4033) ∧ (I180a 4033) ≤ 7 + (I180a 2774)) ∧ 0 ≤ (I180a 5889) ∧ (I180a 5889) ≤ (I180a 2774)) ∧ ((I180a 2754) = (I 2754) ∧ (I 2774) + 1 ≤ (I180a 2774) ∧ (I180a 2775) = (I 2775) ∧ (I180a 4289) = (I 4289) + 0 ∧ (I180a 5889) = (I 5889)) ∧ ((I180a 3905) + 2 ≤ (I 3905) + 3 * ((I180a 2774) - (I 2774)) ∧ (I 3905) ≤ v181 ∧ v181 + 1 = (I180a 3905) ∧ (I 4033) ≤ (I180a 4033) ∧ (I180a 4033) ≤ (I 4033) + ((I180a 2774) - (I 2774))) by (repeat' apply And.intro) <;> first | assumption | omega), (show m_SC I180a A180a by exact sc201), (show m_TR (t_up lo110 v181 (I 3905) (8 * (24 - (I 2775)) + (0))) I180a A180a by exact tr202), (show m_ST lo I A (t_up lo110 v181 (I 3905) (8 * (24 - (I 2775)) + (0))) I180a A180a by exact s203), (show t_E ((A180a 53) (v181)) by exact ((m_kd_K k205 (fun k h => by have h : k = 13 := h; unfold t_E; omega))).2), (show m_rt (t_up lo110 v181 (I 3905) (8 * (24 - (I 2775)) + (0))) (I180a 3905) v181 by exact rt206), (show m_RK (t_up lo110 v181 (I 3905) (8 * (24 - (I 2775)) + (0))) (I 3905) (I180a 3905) (8 * (24 - (I 2775)) + 0) by exact m_RK_le (show m_RK (t_up lo110 v181 (I 3905) (8 * (24 - (I 2775)) + (0))) (I 3905) (I180a 3905) (8 * (24 - (I 2775)) + (0)) from rk204) (show (8 * (24 - (I 2775)) + (0)) ≤ 8 * (24 - (I 2775)) + 0 by omega))⟩
                · rw [e169]
                  replace hR166b : w_Rep w_TM fr X u l I166b A166b B166b C166b M165 := hR166b
                  replace f170 : m_fx I108a A108a I166b A166b := f170
                  exact Or.inr (⟨I166b, A166b, B166b, C166b, rfl, hR166b, (show m_fx I A I166b A166b by exact (m_fx_trans (m_fx_trans f52 f114) f170))⟩)
              · rw [e122]
                replace hR108b : w_Rep w_TM fr X u l I108b A108b B108b C108b M107 := hR108b
                replace f123 : m_fx (w_up (w_up I46a 2774 ((I46a 2774) + 1)) 2775 ((I46a 2775) - 1)) A46a I108b A108b := f123
                exact Or.inr (⟨I108b, A108b, B108b, C108b, rfl, hR108b, (show m_fx I A I108b A108b by exact (m_fx_trans f52 f123))⟩)
            · rw [e101]
              replace hR98b : w_Rep w_TM fr X u l I98b A98b B98b C98b M97 := hR98b
              replace f102 : m_fx I46a A46a I98b A98b := f102
              exact Or.inr (⟨I98b, A98b, B98b, C98b, rfl, hR98b, (show m_fx I A I98b A98b by exact (m_fx_trans f52 f102))⟩)
          · rw [e60]
            replace hR46b : w_Rep w_TM fr X u l I46b A46b B46b C46b M45 := hR46b
            replace f61 : m_fx (w_up (w_up I 2775 ((I 2775) + 1 + 1)) 2774 ((I 2774) + 1 + 1)) A I46b A46b := f61
            exact Or.inr (⟨I46b, A46b, B46b, C46b, rfl, hR46b, (show m_fx I A I46b A46b by exact f61)⟩)
        · rw [e41]
          replace hR38b : w_Rep w_TM fr X u l I38b A38b B38b C38b M37 := hR38b
          replace f42 : m_fx (w_up (w_up I 2775 ((I 2775) + 1)) 2774 ((I 2774) + 1)) A I38b A38b := f42
          exact Or.inr (⟨I38b, A38b, B38b, C38b, rfl, hR38b, (show m_fx I A I38b A38b by exact f42)⟩)
      · rw [e30, e31]
        replace f32 : ¬ ((A 45) ((I 2774) + 1) = 6 ∧ (A 46) ((I 2774) + 1) = 123) := f32
        show w_W _ _ _ (25, [(2, .int (Int32.ofInt ((I 4289)))), (1, .int (Int32.ofInt (1))), (0, .ref 43)], [.int (Int32.ofInt (0))], M17) _
        refine w_adv (n := 3) (F' := (30, [(2, .int (Int32.ofInt ((I 4289)))), (1, .int (Int32.ofInt (1))), (0, .ref 43)], [.int (Int32.ofInt (1)), .ref 43], M17)) rfl ?_
        refine w_call (cm := 232) (as := [(0, .ref 43), (1, .int (Int32.ofInt (1)))]) (rest := []) (o := some (9, 43)) rfl (w_fitR hR18a rfl) (m_fail (1) hR18a ⟨by omega, by omega⟩ (show 0 ≤ (I 2774) + 1 ∧ (I 2774) + 1 < 1501 by omega) (show 1 ≤ 1 ∧ 1 ≤ 7 by first | assumption | omega)) (fun r207 M208 q209 => ?_)
        rcases q209 with ⟨I209a, A209a, B209a, C209a, e210, hR209a, f211⟩
        rw [e210]
        replace hR209a : w_Rep w_TM fr X u l I209a A209a B209a C209a M208 := hR209a
        replace f211 : m_fx (w_up (w_up I 2775 ((I 2775) + 1)) 2774 ((I 2774) + 1)) A I209a A209a := f211
        exact Or.inr (⟨I209a, A209a, B209a, C209a, rfl, hR209a, (show m_fx I A I209a A209a by exact f211)⟩)
    · rw [e21]
      replace hR18b : w_Rep w_TM fr X u l I18b A18b B18b C18b M17 := hR18b
      replace f22 : m_fx I A I18b A18b := f22
      exact Or.inr (⟨I18b, A18b, B18b, C18b, rfl, hR18b, (show m_fx I A I18b A18b by exact f22)⟩)
  · rw [e7, e8]
    replace f9 : ¬ ((A 45) ((I 2774)) = 5 ∧ (A 46) ((I 2774)) = 11) := f9
    show w_W _ _ _ (6, [(0, .ref 43)], [.int (Int32.ofInt (0))], M) _
    refine w_adv (n := 2) (F' := (8, [(1, .int (Int32.ofInt (0))), (0, .ref 43)], [.ref 43], M)) rfl ?_
    refine w_gf (v := .ref 67) hR rfl rfl rfl rfl ?_
    refine w_gf (v := .int (Int32.ofInt ((I 4289)))) hR rfl rfl rfl rfl ?_
    obtain ⟨r212, r213⟩ : -2147483648 ≤ (I 4289) ∧ (I 4289) ≤ 2147483647 := hR.ri 4289
    obtain ⟨r214a, r214b, r214c⟩ : 0 ≤ (I 4289) ∧ (I 4289) ≤ (C 67 : Int) ∧ (C 67 : Int) ≤ 131072 := hR.sz (show 67 ∈ w_TM.2.2 by decide)
    refine w_adv (n := 2) (F' := (16, [(2, .int (Int32.ofInt ((I 4289)))), (1, .int (Int32.ofInt (0))), (0, .ref 43)], [.ref 43], M)) rfl ?_
    refine w_call (cm := 235) (as := [(0, .ref 43)]) (rest := []) (o := some (9, 43)) rfl (w_fitR hR rfl) (m_enter hR (show 2 ≤ d by omega) (show 0 ≤ (I 2774) ∧ (I 2774) < 1501 by omega) (show 0 ≤ (I 2775) ∧ (I 2775) ≤ 24 by first | assumption | omega)) (fun r215 M216 q217 => ?_)
    rcases q217 with ⟨e218, hR217a, f219⟩ | ⟨I217b, A217b, B217b, C217b, e220, hR217b, f221⟩
    · rw [e218]
      replace hR217a : w_Rep w_TM fr X u l (w_up (w_up I 2775 ((I 2775) + 1)) 2774 ((I 2774) + 1)) A B C M216 := hR217a
      replace f219 : (I 2775) < 24 := f219
      have w222 : (I 2774) + 1 < (I 2754) := m_TK_lt hTK (show (I 2774) < (I 2754) by omega) (show 1 ≤ (A 45) ((I 2774)) by omega) (show (A 45) ((I 2774)) ≤ 6 by omega)
      show w_W _ _ _ (19, [(2, .int (Int32.ofInt ((I 4289)))), (1, .int (Int32.ofInt (0))), (0, .ref 43)], [], M216) _
      refine w_adv (n := 2) (F' := (22, [(2, .int (Int32.ofInt ((I 4289)))), (1, .int (Int32.ofInt (0))), (0, .ref 43)], [.int (Int32.ofInt (123)), .ref 43], M216)) rfl ?_
      refine w_call (cm := 230) (as := [(0, .ref 43), (1, .int (Int32.ofInt (123)))]) (rest := []) (o := some (9, 43)) rfl (w_fitR hR217a rfl) (m_isSign (123) hR217a ⟨by omega, by omega⟩ (show 0 ≤ (I 2774) + 1 ∧ (I 2774) + 1 < 1501 by omega)) (fun r223 M224 q225 => ?_)
      rcases q225 with ⟨e226, e227, f228⟩ | ⟨e229, e230, f231⟩
      · rw [e226, e227]
        replace f228 : (A 45) ((I 2774) + 1) = 6 ∧ (A 46) ((I 2774) + 1) = 123 := f228
        obtain ⟨n232, n233⟩ := id f228
        clear f228
        have w234 : ((I 2774) + 1) + 1 < (I 2754) := m_TK_lt hTK (by omega) (by omega) (by omega)
        show w_W _ _ _ (25, [(2, .int (Int32.ofInt ((I 4289)))), (1, .int (Int32.ofInt (0))), (0, .ref 43)], [.int (Int32.ofInt (1))], M216) _
        refine w_adv (n := 2) (F' := (34, [(2, .int (Int32.ofInt ((I 4289)))), (1, .int (Int32.ofInt (0))), (0, .ref 43)], [.ref 43], M216)) rfl ?_
        refine w_call (cm := 235) (as := [(0, .ref 43)]) (rest := []) (o := some (9, 43)) rfl (w_fitR hR217a rfl) (m_enter hR217a (show 2 ≤ d by omega) (show 0 ≤ (I 2774) + 1 ∧ (I 2774) + 1 < 1501 by omega) (show 0 ≤ (I 2775) + 1 ∧ (I 2775) + 1 ≤ 24 by first | assumption | omega)) (fun r235 M236 q237 => ?_)
        rcases q237 with ⟨e238, hR237a, f239⟩ | ⟨I237b, A237b, B237b, C237b, e240, hR237b, f241⟩
        · rw [e238]
          replace hR237a : w_Rep w_TM fr X u l (w_up (w_up I 2775 ((I 2775) + 1 + 1)) 2774 ((I 2774) + 1 + 1)) A B C M236 := w_Rep.up hR237a (show (w_up (w_up I 2775 ((I 2775) + 1 + 1)) 2774 ((I 2774) + 1 + 1)) = _ from (funext fun s => if e0 : s = 2774 then (by subst e0; rfl) else if e1 : s = 2775 then (by subst e1; rfl) else (by simp only [w_up_ne e0, w_up_ne e1]))) rfl
          replace f239 : (I 2775) + 1 < 24 := f239
          have w242 : ((I 2774) + 1) + 1 < (I 2754) := m_TK_lt hTK (show (I 2774) + 1 < (I 2754) by omega) (show 1 ≤ (A 45) ((I 2774) + 1) by omega) (show (A 45) ((I 2774) + 1) ≤ 6 by omega)
          show w_W _ _ _ (37, [(2, .int (Int32.ofInt ((I 4289)))), (1, .int (Int32.ofInt (0))), (0, .ref 43)], [], M236) _
          refine w_adv (n := 1) (F' := (38, [(2, .int (Int32.ofInt ((I 4289)))), (1, .int (Int32.ofInt (0))), (0, .ref 43)], [.ref 43], M236)) rfl ?_
          refine w_call (cm := 236) (as := [(0, .ref 43)]) (rest := []) (o := some (9, 43)) rfl (w_fitR hR237a rfl) (m_binds (lo) hR237a (show 20 * (24 - ((I 2775) + 1 + 1)) + 8 ≤ (d : Int) by omega) (show m_TK (w_up (w_up I 2775 ((I 2775) + 1 + 1)) 2774 ((I 2774) + 1 + 1)) A by exact hTK) (show (0 ≤ (I 2774) + 1 + 1 ∧ (I 2774) + 1 + 1 < (I 2754) ∧ (I 2754) ≤ 1501 ∧ 0 ≤ (I 2775) + 1 + 1 ∧ (I 2775) + 1 + 1 ≤ 24) ∧ ((I 3393) = (I 3905) ∧ (I 3521) = (I 3905) ∧ (I 3649) = (I 3905) ∧ (I 3777) = (I 3905) ∧ 0 ≤ (I 3905) ∧ (I 3905) ≤ 3 * ((I 2774) + 1 + 1)) ∧ ((I 4161) = (I 4033) ∧ 7 ≤ (I 4289) ∧ (I 4289) ≤ (I 4033) ∧ (I 4033) ≤ 7 + ((I 2774) + 1 + 1)) ∧ 0 ≤ (I 5889) ∧ (I 5889) ≤ (I 2774) + 1 + 1 by (repeat' apply And.intro) <;> first | assumption | omega) (show m_SC (w_up (w_up I 2775 ((I 2775) + 1 + 1)) 2774 ((I 2774) + 1 + 1)) A by exact hSC) (show m_TR lo (w_up (w_up I 2775 ((I 2775) + 1 + 1)) 2774 ((I 2774) + 1 + 1)) A by exact hTR)) (fun r243 M244 q245 => ?_)
          rcases q245 with ⟨v246, lo247, I245a, A245a, B245a, C245a, e248, ⟨r249, r250⟩, hR245a, f251, f252, f253, f254, f255, f256, f257, f258⟩ | ⟨I245b, A245b, B245b, C245b, e259, hR245b, f260⟩
          · rw [e248]
            replace hR245a : w_Rep w_TM fr X u l I245a A245a B245a C245a M244 := hR245a
            replace f251 : m_fx (w_up (w_up I 2775 ((I 2775) + 1 + 1)) 2774 ((I 2774) + 1 + 1)) A I245a A245a := f251
            replace f252 : ((0 ≤ (I245a 2774) ∧ (I245a 2774) < (I245a 2754) ∧ (I245a 2754) ≤ 1501 ∧ 0 ≤ (I245a 2775) ∧ (I245a 2775) ≤ 24) ∧ ((I245a 3393) = (I245a 3905) ∧ (I245a 3521) = (I245a 3905) ∧ (I245a 3649) = (I245a 3905) ∧ (I245a 3777) = (I245a 3905) ∧ 0 ≤ (I245a 3905) ∧ (I245a 3905) ≤ 3 * (I245a 2774)) ∧ ((I245a 4161) = (I245a 4033) ∧ 7 ≤ (I245a 4289) ∧ (I245a 4289) ≤ (I245a 4033) ∧ (I245a 4033) ≤ 7 + (I245a 2774)) ∧ 0 ≤ (I245a 5889) ∧ (I245a 5889) ≤ (I245a 2774)) ∧ ((I245a 2754) = (I 2754) ∧ ((I 2774) + 1 + 1) + 0 ≤ (I245a 2774) ∧ (I245a 2775) = (I 2775) + 1 + 1 ∧ (I 4289) ≤ (I245a 4289) ∧ (I245a 5889) = (I 5889)) ∧ ((I245a 3905) + 0 ≤ (I 3905) + 3 * ((I245a 2774) - ((I 2774) + 1 + 1)) ∧ (I 3905) ≤ (I245a 3905) ∧ -1 ≤ v246 ∧ v246 < (I245a 3905) ∧ (I 4033) ≤ (I245a 4033) ∧ (I245a 4033) ≤ (I 4033) + ((I245a 2774) - ((I 2774) + 1 + 1))) := f252
            obtain ⟨⟨⟨n261, n262, n263, n264, n265⟩, ⟨n266, n267, n268, n269, n270, n271⟩, ⟨n272, n273, n274, n275⟩, n276, n277⟩, ⟨n278, n279, n280, n281, n282⟩, ⟨n283, n284, n285, n286, n287, n288⟩⟩ := id f252
            clear f252
            replace f253 : m_SC I245a A245a := f253
            replace f254 : m_TR lo247 I245a A245a := f254
            replace f255 : m_ST lo (w_up (w_up I 2775 ((I 2775) + 1 + 1)) 2774 ((I 2774) + 1 + 1)) A lo247 I245a A245a := f255
            replace f256 : v246 = -1 ∨ m_kd lo247 I245a A245a (I 3905) (8 * (24 - ((I 2775) + 1 + 1)) + 0) v246 (fun k => k = 28) := f256
            replace f257 : v246 = -1 ∨ m_rt lo247 (I245a 3905) v246 := f257
            replace f258 : m_RK lo247 (I 3905) (I245a 3905) (8 * (24 - ((I 2775) + 1 + 1)) + 0) := f258
            have tk289 : m_TK I245a A245a := m_TK_fx f251 hTK
            have nn290 : (I 3905) ≤ (I245a 3905) := by omega
            have nz291 : 0 ≤ (I 3905) := by first | assumption | omega
            have ho292 : (I 2775) + 1 + 1 = (I 2775) + (2) := by omega
            have rk294 : m_RK lo247 (I 3905) (I245a 3905) (8 * (24 - (I 2775)) + (-16)) := m_RK_app (I := (w_up (w_up I 2775 ((I 2775) + 1 + 1)) 2774 ((I 2774) + 1 + 1))) (I' := I245a) (R := (8 * (24 - (I 2775)) + (-16))) (show m_RK lo (I 3905) (I 3905) (8 * (24 - (I 2775)) + (-16)) from fun q q1 q2 => by omega) f255 f258 (show 0 ≤ (I 3905) by first | assumption | omega) (m_r8 (by decide)) (m_r8o (k := 2) ho292 (by decide))
            have s293 : m_ST lo I A lo247 I245a A245a := f255
            show w_W _ _ _ (41, [(2, .int (Int32.ofInt ((I 4289)))), (1, .int (Int32.ofInt (0))), (0, .ref 43)], [.int (Int32.ofInt (v246))], M244) _
            refine w_adv (n := 3) (F' := (45, [(3, .int (Int32.ofInt (v246))), (2, .int (Int32.ofInt ((I 4289)))), (1, .int (Int32.ofInt (0))), (0, .ref 43)], [.int (Int32.ofInt (125)), .ref 43], M244)) rfl ?_
            refine w_call (cm := 264) (as := [(0, .ref 43), (1, .int (Int32.ofInt (125)))]) (rest := []) (o := some (9, 43)) rfl (w_fitR hR245a rfl) (m_closeSign (125) hR245a (show 3 ≤ d by omega) ⟨by omega, by omega⟩ (show 0 ≤ (I245a 2774) ∧ (I245a 2774) < 1501 by omega) (show 1 ≤ (I245a 2775) ∧ (I245a 2775) ≤ 24 by first | assumption | omega)) (fun r295 M296 q297 => ?_)
            rcases q297 with ⟨e298, hR297a, f299⟩ | ⟨I297b, A297b, B297b, C297b, e300, hR297b, f301⟩
            · rw [e298]
              replace hR297a : w_Rep w_TM fr X u l (w_up (w_up I245a 2774 ((I245a 2774) + 1)) 2775 ((I245a 2775) - 1)) A245a B245a C245a M296 := hR297a
              replace f299 : (A245a 45) ((I245a 2774)) = 6 ∧ (A245a 46) ((I245a 2774)) = 125 := f299
              obtain ⟨n302, n303⟩ := id f299
              clear f299
              have w304 : (I245a 2774) + 1 < (I245a 2754) := m_TK_lt tk289 (show (I245a 2774) < (I245a 2754) by omega) (show 1 ≤ (A245a 45) ((I245a 2774)) by omega) (show (A245a 45) ((I245a 2774)) ≤ 6 by omega)
              show w_W _ _ _ (48, [(3, .int (Int32.ofInt (v246))), (2, .int (Int32.ofInt ((I 4289)))), (1, .int (Int32.ofInt (0))), (0, .ref 43)], [], M296) _
              refine w_adv (n := 3) (F' := (60, [(3, .int (Int32.ofInt (v246))), (2, .int (Int32.ofInt ((I 4289)))), (1, .int (Int32.ofInt (0))), (0, .ref 43)], [.ref 43], M296)) rfl ?_
              refine w_call (cm := 227) (as := [(0, .ref 43)]) (rest := []) (o := some (9, 43)) rfl (w_fitR hR297a rfl) (hA.2.1 (lo247) hR297a (show 20 * (24 - ((I245a 2775) - 1)) + 19 ≤ (d : Int) by omega) (show m_TK (w_up (w_up I245a 2774 ((I245a 2774) + 1)) 2775 ((I245a 2775) - 1)) A245a by exact tk289) (show (0 ≤ (I245a 2774) + 1 ∧ (I245a 2774) + 1 < (I245a 2754) ∧ (I245a 2754) ≤ 1501 ∧ 0 ≤ (I245a 2775) - 1 ∧ (I245a 2775) - 1 ≤ 24) ∧ ((I245a 3393) = (I245a 3905) ∧ (I245a 3521) = (I245a 3905) ∧ (I245a 3649) = (I245a 3905) ∧ (I245a 3777) = (I245a 3905) ∧ 0 ≤ (I245a 3905) ∧ (I245a 3905) ≤ 3 * ((I245a 2774) + 1)) ∧ ((I245a 4161) = (I245a 4033) ∧ 7 ≤ (I245a 4289) ∧ (I245a 4289) ≤ (I245a 4033) ∧ (I245a 4033) ≤ 7 + ((I245a 2774) + 1)) ∧ 0 ≤ (I245a 5889) ∧ (I245a 5889) ≤ (I245a 2774) + 1 by (repeat' apply And.intro) <;> first | assumption | omega) (show m_SC (w_up (w_up I245a 2774 ((I245a 2774) + 1)) 2775 ((I245a 2775) - 1)) A245a by exact f253) (show m_TR lo247 (w_up (w_up I245a 2774 ((I245a 2774) + 1)) 2775 ((I245a 2775) - 1)) A245a by exact f254) (show (I245a 2754) - ((I245a 2774) + 1) < N by first | assumption | omega)) (fun r305 M306 q307 => ?_)
              rcases q307 with ⟨v308, lo309, I307a, A307a, B307a, C307a, e310, ⟨r311, r312⟩, hR307a, f313, f314, f315, f316, f317, f318, f319, f320⟩ | ⟨I307b, A307b, B307b, C307b, e321, hR307b, f322⟩
              · rw [e310]
                replace hR307a : w_Rep w_TM fr X u l I307a A307a B307a C307a M306 := hR307a
                replace f313 : m_fx (w_up (w_up I245a 2774 ((I245a 2774) + 1)) 2775 ((I245a 2775) - 1)) A245a I307a A307a := f313
                replace f314 : ((0 ≤ (I307a 2774) ∧ (I307a 2774) < (I307a 2754) ∧ (I307a 2754) ≤ 1501 ∧ 0 ≤ (I307a 2775) ∧ (I307a 2775) ≤ 24) ∧ ((I307a 3393) = (I307a 3905) ∧ (I307a 3521) = (I307a 3905) ∧ (I307a 3649) = (I307a 3905) ∧ (I307a 3777) = (I307a 3905) ∧ 0 ≤ (I307a 3905) ∧ (I307a 3905) ≤ 3 * (I307a 2774)) ∧ ((I307a 4161) = (I307a 4033) ∧ 7 ≤ (I307a 4289) ∧ (I307a 4289) ≤ (I307a 4033) ∧ (I307a 4033) ≤ 7 + (I307a 2774)) ∧ 0 ≤ (I307a 5889) ∧ (I307a 5889) ≤ (I307a 2774)) ∧ ((I307a 2754) = (I245a 2754) ∧ ((I245a 2774) + 1) + 1 ≤ (I307a 2774) ∧ (I307a 2775) = (I245a 2775) - 1 ∧ (I307a 4289) = (I245a 4289) + 0 ∧ (I307a 5889) = (I245a 5889)) ∧ ((I307a 3905) + 1 ≤ (I245a 3905) + 3 * ((I307a 2774) - ((I245a 2774) + 1)) ∧ (I245a 3905) ≤ v308 ∧ v308 + 1 = (I307a 3905) ∧ (I245a 4033) ≤ (I307a 4033) ∧ (I307a 4033) ≤ (I245a 4033) + ((I307a 2774) - ((I245a 2774) + 1))) := f314
                obtain ⟨⟨⟨n323, n324, n325, n326, n327⟩, ⟨n328, n329, n330, n331, n332, n333⟩, ⟨n334, n335, n336, n337⟩, n338, n339⟩, ⟨n340, n341, n342, n343, n344⟩, ⟨n345, n346, n347, n348, n349⟩⟩ := id f314
                clear f314
                replace f315 : m_SC I307a A307a := f315
                replace f316 : m_TR lo309 I307a A307a := f316
                replace f317 : m_ST lo247 (w_up (w_up I245a 2774 ((I245a 2774) + 1)) 2775 ((I245a 2775) - 1)) A245a lo309 I307a A307a := f317
                replace f318 : (fun k => k = 25) ((A307a 53) (v308)) := f318
                replace f319 : m_rt lo309 (I307a 3905) v308 := f319
                replace f320 : m_RK lo309 (I245a 3905) (I307a 3905) (8 * (24 - ((I245a 2775) - 1)) + 7) := f320
                have tk350 : m_TK I307a A307a := m_TK_fx f313 tk289
                have nn351 : (I245a 3905) ≤ (I307a 3905) := by omega
                have nz352 : 0 ≤ (I245a 3905) := by first | assumption | omega
                have ho353 : (I245a 2775) - 1 = (I 2775) + (1) := by omega
                have rk355 : m_RK lo309 (I 3905) (I307a 3905) (8 * (24 - (I 2775)) + (-1)) := m_RK_app (I := (w_up (w_up I245a 2774 ((I245a 2774) + 1)) 2775 ((I245a 2775) - 1))) (I' := I307a) (R := (8 * (24 - (I 2775)) + (-16))) (show m_RK lo247 (I 3905) (I245a 3905) (8 * (24 - (I 2775)) + (-16)) from rk294) f317 f320 (show 0 ≤ (I 3905) by first | assumption | omega) (m_r8 (by decide)) (m_r8o (k := 1) ho353 (by decide))
                have s354 : m_ST lo I A lo309 I307a A307a := m_ST_trans (show m_ST lo I A lo247 (w_up (w_up I245a 2774 ((I245a 2774) + 1)) 2775 ((I245a 2775) - 1)) A245a from s293) f317 (show 0 ≤ (I 3905) by first | assumption | omega) (show (I 3905) ≤ (I245a 3905) by first | assumption | omega) (show (I 4289) ≤ (I245a 4289) by first | assumption | omega) (show (I 5889) ≤ (I245a 5889) by first | assumption | omega)
                have o356 : v246 = -1 ∨ m_kd lo309 I307a A307a (I 3905) (8 * (24 - ((I 2775) + 1 + 1)) + 0) v246 (fun k => k = 28) := (show v246 = -1 ∨ m_kd lo247 (w_up (w_up I245a 2774 ((I245a 2774) + 1)) 2775 ((I245a 2775) - 1)) A245a (I 3905) (8 * (24 - ((I 2775) + 1 + 1)) + 0) v246 (fun k => k = 28) from f256).imp_right (fun q => m_kd_ST f317 nn351 q)
                have k357 : m_kd lo309 I307a A307a (I245a 3905) (8 * (24 - ((I245a 2775) - 1)) + 7) v308 (fun k => k = 25) := m_kd_of f317 f316 nz352 (show (I245a 3905) ≤ v308 by first | assumption | omega) (show v308 < (I307a 3905) by omega) f318 f320
                obtain ⟨j358, j359, j360, j361, j362⟩ := k357.1
                show w_W _ _ _ (63, [(3, .int (Int32.ofInt (v246))), (2, .int (Int32.ofInt ((I 4289)))), (1, .int (Int32.ofInt (0))), (0, .ref 43)], [.int (Int32.ofInt (v308))], M306) _
                refine w_adv (n := 3) (F' := (67, [(4, .int (Int32.ofInt (v308))), (3, .int (Int32.ofInt (v246))), (2, .int (Int32.ofInt ((I 4289)))), (1, .int (Int32.ofInt (0))), (0, .ref 43)], [.int (Int32.ofInt (3)), .ref 43], M306)) rfl ?_
                refine w_call (cm := 244) (as := [(0, .ref 43), (1, .int (Int32.ofInt (3)))]) (rest := []) (o := some (9, 43)) rfl (w_fitR hR307a rfl) (m_closeWord (3) hR307a (show 3 ≤ d by omega) ⟨by omega, by omega⟩ (show 0 ≤ (I307a 2774) ∧ (I307a 2774) < 1501 by omega) (show 1 ≤ (I307a 2775) ∧ (I307a 2775) ≤ 24 by first | assumption | omega)) (fun r363 M364 q365 => ?_)
                rcases q365 with ⟨e366, hR365a, f367⟩ | ⟨I365b, A365b, B365b, C365b, e368, hR365b, f369⟩
                · rw [e366]
                  replace hR365a : w_Rep w_TM fr X u l (w_up (w_up I307a 2774 ((I307a 2774) + 1)) 2775 ((I307a 2775) - 1)) A307a B307a C307a M364 := hR365a
                  replace f367 : (A307a 45) ((I307a 2774)) = 5 ∧ (A307a 46) ((I307a 2774)) = 3 := f367
                  obtain ⟨n370, n371⟩ := id f367
                  clear f367
                  have w372 : (I307a 2774) + 1 < (I307a 2754) := m_TK_lt tk350 (show (I307a 2774) < (I307a 2754) by omega) (show 1 ≤ (A307a 45) ((I307a 2774)) by omega) (show (A307a 45) ((I307a 2774)) ≤ 6 by omega)
                  show w_W _ _ _ (70, [(4, .int (Int32.ofInt (v308))), (3, .int (Int32.ofInt (v246))), (2, .int (Int32.ofInt ((I 4289)))), (1, .int (Int32.ofInt (0))), (0, .ref 43)], [], M364) _
                  refine w_adv (n := 1) (F' := (71, [(4, .int (Int32.ofInt (v308))), (3, .int (Int32.ofInt (v246))), (2, .int (Int32.ofInt ((I 4289)))), (1, .int (Int32.ofInt (0))), (0, .ref 43)], [.ref 43], M364)) rfl ?_
                  refine w_gf (v := .ref 67) hR365a rfl rfl rfl rfl ?_
                  refine w_adv (n := 1) (F' := (75, [(4, .int (Int32.ofInt (v308))), (3, .int (Int32.ofInt (v246))), (2, .int (Int32.ofInt ((I 4289)))), (1, .int (Int32.ofInt (0))), (0, .ref 43)], [.int (Int32.ofInt ((I 4289))), .ref 67], M364)) rfl ?_
                  obtain ⟨r373a, r373b, r373c⟩ : 0 ≤ (I307a 4289) ∧ (I307a 4289) ≤ (C307a 67 : Int) ∧ (C307a 67 : Int) ≤ 131072 := hR365a.sz (show 67 ∈ w_TM.2.2 by decide)
                  refine w_pf hR365a rfl rfl rfl rfl (show w_in ((I 4289)) from ⟨by omega, by omega⟩) (fun _ _ => (show 0 ≤ (I 4289) ∧ (I 4289) ≤ (C307a 67 : Int) by omega)) (fun M374 hR375 => ?_)
                  replace hR375 : w_Rep w_TM fr X u l (w_up (w_up (w_up I307a 2774 ((I307a 2774) + 1)) 2775 ((I307a 2775) - 1)) 4289 ((I 4289))) A307a B307a C307a M374 := hR375
                  have sc376 : m_SC (w_up (w_up (w_up I307a 2774 ((I307a 2774) + 1)) 2775 ((I307a 2775) - 1)) 4289 ((I 4289))) A307a := m_SC_cut f315 (show (I 4289) ≤ (I307a 4289) by omega) rfl rfl
                  refine w_adv (n := 7) (F' := (94, [(4, .int (Int32.ofInt (v308))), (3, .int (Int32.ofInt (v246))), (2, .int (Int32.ofInt ((I 4289)))), (1, .int (Int32.ofInt (0))), (0, .ref 43)], [.int (Int32.ofInt (0)), .int (Int32.ofInt (v308)), .int (Int32.ofInt (v246)), .int (Int32.ofInt (12)), .ref 43], M374)) rfl ?_
                  refine w_call (cm := 239) (as := [(0, .ref 43), (1, .int (Int32.ofInt (12))), (2, .int (Int32.ofInt (v246))), (3, .int (Int32.ofInt (v308))), (4, .int (Int32.ofInt (0)))]) (rest := []) (o := some (9, 43)) rfl (w_fitR hR375 rfl) (m_node (12) (v246) (v308) (0) hR375 (show 2 ≤ d by omega) ⟨by omega, by omega⟩ ⟨by omega, by omega⟩ ⟨by omega, by omega⟩ ⟨by omega, by omega⟩ (show (I307a 3393) = (I307a 3905) by first | assumption | omega) (show (I307a 3521) = (I307a 3905) by first | assumption | omega) (show (I307a 3649) = (I307a 3905) by first | assumption | omega) (show (I307a 3777) = (I307a 3905) by first | assumption | omega) (show (I307a 3905) < 65536 by first | assumption | omega)) (fun r377 M378 q379 => ?_)
                  rcases q379 with ⟨v380, I379a, A379a, B379a, C379a, e381, ⟨r382, r383⟩, hR379a, f384, f385⟩
                  rw [e381]
                  replace hR379a : w_Rep w_TM fr X u l I379a A379a B379a C379a M378 := hR379a
                  replace f384 : m_fx (w_up (w_up (w_up I307a 2774 ((I307a 2774) + 1)) 2775 ((I307a 2775) - 1)) 4289 ((I 4289))) A307a I379a A379a := f384
                  replace f385 : m_nd (w_up (w_up (w_up I307a 2774 ((I307a 2774) + 1)) 2775 ((I307a 2775) - 1)) 4289 ((I 4289))) A307a I379a A379a v380 12 v246 v308 0 := f385
                  obtain ⟨⟨n386, n387, n388, n389, n390, n391⟩, ⟨n392, n393, n394, n395, n396, n397, n398⟩⟩ : (v380 = (I307a 3905) ∧ (I379a 3905) = (I307a 3905) + 1 ∧ (I379a 3393) = (I307a 3393) + 1 ∧ (I379a 3521) = (I307a 3521) + 1 ∧ (I379a 3649) = (I307a 3649) + 1 ∧ (I379a 3777) = (I307a 3777) + 1) ∧ ((I379a 2774) = (I307a 2774) + 1 ∧ (I379a 2754) = (I307a 2754) ∧ (I379a 2775) = (I307a 2775) - 1 ∧ (I379a 4289) = (I 4289) ∧ (I379a 4033) = (I307a 4033) ∧ (I379a 4161) = (I307a 4161) ∧ (I379a 5889) = (I307a 5889)) := m_nd_num f385
                  have tk399 : m_TK I379a A379a := m_TK_fx f384 tk350
                  have sc400 : m_SC I379a A379a := m_SC_nd f385 sc376
                  have tr401 : m_TR (t_up lo309 v380 (I 3905) (8 * (24 - (I 2775)) + (0))) I379a A379a := m_TR_nd (show m_TR lo309 (w_up (w_up (w_up I307a 2774 ((I307a 2774) + 1)) 2775 ((I307a 2775) - 1)) 4289 ((I 4289))) A307a from f316) f385 (show 0 ≤ (I 3905) by omega) (show (I 3905) ≤ v380 by omega) (m_cl_ST (show m_ST lo I A lo309 (w_up (w_up (w_up I307a 2774 ((I307a 2774) + 1)) 2775 ((I307a 2775) - 1)) 4289 ((I 4289))) A307a from s354) hTR (show 0 ≤ (I 3905) by omega)) (t_N_mk12 t_up_same (show 0 ≤ (I 3905) by omega) (show (I 3905) ≤ v380 by omega) (show 0 ≤ (8 * (24 - (I 2775)) + (0)) by omega) (m_hw (show m_RK lo309 (I 3905) v380 (8 * (24 - (I 2775)) + (-1)) from fun q q1 q2 => (show m_RK lo309 (I 3905) (I307a 3905) (8 * (24 - (I 2775)) + (-1)) from rk355) q (show (I 3905) ≤ q by omega) (show q < (I307a 3905) by omega)) (m_r8l (by decide))) ⟨((show v246 = -1 ∨ m_kd lo309 (w_up (w_up (w_up I307a 2774 ((I307a 2774) + 1)) 2775 ((I307a 2775) - 1)) 4289 ((I 4289))) A307a (I 3905) (8 * (24 - ((I 2775) + 1 + 1)) + 0) v246 (fun k => k = 28) from o356).imp_right (fun q => m_ch f385 (show (I 3905) ≤ (I 3905) by omega) q)), m_ch f385 (show (I 3905) ≤ (I245a 3905) by omega) (show m_kd lo309 (w_up (w_up (w_up I307a 2774 ((I307a 2774) + 1)) 2775 ((I307a 2775) - 1)) 4289 ((I 4289))) A307a (I245a 3905) (8 * (24 - ((I245a 2775) - 1)) + 7) v308 (fun k => k = 25) from k357), ((show v246 = -1 ∨ m_kd lo309 (w_up (w_up (w_up I307a 2774 ((I307a 2774) + 1)) 2775 ((I307a 2775) - 1)) 4289 ((I 4289))) A307a (I 3905) (8 * (24 - ((I 2775) + 1 + 1)) + 0) v246 (fun k => k = 28) from o356).imp_right (fun q => m_od f385 (show m_kd lo309 (w_up (w_up (w_up I307a 2774 ((I307a 2774) + 1)) 2775 ((I307a 2775) - 1)) 4289 ((I 4289))) A307a (I245a 3905) (8 * (24 - ((I245a 2775) - 1)) + 7) v308 (fun k => k = 25) from k357) (show v246 < (I245a 3905) by have := q.1; omega))), (by omega)⟩)
                  have s402 : m_ST lo I A (t_up lo309 v380 (I 3905) (8 * (24 - (I 2775)) + (0))) I379a A379a := m_ST_nd (l := (I 3905)) (show m_ST lo I A lo309 (w_up (w_up (w_up I307a 2774 ((I307a 2774) + 1)) 2775 ((I307a 2775) - 1)) 4289 ((I 4289))) A307a from s354) f385 (show (I 3905) ≤ (I 3905) by omega) (show (I 3905) ≤ (I307a 3905) by omega)
                  have rk403 : m_RK (t_up lo309 v380 (I 3905) (8 * (24 - (I 2775)) + (0))) (I 3905) (I379a 3905) (8 * (24 - (I 2775)) + (0)) := fun q q1 q2 => m_RK_nd (show m_RK lo309 (I 3905) v380 (8 * (24 - (I 2775)) + (-1)) from fun q q1 q2 => (show m_RK lo309 (I 3905) (I307a 3905) (8 * (24 - (I 2775)) + (-1)) from rk355) q q1 (show q < (I307a 3905) by omega)) (m_r8 (by decide)) (m_r8 (by decide)) q q1 (show q < v380 + 1 by omega)
                  have k404 : m_kd (t_up lo309 v380 (I 3905) (8 * (24 - (I 2775)) + (0))) I379a A379a (I 3905) (8 * (24 - (I 2775)) + (0)) v380 (fun k => k = 12) := m_kd_new f385 (show 0 ≤ (I 3905) by omega) (show (I 3905) ≤ v380 by omega) rfl
                  have rt405 : m_rt (t_up lo309 v380 (I 3905) (8 * (24 - (I 2775)) + (0))) (I379a 3905) v380 := m_rt_new f385
                  show w_W _ _ _ (97, [(4, .int (Int32.ofInt (v308))), (3, .int (Int32.ofInt (v246))), (2, .int (Int32.ofInt ((I 4289)))), (1, .int (Int32.ofInt (0))), (0, .ref 43)], [.int (Int32.ofInt (v380))], M378) _
                  refine w_fin (r := .inl (some (v380))) (M' := M378) rfl ?_
                  exact Or.inl ⟨v380, (t_up lo309 v380 (I 3905) (8 * (24 - (I 2775)) + (0))), I379a, A379a, B379a, C379a, rfl, ⟨by omega, by omega⟩, hR379a, (show m_fx I A I379a A379a by exact (m_fx_trans (m_fx_trans f251 f313) f384)), (show ((0 ≤ (I379a 2774) ∧ (I379a 2774) < (I379a 2754) ∧ (I379a 2754) ≤ 1501 ∧ 0 ≤ (I379a 2775) ∧ (I379a 2775) ≤ 24) ∧ ((I379a 3393) = (I379a 3905) ∧ (I379a 3521) = (I379a 3905) ∧ (I379a 3649) = (I379a 3905) ∧ (I379a 3777) = (I379a 3905) ∧ 0 ≤ (I379a 3905) ∧ (I379a 3905) ≤ 3 * (I379a 2774)) ∧ ((I379a 4161) = (I379a 4033) ∧ 7 ≤ (I379a 4289) ∧ (I379a 4289) ≤ (I379a 4033) ∧ (I379a 4033) ≤ 7 + (I379a 2774)) ∧ 0 ≤ (I379a 5889) ∧ (I379a 5889) ≤ (I379a 2774)) ∧ ((I379a 2754) = (I 2754) ∧ (I 2774) + 1 ≤ (I379a 2774) ∧ (I379a 2775) = (I 2775) ∧ (I379a 4289) = (I 4289) + 0 ∧ (I379a 5889) = (I 5889)) ∧ ((I379a 3905) + 2 ≤ (I 3905) + 3 * ((I379a 2774) - (I 2774)) ∧ (I 3905) ≤ v380 ∧ v380 + 1 = (I379a 3905) ∧ (I 4033) ≤ (I379a 4033) ∧ (I379a 4033) ≤ (I 4033) + ((I379a 2774) - (I 2774))) by (repeat' apply And.intro) <;> first | assumption | omega), (show m_SC I379a A379a by exact sc400), (show m_TR (t_up lo309 v380 (I 3905) (8 * (24 - (I 2775)) + (0))) I379a A379a by exact tr401), (show m_ST lo I A (t_up lo309 v380 (I 3905) (8 * (24 - (I 2775)) + (0))) I379a A379a by exact s402), (show t_E ((A379a 53) (v380)) by exact ((m_kd_K k404 (fun k h => by have h : k = 12 := h; unfold t_E; omega))).2), (show m_rt (t_up lo309 v380 (I 3905) (8 * (24 - (I 2775)) + (0))) (I379a 3905) v380 by exact rt405), (show m_RK (t_up lo309 v380 (I 3905) (8 * (24 - (I 2775)) + (0))) (I 3905) (I379a 3905) (8 * (24 - (I 2775)) + 0) by exact m_RK_le (show m_RK (t_up lo309 v380 (I 3905) (8 * (24 - (I 2775)) + (0))) (I 3905) (I379a 3905) (8 * (24 - (I 2775)) + (0)) from rk403) (show (8 * (24 - (I 2775)) + (0)) ≤ 8 * (24 - (I 2775)) + 0 by omega))⟩
                · rw [e368]
                  replace hR365b : w_Rep w_TM fr X u l I365b A365b B365b C365b M364 := hR365b
                  replace f369 : m_fx I307a A307a I365b A365b := f369
                  exact Or.inr (⟨I365b, A365b, B365b, C365b, rfl, hR365b, (show m_fx I A I365b A365b by exact (m_fx_trans (m_fx_trans f251 f313) f369))⟩)
              · rw [e321]
                replace hR307b : w_Rep w_TM fr X u l I307b A307b B307b C307b M306 := hR307b
                replace f322 : m_fx (w_up (w_up I245a 2774 ((I245a 2774) + 1)) 2775 ((I245a 2775) - 1)) A245a I307b A307b := f322
                exact Or.inr (⟨I307b, A307b, B307b, C307b, rfl, hR307b, (show m_fx I A I307b A307b by exact (m_fx_trans f251 f322))⟩)
            · rw [e300]
              replace hR297b : w_Rep w_TM fr X u l I297b A297b B297b C297b M296 := hR297b
              replace f301 : m_fx I245a A245a I297b A297b := f301
              exact Or.inr (⟨I297b, A297b, B297b, C297b, rfl, hR297b, (show m_fx I A I297b A297b by exact (m_fx_trans f251 f301))⟩)
          · rw [e259]
            replace hR245b : w_Rep w_TM fr X u l I245b A245b B245b C245b M244 := hR245b
            replace f260 : m_fx (w_up (w_up I 2775 ((I 2775) + 1 + 1)) 2774 ((I 2774) + 1 + 1)) A I245b A245b := f260
            exact Or.inr (⟨I245b, A245b, B245b, C245b, rfl, hR245b, (show m_fx I A I245b A245b by exact f260)⟩)
        · rw [e240]
          replace hR237b : w_Rep w_TM fr X u l I237b A237b B237b C237b M236 := hR237b
          replace f241 : m_fx (w_up (w_up I 2775 ((I 2775) + 1)) 2774 ((I 2774) + 1)) A I237b A237b := f241
          exact Or.inr (⟨I237b, A237b, B237b, C237b, rfl, hR237b, (show m_fx I A I237b A237b by exact f241)⟩)
      · rw [e229, e230]
        replace f231 : ¬ ((A 45) ((I 2774) + 1) = 6 ∧ (A 46) ((I 2774) + 1) = 123) := f231
        show w_W _ _ _ (25, [(2, .int (Int32.ofInt ((I 4289)))), (1, .int (Int32.ofInt (0))), (0, .ref 43)], [.int (Int32.ofInt (0))], M216) _
        refine w_adv (n := 3) (F' := (30, [(2, .int (Int32.ofInt ((I 4289)))), (1, .int (Int32.ofInt (0))), (0, .ref 43)], [.int (Int32.ofInt (1)), .ref 43], M216)) rfl ?_
        refine w_call (cm := 232) (as := [(0, .ref 43), (1, .int (Int32.ofInt (1)))]) (rest := []) (o := some (9, 43)) rfl (w_fitR hR217a rfl) (m_fail (1) hR217a ⟨by omega, by omega⟩ (show 0 ≤ (I 2774) + 1 ∧ (I 2774) + 1 < 1501 by omega) (show 1 ≤ 1 ∧ 1 ≤ 7 by first | assumption | omega)) (fun r406 M407 q408 => ?_)
        rcases q408 with ⟨I408a, A408a, B408a, C408a, e409, hR408a, f410⟩
        rw [e409]
        replace hR408a : w_Rep w_TM fr X u l I408a A408a B408a C408a M407 := hR408a
        replace f410 : m_fx (w_up (w_up I 2775 ((I 2775) + 1)) 2774 ((I 2774) + 1)) A I408a A408a := f410
        exact Or.inr (⟨I408a, A408a, B408a, C408a, rfl, hR408a, (show m_fx I A I408a A408a by exact f410)⟩)
    · rw [e220]
      replace hR217b : w_Rep w_TM fr X u l I217b A217b B217b C217b M216 := hR217b
      replace f221 : m_fx I A I217b A217b := f221
      exact Or.inr (⟨I217b, A217b, B217b, C217b, rfl, hR217b, (show m_fx I A I217b A217b by exact f221)⟩)
