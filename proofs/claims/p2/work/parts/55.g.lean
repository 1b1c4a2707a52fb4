def m_sum_Q (fr : Nat → Bool) (X : Nat → Option (q_C (Nat → Int32))) (u l : Nat) (I : Nat → Int) (A : Nat → Int → Int) (B C : Nat → Nat) (M : w_M) (lo : Int → Int × Int) : w_X → w_M → Prop := fun r M' => (∃ v : Int, ∃ lo' : Int → Int × Int, ∃ (I' : Nat → Int) (A' : Nat → Int → Int) (B' C' : Nat → Nat), (r = .inl (some v)) ∧ (w_in v) ∧ (w_Rep w_TM fr X u l I' A' B' C' M') ∧ (m_fx I A I' A') ∧ (((0 ≤ (I' 2774) ∧ (I' 2774) < (I' 2754) ∧ (I' 2754) ≤ 1501 ∧ 0 ≤ (I' 2775) ∧ (I' 2775) ≤ 24) ∧ ((I' 3393) = (I' 3905) ∧ (I' 3521) = (I' 3905) ∧ (I' 3649) = (I' 3905) ∧ (I' 3777) = (I' 3905) ∧ 0 ≤ (I' 3905) ∧ (I' 3905) ≤ 3 * (I' 2774)) ∧ ((I' 4161) = (I' 4033) ∧ 7 ≤ (I' 4289) ∧ (I' 4289) ≤ (I' 4033) ∧ (I' 4033) ≤ 7 + (I' 2774)) ∧ 0 ≤ (I' 5889) ∧ (I' 5889) ≤ (I' 2774)) ∧ ((I' 2754) = (I 2754) ∧ (I 2774) + 1 ≤ (I' 2774) ∧ (I' 2775) = (I 2775) ∧ (I' 4289) = (I 4289) + 0 ∧ (I' 5889) = (I 5889)) ∧ ((I' 3905) + 2 ≤ (I 3905) + 3 * ((I' 2774) - (I 2774)) ∧ (I 3905) ≤ v ∧ v + 1 = (I' 3905) ∧ (I 4033) ≤ (I' 4033) ∧ (I' 4033) ≤ (I 4033) + ((I' 2774) - (I 2774)))) ∧ (m_SC I' A') ∧ (m_TR lo' I' A') ∧ (m_ST lo I A lo' I' A') ∧ (t_E ((A' 53) (v))) ∧ (m_rt lo' (I' 3905) v) ∧ (m_RK lo' (I 3905) (I' 3905) (8 * (24 - (I 2775)) + 3))) ∨ (∃ (I' : Nat → Int) (A' : Nat → Int → Int) (B' C' : Nat → Nat), (r = .inr 69) ∧ (w_Rep w_TM fr X u l I' A' B' C' M') ∧ (m_fx I A I' A'))
set_option maxHeartbeats 100000000 in
set_option maxRecDepth 100000 in
theorem m_sum {L : Nat} {xs : Nat → Int32} {d : Nat} {fr : Nat → Bool} {X : Nat → Option (q_C (Nat → Int32))} {u l : Nat} {I : Nat → Int} {A : Nat → Int → Int} {B C : Nat → Nat} {M : w_M} {N : Int} (hA : m_all L xs N) (lo : Int → Int × Int) (hR : w_Rep w_TM fr X u l I A B C M) (hd : 20 * (24 - (I 2775)) + 15 ≤ (d : Int)) (hTK : m_TK I A) (hNU : (0 ≤ (I 2774) ∧ (I 2774) < (I 2754) ∧ (I 2754) ≤ 1501 ∧ 0 ≤ (I 2775) ∧ (I 2775) ≤ 24) ∧ ((I 3393) = (I 3905) ∧ (I 3521) = (I 3905) ∧ (I 3649) = (I 3905) ∧ (I 3777) = (I 3905) ∧ 0 ≤ (I 3905) ∧ (I 3905) ≤ 3 * (I 2774)) ∧ ((I 4161) = (I 4033) ∧ 7 ≤ (I 4289) ∧ (I 4289) ≤ (I 4033) ∧ (I 4033) ≤ 7 + (I 2774)) ∧ 0 ≤ (I 5889) ∧ (I 5889) ≤ (I 2774)) (hSC : m_SC I A) (hTR : m_TR lo I A) (hm : (I 2754) - (I 2774) ≤ N) : w_W (z_P L xs) d 247 (0, [(0, .ref 43)], [], M) (m_sum_Q fr X u l I A B C M lo) := by
  obtain ⟨d, rfl⟩ : ∃ d0, d = d0 + 1 := ⟨d - 1, by omega⟩
  refine w_adv (n := 1) (F' := (1, [(0, .ref 43)], [.ref 43], M)) rfl ?_
  refine w_call (cm := 248) (as := [(0, .ref 43)]) (rest := []) (o := some (9, 43)) rfl (w_fitR hR rfl) (m_product hA (lo) hR (show 20 * (24 - (I 2775)) + 14 ≤ (d : Int) by omega) (show m_TK I A by exact hTK) (show (0 ≤ (I 2774) ∧ (I 2774) < (I 2754) ∧ (I 2754) ≤ 1501 ∧ 0 ≤ (I 2775) ∧ (I 2775) ≤ 24) ∧ ((I 3393) = (I 3905) ∧ (I 3521) = (I 3905) ∧ (I 3649) = (I 3905) ∧ (I 3777) = (I 3905) ∧ 0 ≤ (I 3905) ∧ (I 3905) ≤ 3 * (I 2774)) ∧ ((I 4161) = (I 4033) ∧ 7 ≤ (I 4289) ∧ (I 4289) ≤ (I 4033) ∧ (I 4033) ≤ 7 + (I 2774)) ∧ 0 ≤ (I 5889) ∧ (I 5889) ≤ (I 2774) by (repeat' apply And.intro) <;> first | assumption | omega) (show m_SC I A by exact hSC) (show m_TR lo I A by exact hTR) (show (I 2754) - (I 2774) ≤ N by first | assumption | omega)) (fun r1 M2 q3 => ?_)
  rcases q3 with ⟨v4, lo5, I3a, A3a, B3a, C3a, e6, ⟨r7, r8⟩, hR3a, f9, f10, f11, f12, f13, f14, f15, f16⟩ | ⟨I3b, A3b, B3b, C3b, e17, hR3b, f18⟩
  · rw [e6]
    replace hR3a : w_Rep w_TM fr X u l I3a A3a B3a C3a M2 := hR3a
    replace f9 : m_fx I A I3a A3a := f9
    replace f10 : ((0 ≤ (I3a 2774) ∧ (I3a 2774) < (I3a 2754) ∧ (I3a 2754) ≤ 1501 ∧ 0 ≤ (I3a 2775) ∧ (I3a 2775) ≤ 24) ∧ ((I3a 3393) = (I3a 3905) ∧ (I3a 3521) = (I3a 3905) ∧ (I3a 3649) = (I3a 3905) ∧ (I3a 3777) = (I3a 3905) ∧ 0 ≤ (I3a 3905) ∧ (I3a 3905) ≤ 3 * (I3a 2774)) ∧ ((I3a 4161) = (I3a 4033) ∧ 7 ≤ (I3a 4289) ∧ (I3a 4289) ≤ (I3a 4033) ∧ (I3a 4033) ≤ 7 + (I3a 2774)) ∧ 0 ≤ (I3a 5889) ∧ (I3a 5889) ≤ (I3a 2774)) ∧ ((I3a 2754) = (I 2754) ∧ (I 2774) + 1 ≤ (I3a 2774) ∧ (I3a 2775) = (I 2775) ∧ (I3a 4289) = (I 4289) + 0 ∧ (I3a 5889) = (I 5889)) ∧ ((I3a 3905) + 2 ≤ (I 3905) + 3 * ((I3a 2774) - (I 2774)) ∧ (I 3905) ≤ v4 ∧ v4 + 1 = (I3a 3905) ∧ (I 4033) ≤ (I3a 4033) ∧ (I3a 4033) ≤ (I 4033) + ((I3a 2774) - (I 2774))) := f10
    obtain ⟨⟨⟨n19, n20, n21, n22, n23⟩, ⟨n24, n25, n26, n27, n28, n29⟩, ⟨n30, n31, n32, n33⟩, n34, n35⟩, ⟨n36, n37, n38, n39, n40⟩, ⟨n41, n42, n43, n44, n45⟩⟩ := id f10
    clear f10
    replace f11 : m_SC I3a A3a := f11
    replace f12 : m_TR lo5 I3a A3a := f12
    replace f13 : m_ST lo I A lo5 I3a A3a := f13
    replace f14 : t_E ((A3a 53) (v4)) := f14
    replace f15 : m_rt lo5 (I3a 3905) v4 := f15
    replace f16 : m_RK lo5 (I 3905) (I3a 3905) (8 * (24 - (I 2775)) + 2) := f16
    have tk46 : m_TK I3a A3a := m_TK_fx f9 hTK
    have nn47 : (I 3905) ≤ (I3a 3905) := by omega
    have nz48 : 0 ≤ (I 3905) := by first | assumption | omega
    have ho49 : (I 2775) = (I 2775) + (0) := by omega
    have rk51 : m_RK lo5 (I 3905) (I3a 3905) (8 * (24 - (I 2775)) + (2)) := m_RK_app (I := I) (I' := I3a) (R := (8 * (24 - (I 2775)) + (2))) (show m_RK lo (I 3905) (I 3905) (8 * (24 - (I 2775)) + (2)) from fun q q1 q2 => by omega) f13 f16 (show 0 ≤ (I 3905) by first | assumption | omega) (m_r8 (by decide)) (m_r8o (k := 0) ho49 (by decide))
    have s50 : m_ST lo I A lo5 I3a A3a := f13
    have k52 : m_kd lo5 I3a A3a (I 3905) (8 * (24 - (I 2775)) + 2) v4 t_E := m_kd_of f13 f12 nz48 (show (I 3905) ≤ v4 by first | assumption | omega) (show v4 < (I3a 3905) by omega) f14 f16
    obtain ⟨j53, j54, j55, j56, j57⟩ := k52.1
    show w_W _ _ _ (4, [(0, .ref 43)], [.int (Int32.ofInt (v4))], M2) _
    refine w_adv (n := 1) (F' := (5, [(1, .int (Int32.ofInt (v4))), (0, .ref 43)], [], M2)) rfl ?_
    have lp5 : ∀ fu : Nat, ∀ (lo_5 : Int → Int × Int) (y5_1 : Int) (I_5 : Nat → Int) (A_5 : Nat → Int → Int) (B_5 C_5 : Nat → Nat) (M_5 : w_M) (hR_5 : w_Rep w_TM fr X u l I_5 A_5 B_5 C_5 M_5), w_in y5_1 → ((0 ≤ (I_5 2774) ∧ (I_5 2774) < (I_5 2754) ∧ (I_5 2754) ≤ 1501 ∧ 0 ≤ (I_5 2775) ∧ (I_5 2775) ≤ 24) ∧ ((I_5 3393) = (I_5 3905) ∧ (I_5 3521) = (I_5 3905) ∧ (I_5 3649) = (I_5 3905) ∧ (I_5 3777) = (I_5 3905) ∧ 0 ≤ (I_5 3905) ∧ (I_5 3905) ≤ 3 * (I_5 2774)) ∧ ((I_5 4161) = (I_5 4033) ∧ 7 ≤ (I_5 4289) ∧ (I_5 4289) ≤ (I_5 4033) ∧ (I_5 4033) ≤ 7 + (I_5 2774)) ∧ 0 ≤ (I_5 5889) ∧ (I_5 5889) ≤ (I_5 2774)) ∧ ((I_5 2754) = (I 2754) ∧ (I 2774) + 1 ≤ (I_5 2774) ∧ (I_5 2775) = (I 2775) ∧ (I_5 4289) = (I 4289) + 0 ∧ (I_5 5889) = (I 5889)) ∧ ((I_5 3905) + 2 ≤ (I 3905) + 3 * ((I_5 2774) - (I 2774)) ∧ (I 3905) ≤ y5_1 ∧ y5_1 + 1 = (I_5 3905) ∧ (I 4033) ≤ (I_5 4033) ∧ (I_5 4033) ≤ (I 4033) + ((I_5 2774) - (I 2774))) → m_TK I_5 A_5 → m_SC I_5 A_5 → m_TR lo_5 I_5 A_5 → m_ST lo I A lo_5 I_5 A_5 → m_fx I A I_5 A_5 → m_kd lo_5 I_5 A_5 (I 3905) (8 * (24 - (I 2775)) + (3)) y5_1 t_E → m_RK lo_5 (I 3905) (I_5 3905) (8 * (24 - (I 2775)) + (3)) → (fun k => k = 9 ∨ k = 10) ((A_5 53) (y5_1)) ∨ (lo_5 y5_1).2 < (8 * (24 - (I 2775)) + (3)) → (I_5 2754) - (I_5 2774) < (fu : Int) → w_W (z_P L xs) (d + 1) 247 (5, [(0, .ref 43), (1, .int (Int32.ofInt (y5_1)))], [], M_5) (m_sum_Q fr X u l I A B C M lo) := by
      intro fu
      induction fu with
      | zero =>
        intro lo_5 y5_1 I_5 A_5 B_5 C_5 M_5 hR_5 ⟨ra_y5_1, rb_y5_1⟩ hi5_0 hi5_1 hi5_2 hi5_3 hi5_4 hi5_5 hi5_6 hi5_7 hi5_8 hn5
        exfalso
        omega
      | succ fu ih5 =>
        intro lo_5 y5_1 I_5 A_5 B_5 C_5 M_5 hR_5 ⟨ra_y5_1, rb_y5_1⟩ hi5_0 hi5_1 hi5_2 hi5_3 hi5_4 hi5_5 hi5_6 hi5_7 hi5_8 hn5
        obtain ⟨⟨⟨n58, n59, n60, n61, n62⟩, ⟨n63, n64, n65, n66, n67, n68⟩, ⟨n69, n70, n71, n72⟩, n73, n74⟩, ⟨n75, n76, n77, n78, n79⟩, ⟨n80, n81, n82, n83, n84⟩⟩ := hi5_0
        obtain ⟨j85, j86, j87, j88, j89⟩ := hi5_6.1
        refine w_adv (n := 2) (F' := (8, [(0, .ref 43), (1, .int (Int32.ofInt (y5_1)))], [.int (Int32.ofInt (43)), .ref 43], M_5)) rfl ?_
        refine w_call (cm := 230) (as := [(0, .ref 43), (1, .int (Int32.ofInt (43)))]) (rest := []) (o := some (9, 43)) rfl (w_fitR hR_5 rfl) (m_isSign (43) hR_5 ⟨by omega, by omega⟩ (show 0 ≤ (I_5 2774) ∧ (I_5 2774) < 1501 by omega)) (fun r90 M91 q92 => ?_)
        rcases q92 with ⟨e93, e94, f95⟩ | ⟨e96, e97, f98⟩
        · rw [e93, e94]
          replace f95 : (A_5 45) ((I_5 2774)) = 6 ∧ (A_5 46) ((I_5 2774)) = 43 := f95
          obtain ⟨n99, n100⟩ := id f95
          clear f95
          have w101 : (I_5 2774) + 1 < (I_5 2754) := m_TK_lt hi5_1 (by omega) (by omega) (by omega)
          show w_W _ _ _ (11, [(0, .ref 43), (1, .int (Int32.ofInt (y5_1)))], [.int (Int32.ofInt (1))], M_5) _
          refine w_adv (n := 3) (F' := (26, [(0, .ref 43), (1, .int (Int32.ofInt (y5_1)))], [.int (Int32.ofInt (43)), .ref 43], M_5)) rfl ?_
          refine w_call (cm := 230) (as := [(0, .ref 43), (1, .int (Int32.ofInt (43)))]) (rest := []) (o := some (9, 43)) rfl (w_fitR hR_5 rfl) (m_isSign (43) hR_5 ⟨by omega, by omega⟩ (show 0 ≤ (I_5 2774) ∧ (I_5 2774) < 1501 by omega)) (fun r102 M103 q104 => ?_)
          rcases q104 with ⟨e105, e106, f107⟩ | ⟨e108, e109, f110⟩
          · rw [e105, e106]
            replace f107 : (A_5 45) ((I_5 2774)) = 6 ∧ (A_5 46) ((I_5 2774)) = 43 := f107
            obtain ⟨n111, n112⟩ := id f107
            clear f107
            have w113 : (I_5 2774) + 1 < (I_5 2754) := m_TK_lt hi5_1 (by omega) (by omega) (by omega)
            show w_W _ _ _ (29, [(0, .ref 43), (1, .int (Int32.ofInt (y5_1)))], [.int (Int32.ofInt (1))], M_5) _
            refine w_adv (n := 6) (F' := (40, [(2, .int (Int32.ofInt (0))), (0, .ref 43), (1, .int (Int32.ofInt (y5_1)))], [.ref 43, .ref 43], M_5)) rfl ?_
            refine w_gf (v := .int (Int32.ofInt ((I_5 2774)))) hR_5 rfl rfl rfl rfl ?_
            obtain ⟨r114, r115⟩ : -2147483648 ≤ (I_5 2774) ∧ (I_5 2774) ≤ 2147483647 := hR_5.ri 2774
            refine w_adv (n := 1) (F' := (44, [(2, .int (Int32.ofInt (0))), (0, .ref 43), (1, .int (Int32.ofInt (y5_1)))], [.int (Int32.ofInt (1)), .int (Int32.ofInt ((I_5 2774))), .ref 43], M_5)) rfl ?_
            refine w_add rfl ?_
            refine w_pf hR_5 rfl rfl rfl rfl (show w_in ((I_5 2774) + 1) from ⟨by omega, by omega⟩) (fun h => absurd h (by decide)) (fun M116 hR117 => ?_)
            replace hR117 : w_Rep w_TM fr X u l (w_up I_5 2774 ((I_5 2774) + 1)) A_5 B_5 C_5 M116 := hR117
            refine w_adv (n := 5) (F' := (54, [(2, .int (Int32.ofInt (0))), (0, .ref 43), (1, .int (Int32.ofInt (y5_1)))], [.ref 43, .int (Int32.ofInt (y5_1)), .int (Int32.ofInt (0)), .int (Int32.ofInt (9)), .ref 43], M116)) rfl ?_
            refine w_call (cm := 248) (as := [(0, .ref 43)]) (rest := [.int (Int32.ofInt (y5_1)), .int (Int32.ofInt (0)), .int (Int32.ofInt (9)), .ref 43]) (o := some (9, 43)) rfl (w_fitR hR117 rfl) (m_product hA (lo_5) hR117 (show 20 * (24 - (I_5 2775)) + 14 ≤ (d : Int) by omega) (show m_TK (w_up I_5 2774 ((I_5 2774) + 1)) A_5 by exact hi5_1) (show (0 ≤ (I_5 2774) + 1 ∧ (I_5 2774) + 1 < (I_5 2754) ∧ (I_5 2754) ≤ 1501 ∧ 0 ≤ (I_5 2775) ∧ (I_5 2775) ≤ 24) ∧ ((I_5 3393) = (I_5 3905) ∧ (I_5 3521) = (I_5 3905) ∧ (I_5 3649) = (I_5 3905) ∧ (I_5 3777) = (I_5 3905) ∧ 0 ≤ (I_5 3905) ∧ (I_5 3905) ≤ 3 * ((I_5 2774) + 1)) ∧ ((I_5 4161) = (I_5 4033) ∧ 7 ≤ (I_5 4289) ∧ (I_5 4289) ≤ (I_5 4033) ∧ (I_5 4033) ≤ 7 + ((I_5 2774) + 1)) ∧ 0 ≤ (I_5 5889) ∧ (I_5 5889) ≤ (I_5 2774) + 1 by (repeat' apply And.intro) <;> first | assumption | omega) (show m_SC (w_up I_5 2774 ((I_5 2774) + 1)) A_5 by exact hi5_2) (show m_TR lo_5 (w_up I_5 2774 ((I_5 2774) + 1)) A_5 by exact hi5_3) (show (I_5 2754) - ((I_5 2774) + 1) ≤ N by first | assumption | omega)) (fun r118 M119 q120 => ?_)
            rcases q120 with ⟨v121, lo122, I120a, A120a, B120a, C120a, e123, ⟨r124, r125⟩, hR120a, f126, f127, f128, f129, f130, f131, f132, f133⟩ | ⟨I120b, A120b, B120b, C120b, e134, hR120b, f135⟩
            · rw [e123]
              replace hR120a : w_Rep w_TM fr X u l I120a A120a B120a C120a M119 := hR120a
              replace f126 : m_fx (w_up I_5 2774 ((I_5 2774) + 1)) A_5 I120a A120a := f126
              replace f127 : ((0 ≤ (I120a 2774) ∧ (I120a 2774) < (I120a 2754) ∧ (I120a 2754) ≤ 1501 ∧ 0 ≤ (I120a 2775) ∧ (I120a 2775) ≤ 24) ∧ ((I120a 3393) = (I120a 3905) ∧ (I120a 3521) = (I120a 3905) ∧ (I120a 3649) = (I120a 3905) ∧ (I120a 3777) = (I120a 3905) ∧ 0 ≤ (I120a 3905) ∧ (I120a 3905) ≤ 3 * (I120a 2774)) ∧ ((I120a 4161) = (I120a 4033) ∧ 7 ≤ (I120a 4289) ∧ (I120a 4289) ≤ (I120a 4033) ∧ (I120a 4033) ≤ 7 + (I120a 2774)) ∧ 0 ≤ (I120a 5889) ∧ (I120a 5889) ≤ (I120a 2774)) ∧ ((I120a 2754) = (I_5 2754) ∧ ((I_5 2774) + 1) + 1 ≤ (I120a 2774) ∧ (I120a 2775) = (I_5 2775) ∧ (I120a 4289) = (I_5 4289) + 0 ∧ (I120a 5889) = (I_5 5889)) ∧ ((I120a 3905) + 2 ≤ (I_5 3905) + 3 * ((I120a 2774) - ((I_5 2774) + 1)) ∧ (I_5 3905) ≤ v121 ∧ v121 + 1 = (I120a 3905) ∧ (I_5 4033) ≤ (I120a 4033) ∧ (I120a 4033) ≤ (I_5 4033) + ((I120a 2774) - ((I_5 2774) + 1))) := f127
              obtain ⟨⟨⟨n136, n137, n138, n139, n140⟩, ⟨n141, n142, n143, n144, n145, n146⟩, ⟨n147, n148, n149, n150⟩, n151, n152⟩, ⟨n153, n154, n155, n156, n157⟩, ⟨n158, n159, n160, n161, n162⟩⟩ := id f127
              clear f127
              replace f128 : m_SC I120a A120a := f128
              replace f129 : m_TR lo122 I120a A120a := f129
              replace f130 : m_ST lo_5 (w_up I_5 2774 ((I_5 2774) + 1)) A_5 lo122 I120a A120a := f130
              replace f131 : t_E ((A120a 53) (v121)) := f131
              replace f132 : m_rt lo122 (I120a 3905) v121 := f132
              replace f133 : m_RK lo122 (I_5 3905) (I120a 3905) (8 * (24 - (I_5 2775)) + 2) := f133
              have tk163 : m_TK I120a A120a := m_TK_fx f126 hi5_1
              have nn164 : (I_5 3905) ≤ (I120a 3905) := by omega
              have nz165 : 0 ≤ (I_5 3905) := by first | assumption | omega
              have ho166 : (I_5 2775) = (I 2775) + (0) := by omega
              have rk168 : m_RK lo122 (I 3905) (I120a 3905) (8 * (24 - (I 2775)) + (3)) := m_RK_app (I := (w_up I_5 2774 ((I_5 2774) + 1))) (I' := I120a) (R := (8 * (24 - (I 2775)) + (3))) (show m_RK lo_5 (I 3905) (I_5 3905) (8 * (24 - (I 2775)) + (3)) from hi5_7) f130 f133 (show 0 ≤ (I 3905) by first | assumption | omega) (m_r8 (by decide)) (m_r8o (k := 0) ho166 (by decide))
              have s167 : m_ST lo I A lo122 I120a A120a := m_ST_trans (show m_ST lo I A lo_5 (w_up I_5 2774 ((I_5 2774) + 1)) A_5 from hi5_4) f130 (show 0 ≤ (I 3905) by first | assumption | omega) (show (I 3905) ≤ (I_5 3905) by first | assumption | omega) (show (I 4289) ≤ (I_5 4289) by first | assumption | omega) (show (I 5889) ≤ (I_5 5889) by first | assumption | omega)
              have k169 : m_kd lo122 I120a A120a (I 3905) (8 * (24 - (I 2775)) + (3)) y5_1 t_E := m_kd_ST f130 nn164 hi5_6
              have op170 := m_ork_ST (p := (fun k => k = 9 ∨ k = 10)) f130 hi5_6 hi5_8
              have k171 : m_kd lo122 I120a A120a (I_5 3905) (8 * (24 - (I_5 2775)) + 2) v121 t_E := m_kd_of f130 f129 nz165 (show (I_5 3905) ≤ v121 by first | assumption | omega) (show v121 < (I120a 3905) by omega) f131 f133
              obtain ⟨j172, j173, j174, j175, j176⟩ := k171.1
              show w_W _ _ _ (57, [(2, .int (Int32.ofInt (0))), (0, .ref 43), (1, .int (Int32.ofInt (y5_1)))], [.int (Int32.ofInt (v121)), .int (Int32.ofInt (y5_1)), .int (Int32.ofInt (0)), .int (Int32.ofInt (9)), .ref 43], M119) _
              refine w_call (cm := 239) (as := [(0, .ref 43), (1, .int (Int32.ofInt (9))), (2, .int (Int32.ofInt (0))), (3, .int (Int32.ofInt (y5_1))), (4, .int (Int32.ofInt (v121)))]) (rest := []) (o := some (9, 43)) rfl (w_fitR hR120a rfl) (m_node (9) (0) (y5_1) (v121) hR120a (show 2 ≤ d by omega) ⟨by omega, by omega⟩ ⟨by omega, by omega⟩ ⟨by omega, by omega⟩ ⟨by omega, by omega⟩ (show (I120a 3393) = (I120a 3905) by first | assumption | omega) (show (I120a 3521) = (I120a 3905) by first | assumption | omega) (show (I120a 3649) = (I120a 3905) by first | assumption | omega) (show (I120a 3777) = (I120a 3905) by first | assumption | omega) (show (I120a 3905) < 65536 by first | assumption | omega)) (fun r177 M178 q179 => ?_)
              rcases q179 with ⟨v180, I179a, A179a, B179a, C179a, e181, ⟨r182, r183⟩, hR179a, f184, f185⟩
              rw [e181]
              replace hR179a : w_Rep w_TM fr X u l I179a A179a B179a C179a M178 := hR179a
              replace f184 : m_fx I120a A120a I179a A179a := f184
              replace f185 : m_nd I120a A120a I179a A179a v180 9 0 y5_1 v121 := f185
              obtain ⟨⟨n186, n187, n188, n189, n190, n191⟩, ⟨n192, n193, n194, n195, n196, n197, n198⟩⟩ : (v180 = (I120a 3905) ∧ (I179a 3905) = (I120a 3905) + 1 ∧ (I179a 3393) = (I120a 3393) + 1 ∧ (I179a 3521) = (I120a 3521) + 1 ∧ (I179a 3649) = (I120a 3649) + 1 ∧ (I179a 3777) = (I120a 3777) + 1) ∧ ((I179a 2774) = (I120a 2774) ∧ (I179a 2754) = (I120a 2754) ∧ (I179a 2775) = (I120a 2775) ∧ (I179a 4289) = (I120a 4289) ∧ (I179a 4033) = (I120a 4033) ∧ (I179a 4161) = (I120a 4161) ∧ (I179a 5889) = (I120a 5889)) := m_nd_num f185
              have tk199 : m_TK I179a A179a := m_TK_fx f184 tk163
              have sc200 : m_SC I179a A179a := m_SC_nd f185 f128
              have tr201 : m_TR (t_up lo122 v180 (I 3905) (8 * (24 - (I 2775)) + (3))) I179a A179a := m_TR_nd (show m_TR lo122 I120a A120a from f129) f185 (show 0 ≤ (I 3905) by omega) (show (I 3905) ≤ v180 by omega) (m_cl_ST (show m_ST lo I A lo122 I120a A120a from s167) hTR (show 0 ≤ (I 3905) by omega)) (t_N_mk9 t_up_same (show 0 ≤ (I 3905) by omega) (show (I 3905) ≤ v180 by omega) (show 0 ≤ (8 * (24 - (I 2775)) + (3)) by omega) (m_hw2 (show m_RK lo122 (I 3905) v180 (8 * (24 - (I 2775)) + (3)) from fun q q1 q2 => (show m_RK lo122 (I 3905) (I120a 3905) (8 * (24 - (I 2775)) + (3)) from rk168) q (show (I 3905) ≤ q by omega) (show q < (I120a 3905) by omega)) (m_r8 (by decide))) ⟨m_ch f185 (show (I 3905) ≤ (I 3905) by omega) k169, m_ch f185 (show (I 3905) ≤ (I_5 3905) by omega) k171, m_od f185 k171 (show y5_1 < (I_5 3905) by omega), (m_ork2 (p := (fun k => k = 9 ∨ k = 10)) f185 k169 op170), (m_ork f185 k171 (show (8 * (24 - (I_5 2775)) + 2) < (8 * (24 - (I 2775)) + (3)) by omega))⟩)
              have s202 : m_ST lo I A (t_up lo122 v180 (I 3905) (8 * (24 - (I 2775)) + (3))) I179a A179a := m_ST_nd (l := (I 3905)) (show m_ST lo I A lo122 I120a A120a from s167) f185 (show (I 3905) ≤ (I 3905) by omega) (show (I 3905) ≤ (I120a 3905) by omega)
              have rk203 : m_RK (t_up lo122 v180 (I 3905) (8 * (24 - (I 2775)) + (3))) (I 3905) (I179a 3905) (8 * (24 - (I 2775)) + (3)) := fun q q1 q2 => m_RK_nd (show m_RK lo122 (I 3905) v180 (8 * (24 - (I 2775)) + (3)) from fun q q1 q2 => (show m_RK lo122 (I 3905) (I120a 3905) (8 * (24 - (I 2775)) + (3)) from rk168) q q1 (show q < (I120a 3905) by omega)) (m_r8 (by decide)) (m_r8 (by decide)) q q1 (show q < v180 + 1 by omega)
              have k204 : m_kd (t_up lo122 v180 (I 3905) (8 * (24 - (I 2775)) + (3))) I179a A179a (I 3905) (8 * (24 - (I 2775)) + (3)) v180 (fun k => k = 9) := m_kd_new f185 (show 0 ≤ (I 3905) by omega) (show (I 3905) ≤ v180 by omega) rfl
              have rt205 : m_rt (t_up lo122 v180 (I 3905) (8 * (24 - (I 2775)) + (3))) (I179a 3905) v180 := m_rt_new f185
              have op206 : (fun k => k = 9 ∨ k = 10) ((A179a 53) (v180)) ∨ ((t_up lo122 v180 (I 3905) (8 * (24 - (I 2775)) + (3))) v180).2 < (8 * (24 - (I 2775)) + (3)) := Or.inl (by have q1 : (A179a 53) (v180) = 9 := k204.2; omega)
              show w_W _ _ _ (60, [(2, .int (Int32.ofInt (0))), (0, .ref 43), (1, .int (Int32.ofInt (y5_1)))], [.int (Int32.ofInt (v180))], M178) _
              refine w_adv (n := 2) (F' := (5, [(1, .int (Int32.ofInt (v180))), (2, .int (Int32.ofInt (0))), (0, .ref 43)], [], M178)) rfl ?_
              refine w_ls (ls := [(0, .ref 43), (1, .int (Int32.ofInt (v180)))]) (show List.Nodup [0, 1] by decide) (show List.Nodup [1, 2, 0] by decide) (List.forall_mem_cons.mpr ⟨(List.Mem.tail _ (List.Mem.tail _ (List.Mem.head _))), (List.forall_mem_cons.mpr ⟨(List.Mem.head _), (fun _ h => by cases h)⟩)⟩) ?_
              exact ih5 (t_up lo122 v180 (I 3905) (8 * (24 - (I 2775)) + (3))) (v180) I179a A179a B179a C179a M178 hR179a ⟨by omega, by omega⟩ (show ((0 ≤ (I179a 2774) ∧ (I179a 2774) < (I179a 2754) ∧ (I179a 2754) ≤ 1501 ∧ 0 ≤ (I179a 2775) ∧ (I179a 2775) ≤ 24) ∧ ((I179a 3393) = (I179a 3905) ∧ (I179a 3521) = (I179a 3905) ∧ (I179a 3649) = (I179a 3905) ∧ (I179a 3777) = (I179a 3905) ∧ 0 ≤ (I179a 3905) ∧ (I179a 3905) ≤ 3 * (I179a 2774)) ∧ ((I179a 4161) = (I179a 4033) ∧ 7 ≤ (I179a 4289) ∧ (I179a 4289) ≤ (I179a 4033) ∧ (I179a 4033) ≤ 7 + (I179a 2774)) ∧ 0 ≤ (I179a 5889) ∧ (I179a 5889) ≤ (I179a 2774)) ∧ ((I179a 2754) = (I 2754) ∧ (I 2774) + 1 ≤ (I179a 2774) ∧ (I179a 2775) = (I 2775) ∧ (I179a 4289) = (I 4289) + 0 ∧ (I179a 5889) = (I 5889)) ∧ ((I179a 3905) + 2 ≤ (I 3905) + 3 * ((I179a 2774) - (I 2774)) ∧ (I 3905) ≤ v180 ∧ v180 + 1 = (I179a 3905) ∧ (I 4033) ≤ (I179a 4033) ∧ (I179a 4033) ≤ (I 4033) + ((I179a 2774) - (I 2774))) by (repeat' apply And.intro) <;> first | assumption | omega) (show m_TK I179a A179a by exact tk199) (show m_SC I179a A179a by exact sc200) (show m_TR (t_up lo122 v180 (I 3905) (8 * (24 - (I 2775)) + (3))) I179a A179a by exact tr201) (show m_ST lo I A (t_up lo122 v180 (I 3905) (8 * (24 - (I 2775)) + (3))) I179a A179a by exact s202) (show m_fx I A I179a A179a by exact (m_fx_trans (m_fx_trans hi5_5 f126) f184)) (show m_kd (t_up lo122 v180 (I 3905) (8 * (24 - (I 2775)) + (3))) I179a A179a (I 3905) (8 * (24 - (I 2775)) + (3)) v180 t_E by exact m_kd_l (m_kd_K k204 (fun k h => by have h : k = 9 := h; unfold t_E; omega)) (by omega) (by omega) (by omega)) (show m_RK (t_up lo122 v180 (I 3905) (8 * (24 - (I 2775)) + (3))) (I 3905) (I179a 3905) (8 * (24 - (I 2775)) + (3)) by exact m_RK_le (show m_RK (t_up lo122 v180 (I 3905) (8 * (24 - (I 2775)) + (3))) (I 3905) (I179a 3905) (8 * (24 - (I 2775)) + (3)) from rk203) (show (8 * (24 - (I 2775)) + (3)) ≤ (8 * (24 - (I 2775)) + (3)) by omega)) (show (fun k => k = 9 ∨ k = 10) ((A179a 53) (v180)) ∨ ((t_up lo122 v180 (I 3905) (8 * (24 - (I 2775)) + (3))) v180).2 < (8 * (24 - (I 2775)) + (3)) by exact op206) (by omega)
            · rw [e134]
              replace hR120b : w_Rep w_TM fr X u l I120b A120b B120b C120b M119 := hR120b
              replace f135 : m_fx (w_up I_5 2774 ((I_5 2774) + 1)) A_5 I120b A120b := f135
              exact Or.inr (⟨I120b, A120b, B120b, C120b, rfl, hR120b, (show m_fx I A I120b A120b by exact (m_fx_trans hi5_5 f135))⟩)
          · rw [e108, e109]
            replace f110 : ¬ ((A_5 45) ((I_5 2774)) = 6 ∧ (A_5 46) ((I_5 2774)) = 43) := f110
            exfalso; omega
        · rw [e96, e97]
          replace f98 : ¬ ((A_5 45) ((I_5 2774)) = 6 ∧ (A_5 46) ((I_5 2774)) = 43) := f98
          show w_W _ _ _ (11, [(0, .ref 43), (1, .int (Int32.ofInt (y5_1)))], [.int (Int32.ofInt (0))], M_5) _
          refine w_adv (n := 3) (F' := (17, [(0, .ref 43), (1, .int (Int32.ofInt (y5_1)))], [.int (Int32.ofInt (45)), .ref 43], M_5)) rfl ?_
          refine w_call (cm := 230) (as := [(0, .ref 43), (1, .int (Int32.ofInt (45)))]) (rest := []) (o := some (9, 43)) rfl (w_fitR hR_5 rfl) (m_isSign (45) hR_5 ⟨by omega, by omega⟩ (show 0 ≤ (I_5 2774) ∧ (I_5 2774) < 1501 by omega)) (fun r207 M208 q209 => ?_)
          rcases q209 with ⟨e210, e211, f212⟩ | ⟨e213, e214, f215⟩
          · rw [e210, e211]
            replace f212 : (A_5 45) ((I_5 2774)) = 6 ∧ (A_5 46) ((I_5 2774)) = 45 := f212
            obtain ⟨n216, n217⟩ := id f212
            clear f212
            have w218 : (I_5 2774) + 1 < (I_5 2754) := m_TK_lt hi5_1 (by omega) (by omega) (by omega)
            show w_W _ _ _ (20, [(0, .ref 43), (1, .int (Int32.ofInt (y5_1)))], [.int (Int32.ofInt (1))], M_5) _
            refine w_adv (n := 3) (F' := (26, [(0, .ref 43), (1, .int (Int32.ofInt (y5_1)))], [.int (Int32.ofInt (43)), .ref 43], M_5)) rfl ?_
            refine w_call (cm := 230) (as := [(0, .ref 43), (1, .int (Int32.ofInt (43)))]) (rest := []) (o := some (9, 43)) rfl (w_fitR hR_5 rfl) (m_isSign (43) hR_5 ⟨by omega, by omega⟩ (show 0 ≤ (I_5 2774) ∧ (I_5 2774) < 1501 by omega)) (fun r219 M220 q221 => ?_)
            rcases q221 with ⟨e222, e223, f224⟩ | ⟨e225, e226, f227⟩
            · rw [e222, e223]
              replace f224 : (A_5 45) ((I_5 2774)) = 6 ∧ (A_5 46) ((I_5 2774)) = 43 := f224
              obtain ⟨n228, n229⟩ := id f224
              clear f224
              exfalso; omega
            · rw [e225, e226]
              replace f227 : ¬ ((A_5 45) ((I_5 2774)) = 6 ∧ (A_5 46) ((I_5 2774)) = 43) := f227
              show w_W _ _ _ (29, [(0, .ref 43), (1, .int (Int32.ofInt (y5_1)))], [.int (Int32.ofInt (0))], M_5) _
              refine w_adv (n := 5) (F' := (40, [(2, .int (Int32.ofInt (1))), (0, .ref 43), (1, .int (Int32.ofInt (y5_1)))], [.ref 43, .ref 43], M_5)) rfl ?_
              refine w_gf (v := .int (Int32.ofInt ((I_5 2774)))) hR_5 rfl rfl rfl rfl ?_
              obtain ⟨r230, r231⟩ : -2147483648 ≤ (I_5 2774) ∧ (I_5 2774) ≤ 2147483647 := hR_5.ri 2774
              refine w_adv (n := 1) (F' := (44, [(2, .int (Int32.ofInt (1))), (0, .ref 43), (1, .int (Int32.ofInt (y5_1)))], [.int (Int32.ofInt (1)), .int (Int32.ofInt ((I_5 2774))), .ref 43], M_5)) rfl ?_
              refine w_add rfl ?_
              refine w_pf hR_5 rfl rfl rfl rfl (show w_in ((I_5 2774) + 1) from ⟨by omega, by omega⟩) (fun h => absurd h (by decide)) (fun M232 hR233 => ?_)
              replace hR233 : w_Rep w_TM fr X u l (w_up I_5 2774 ((I_5 2774) + 1)) A_5 B_5 C_5 M232 := hR233
              refine w_adv (n := 5) (F' := (54, [(2, .int (Int32.ofInt (1))), (0, .ref 43), (1, .int (Int32.ofInt (y5_1)))], [.ref 43, .int (Int32.ofInt (y5_1)), .int (Int32.ofInt (1)), .int (Int32.ofInt (9)), .ref 43], M232)) rfl ?_
              refine w_call (cm := 248) (as := [(0, .ref 43)]) (rest := [.int (Int32.ofInt (y5_1)), .int (Int32.ofInt (1)), .int (Int32.ofInt (9)), .ref 43]) (o := some (9, 43)) rfl (w_fitR hR233 rfl) (m_product hA (lo_5) hR233 (show 20 * (24 - (I_5 2775)) + 14 ≤ (d : Int) by omega) (show m_TK (w_up I_5 2774 ((I_5 2774) + 1)) A_5 by exact hi5_1) (show (0 ≤ (I_5 2774) + 1 ∧ (I_5 2774) + 1 < (I_5 2754) ∧ (I_5 2754) ≤ 1501 ∧ 0 ≤ (I_5 2775) ∧ (I_5 2775) ≤ 24) ∧ ((I_5 3393) = (I_5 3905) ∧ (I_5 3521) = (I_5 3905) ∧ (I_5 3649) = (I_5 3905) ∧ (I_5 3777) = (I_5 3905) ∧ 0 ≤ (I_5 3905) ∧ (I_5 3905) ≤ 3 * ((I_5 2774) + 1)) ∧ ((I_5 4161) = (I_5 4033) ∧ 7 ≤ (I_5 4289) ∧ (I_5 4289) ≤ (I_5 4033) ∧ (I_5 4033) ≤ 7 + ((I_5 2774) + 1)) ∧ 0 ≤ (I_5 5889) ∧ (I_5 5889) ≤ (I_5 2774) + 1 by (repeat' apply And.intro) <;> first | assumption | omega) (show m_SC (w_up I_5 2774 ((I_5 2774) + 1)) A_5 by exact hi5_2) (show m_TR lo_5 (w_up I_5 2774 ((I_5 2774) + 1)) A_5 by exact hi5_3) (show (I_5 2754) - ((I_5 2774) + 1) ≤ N by first | assumption | omega)) (fun r234 M235 q236 => ?_)
              rcases q236 with ⟨v237, lo238, I236a, A236a, B236a, C236a, e239, ⟨r240, r241⟩, hR236a, f242, f243, f244, f245, f246, f247, f248, f249⟩ | ⟨I236b, A236b, B236b, C236b, e250, hR236b, f251⟩
              · rw [e239]
                replace hR236a : w_Rep w_TM fr X u l I236a A236a B236a C236a M235 := hR236a
                replace f242 : m_fx (w_up I_5 2774 ((I_5 2774) + 1)) A_5 I236a A236a := f242
                replace f243 : ((0 ≤ (I236a 2774) ∧ (I236a 2774) < (I236a 2754) ∧ (I236a 2754) ≤ 1501 ∧ 0 ≤ (I236a 2775) ∧ (I236a 2775) ≤ 24) ∧ ((I236a 3393) = (I236a 3905) ∧ (I236a 3521) = (I236a 3905) ∧ (I236a 3649) = (I236a 3905) ∧ (I236a 3777) = (I236a 3905) ∧ 0 ≤ (I236a 3905) ∧ (I236a 3905) ≤ 3 * (I236a 2774)) ∧ ((I236a 4161) = (I236a 4033) ∧ 7 ≤ (I236a 4289) ∧ (I236a 4289) ≤ (I236a 4033) ∧ (I236a 4033) ≤ 7 + (I236a 2774)) ∧ 0 ≤ (I236a 5889) ∧ (I236a 5889) ≤ (I236a 2774)) ∧ ((I236a 2754) = (I_5 2754) ∧ ((I_5 2774) + 1) + 1 ≤ (I236a 2774) ∧ (I236a 2775) = (I_5 2775) ∧ (I236a 4289) = (I_5 4289) + 0 ∧ (I236a 5889) = (I_5 5889)) ∧ ((I236a 3905) + 2 ≤ (I_5 3905) + 3 * ((I236a 2774) - ((I_5 2774) + 1)) ∧ (I_5 3905) ≤ v237 ∧ v237 + 1 = (I236a 3905) ∧ (I_5 4033) ≤ (I236a 4033) ∧ (I236a 4033) ≤ (I_5 4033) + ((I236a 2774) - ((I_5 2774) + 1))) := f243
                obtain ⟨⟨⟨n252, n253, n254, n255, n256⟩, ⟨n257, n258, n259, n260, n261, n262⟩, ⟨n263, n264, n265, n266⟩, n267, n268⟩, ⟨n269, n270, n271, n272, n273⟩, ⟨n274, n275, n276, n277, n278⟩⟩ := id f243
                clear f243
                replace f244 : m_SC I236a A236a := f244
                replace f245 : m_TR lo238 I236a A236a := f245
                replace f246 : m_ST lo_5 (w_up I_5 2774 ((I_5 2774) + 1)) A_5 lo238 I236a A236a := f246
                replace f247 : t_E ((A236a 53) (v237)) := f247
                replace f248 : m_rt lo238 (I236a 3905) v237 := f248
                replace f249 : m_RK lo238 (I_5 3905) (I236a 3905) (8 * (24 - (I_5 2775)) + 2) := f249
                have tk279 : m_TK I236a A236a := m_TK_fx f242 hi5_1
                have nn280 : (I_5 3905) ≤ (I236a 3905) := by omega
                have nz281 : 0 ≤ (I_5 3905) := by first | assumption | omega
                have ho282 : (I_5 2775) = (I 2775) + (0) := by omega
                have rk284 : m_RK lo238 (I 3905) (I236a 3905) (8 * (24 - (I 2775)) + (3)) := m_RK_app (I := (w_up I_5 2774 ((I_5 2774) + 1))) (I' := I236a) (R := (8 * (24 - (I 2775)) + (3))) (show m_RK lo_5 (I 3905) (I_5 3905) (8 * (24 - (I 2775)) + (3)) from hi5_7) f246 f249 (show 0 ≤ (I 3905) by first | assumption | omega) (m_r8 (by decide)) (m_r8o (k := 0) ho282 (by decide))
                have s283 : m_ST lo I A lo238 I236a A236a := m_ST_trans (show m_ST lo I A lo_5 (w_up I_5 2774 ((I_5 2774) + 1)) A_5 from hi5_4) f246 (show 0 ≤ (I 3905) by first | assumption | omega) (show (I 3905) ≤ (I_5 3905) by first | assumption | omega) (show (I 4289) ≤ (I_5 4289) by first | assumption | omega) (show (I 5889) ≤ (I_5 5889) by first | assumption | omega)
                have k285 : m_kd lo238 I236a A236a (I 3905) (8 * (24 - (I 2775)) + (3)) y5_1 t_E := m_kd_ST f246 nn280 hi5_6
                have op286 := m_ork_ST (p := (fun k => k = 9 ∨ k = 10)) f246 hi5_6 hi5_8
                have k287 : m_kd lo238 I236a A236a (I_5 3905) (8 * (24 - (I_5 2775)) + 2) v237 t_E := m_kd_of f246 f245 nz281 (show (I_5 3905) ≤ v237 by first | assumption | omega) (show v237 < (I236a 3905) by omega) f247 f249
                obtain ⟨j288, j289, j290, j291, j292⟩ := k287.1
                show w_W _ _ _ (57, [(2, .int (Int32.ofInt (1))), (0, .ref 43), (1, .int (Int32.ofInt (y5_1)))], [.int (Int32.ofInt (v237)), .int (Int32.ofInt (y5_1)), .int (Int32.ofInt (1)), .int (Int32.ofInt (9)), .ref 43], M235) _
                refine w_call (cm := 239) (as := [(0, .ref 43), (1, .int (Int32.ofInt (9))), (2, .int (Int32.ofInt (1))), (3, .int (Int32.ofInt (y5_1))), (4, .int (Int32.ofInt (v237)))]) (rest := []) (o := some (9, 43)) rfl (w_fitR hR236a rfl) (m_node (9) (1) (y5_1) (v237) hR236a (show 2 ≤ d by omega) ⟨by omega, by omega⟩ ⟨by omega, by omega⟩ ⟨by omega, by omega⟩ ⟨by omega, by omega⟩ (show (I236a 3393) = (I236a 3905) by first | assumption | omega) (show (I236a 3521) = (I236a 3905) by first | assumption | omega) (show (I236a 3649) = (I236a 3905) by first | assumption | omega) (show (I236a 3777) = (I236a 3905) by first | assumption | omega) (show (I236a 3905) < 65536 by first | assumption | omega)) (fun r293 M294 q295 => ?_)
                rcases q295 with ⟨v296, I295a, A295a, B295a, C295a, e297, ⟨r298, r299⟩, hR295a, f300, f301⟩
                rw [e297]
                replace hR295a : w_Rep w_TM fr X u l I295a A295a B295a C295a M294 := hR295a
                replace f300 : m_fx I236a A236a I295a A295a := f300
                replace f301 : m_nd I236a A236a I295a A295a v296 9 1 y5_1 v237 := f301
                obtain ⟨⟨n302, n303, n304, n305, n306, n307⟩, ⟨n308, n309, n310, n311, n312, n313, n314⟩⟩ : (v296 = (I236a 3905) ∧ (I295a 3905) = (I236a 3905) + 1 ∧ (I295a 3393) = (I236a 3393) + 1 ∧ (I295a 3521) = (I236a 3521) + 1 ∧ (I295a 3649) = (I236a 3649) + 1 ∧ (I295a 3777) = (I236a 3777) + 1) ∧ ((I295a 2774) = (I236a 2774) ∧ (I295a 2754) = (I236a 2754) ∧ (I295a 2775) = (I236a 2775) ∧ (I295a 4289) = (I236a 4289) ∧ (I295a 4033) = (I236a 4033) ∧ (I295a 4161) = (I236a 4161) ∧ (I295a 5889) = (I236a 5889)) := m_nd_num f301
                have tk315 : m_TK I295a A295a := m_TK_fx f300 tk279
                have sc316 : m_SC I295a A295a := m_SC_nd f301 f244
                have tr317 : m_TR (t_up lo238 v296 (I 3905) (8 * (24 - (I 2775)) + (3))) I295a A295a := m_TR_nd (show m_TR lo238 I236a A236a from f245) f301 (show 0 ≤ (I 3905) by omega) (show (I 3905) ≤ v296 by omega) (m_cl_ST (show m_ST lo I A lo238 I236a A236a from s283) hTR (show 0 ≤ (I 3905) by omega)) (t_N_mk9 t_up_same (show 0 ≤ (I 3905) by omega) (show (I 3905) ≤ v296 by omega) (show 0 ≤ (8 * (24 - (I 2775)) + (3)) by omega) (m_hw2 (show m_RK lo238 (I 3905) v296 (8 * (24 - (I 2775)) + (3)) from fun q q1 q2 => (show m_RK lo238 (I 3905) (I236a 3905) (8 * (24 - (I 2775)) + (3)) from rk284) q (show (I 3905) ≤ q by omega) (show q < (I236a 3905) by omega)) (m_r8 (by decide))) ⟨m_ch f301 (show (I 3905) ≤ (I 3905) by omega) k285, m_ch f301 (show (I 3905) ≤ (I_5 3905) by omega) k287, m_od f301 k287 (show y5_1 < (I_5 3905) by omega), (m_ork2 (p := (fun k => k = 9 ∨ k = 10)) f301 k285 op286), (m_ork f301 k287 (show (8 * (24 - (I_5 2775)) + 2) < (8 * (24 - (I 2775)) + (3)) by omega))⟩)
                have s318 : m_ST lo I A (t_up lo238 v296 (I 3905) (8 * (24 - (I 2775)) + (3))) I295a A295a := m_ST_nd (l := (I 3905)) (show m_ST lo I A lo238 I236a A236a from s283) f301 (show (I 3905) ≤ (I 3905) by omega) (show (I 3905) ≤ (I236a 3905) by omega)
                have rk319 : m_RK (t_up lo238 v296 (I 3905) (8 * (24 - (I 2775)) + (3))) (I 3905) (I295a 3905) (8 * (24 - (I 2775)) + (3)) := fun q q1 q2 => m_RK_nd (show m_RK lo238 (I 3905) v296 (8 * (24 - (I 2775)) + (3)) from fun q q1 q2 => (show m_RK lo238 (I 3905) (I236a 3905) (8 * (24 - (I 2775)) + (3)) from rk284) q q1 (show q < (I236a 3905) by omega)) (m_r8 (by decide)) (m_r8 (by decide)) q q1 (show q < v296 + 1 by omega)
                have k320 : m_kd (t_up lo238 v296 (I 3905) (8 * (24 - (I 2775)) + (3))) I295a A295a (I 3905) (8 * (24 - (I 2775)) + (3)) v296 (fun k => k = 9) := m_kd_new f301 (show 0 ≤ (I 3905) by omega) (show (I 3905) ≤ v296 by omega) rfl
                have rt321 : m_rt (t_up lo238 v296 (I 3905) (8 * (24 - (I 2775)) + (3))) (I295a 3905) v296 := m_rt_new f301
                have op322 : (fun k => k = 9 ∨ k = 10) ((A295a 53) (v296)) ∨ ((t_up lo238 v296 (I 3905) (8 * (24 - (I 2775)) + (3))) v296).2 < (8 * (24 - (I 2775)) + (3)) := Or.inl (by have q1 : (A295a 53) (v296) = 9 := k320.2; omega)
                show w_W _ _ _ (60, [(2, .int (Int32.ofInt (1))), (0, .ref 43), (1, .int (Int32.ofInt (y5_1)))], [.int (Int32.ofInt (v296))], M294) _
                refine w_adv (n := 2) (F' := (5, [(1, .int (Int32.ofInt (v296))), (2, .int (Int32.ofInt (1))), (0, .ref 43)], [], M294)) rfl ?_
                refine w_ls (ls := [(0, .ref 43), (1, .int (Int32.ofInt (v296)))]) (show List.Nodup [0, 1] by decide) (show List.Nodup [1, 2, 0] by decide) (List.forall_mem_cons.mpr ⟨(List.Mem.tail _ (List.Mem.tail _ (List.Mem.head _))), (List.forall_mem_cons.mpr ⟨(List.Mem.head _), (fun _ h => by cases h)⟩)⟩) ?_
                exact ih5 (t_up lo238 v296 (I 3905) (8 * (24 - (I 2775)) + (3))) (v296) I295a A295a B295a C295a M294 hR295a ⟨by omega, by omega⟩ (show ((0 ≤ (I295a 2774) ∧ (I295a 2774) < (I295a 2754) ∧ (I295a 2754) ≤ 1501 ∧ 0 ≤ (I295a 2775) ∧ (I295a 2775) ≤ 24) ∧ ((I295a 3393) = (I295a 3905) ∧ (I295a 3521) = (I295a 3905) ∧ (I295a 3649) = (I295a 3905) ∧ (I295a 3777) = (I295a 3905) ∧ 0 ≤ (I295a 3905) ∧ (I295a 3905) ≤ 3 * (I295a 2774)) ∧ ((I295a 4161) = (I295a 4033) ∧ 7 ≤ (I295a 4289) ∧ (I295a 4289) ≤ (I295a 4033) ∧ (I295a 4033) ≤ 7 + (I295a 2774)) ∧ 0 ≤ (I295a 5889) ∧ (I295a 5889) ≤ (I295a 2774)) ∧ ((I295a 2754) = (I 2754) ∧ (I 2774) + 1 ≤ (I295a 2774) ∧ (I295a 2775) = (I 2775) ∧ (I295a 4289) = (I 4289) + 0 ∧ (I295a 5889) = (I 5889)) ∧ ((I295a 3905) + 2 ≤ (I 3905) + 3 * ((I295a 2774) - (I 2774)) ∧ (I 3905) ≤ v296 ∧ v296 + 1 = (I295a 3905) ∧ (I 4033) ≤ (I295a 4033) ∧ (I295a 4033) ≤ (I 4033) + ((I295a 2774) - (I 2774))) by (repeat' apply And.intro) <;> first | assumption | omega) (show m_TK I295a A295a by exact tk315) (show m_SC I295a A295a by exact sc316) (show m_TR (t_up lo238 v296 (I 3905) (8 * (24 - (I 2775)) + (3))) I295a A295a by exact tr317) (show m_ST lo I A (t_up lo238 v296 (I 3905) (8 * (24 - (I 2775)) + (3))) I295a A295a by exact s318) (show m_fx I A I295a A295a by exact (m_fx_trans (m_fx_trans hi5_5 f242) f300)) (show m_kd (t_up lo238 v296 (I 3905) (8 * (24 - (I 2775)) + (3))) I295a A295a (I 3905) (8 * (24 - (I 2775)) + (3)) v296 t_E by exact m_kd_l (m_kd_K k320 (fun k h => by have h : k = 9 := h; unfold t_E; omega)) (by omega) (by omega) (by omega)) (show m_RK (t_up lo238 v296 (I 3905) (8 * (24 - (I 2775)) + (3))) (I 3905) (I295a 3905) (8 * (24 - (I 2775)) + (3)) by exact m_RK_le (show m_RK (t_up lo238 v296 (I 3905) (8 * (24 - (I 2775)) + (3))) (I 3905) (I295a 3905) (8 * (24 - (I 2775)) + (3)) from rk319) (show (8 * (24 - (I 2775)) + (3)) ≤ (8 * (24 - (I 2775)) + (3)) by omega)) (show (fun k => k = 9 ∨ k = 10) ((A295a 53) (v296)) ∨ ((t_up lo238 v296 (I 3905) (8 * (24 - (I 2775)) + (3))) v296).2 < (8 * (24 - (I 2775)) + (3)) by exact op322) (by omega)
              · rw [e250]
                replace hR236b : w_Rep w_TM fr X u l I236b A236b B236b C236b M235 := hR236b
                replace f251 : m_fx (w_up I_5 2774 ((I_5 2774) + 1)) A_5 I236b A236b := f251
                exact Or.inr (⟨I236b, A236b, B236b, C236b, rfl, hR236b, (show m_fx I A I236b A236b by exact (m_fx_trans hi5_5 f251))⟩)
          · rw [e213, e214]
            replace f215 : ¬ ((A_5 45) ((I_5 2774)) = 6 ∧ (A_5 46) ((I_5 2774)) = 45) := f215
            show w_W _ _ _ (20, [(0, .ref 43), (1, .int (Int32.ofInt (y5_1)))], [.int (Int32.ofInt (0))], M_5) _
            refine w_adv (n := 2) (F' := (65, [(0, .ref 43), (1, .int (Int32.ofInt (y5_1)))], [.int (Int32.ofInt (y5_1))], M_5)) rfl ?_
            refine w_fin (r := .inl (some (y5_1))) (M' := M_5) rfl ?_
            exact Or.inl ⟨y5_1, lo_5, I_5, A_5, B_5, C_5, rfl, ⟨by omega, by omega⟩, hR_5, (show m_fx I A I_5 A_5 by exact hi5_5), (show ((0 ≤ (I_5 2774) ∧ (I_5 2774) < (I_5 2754) ∧ (I_5 2754) ≤ 1501 ∧ 0 ≤ (I_5 2775) ∧ (I_5 2775) ≤ 24) ∧ ((I_5 3393) = (I_5 3905) ∧ (I_5 3521) = (I_5 3905) ∧ (I_5 3649) = (I_5 3905) ∧ (I_5 3777) = (I_5 3905) ∧ 0 ≤ (I_5 3905) ∧ (I_5 3905) ≤ 3 * (I_5 2774)) ∧ ((I_5 4161) = (I_5 4033) ∧ 7 ≤ (I_5 4289) ∧ (I_5 4289) ≤ (I_5 4033) ∧ (I_5 4033) ≤ 7 + (I_5 2774)) ∧ 0 ≤ (I_5 5889) ∧ (I_5 5889) ≤ (I_5 2774)) ∧ ((I_5 2754) = (I 2754) ∧ (I 2774) + 1 ≤ (I_5 2774) ∧ (I_5 2775) = (I 2775) ∧ (I_5 4289) = (I 4289) + 0 ∧ (I_5 5889) = (I 5889)) ∧ ((I_5 3905) + 2 ≤ (I 3905) + 3 * ((I_5 2774) - (I 2774)) ∧ (I 3905) ≤ y5_1 ∧ y5_1 + 1 = (I_5 3905) ∧ (I 4033) ≤ (I_5 4033) ∧ (I_5 4033) ≤ (I 4033) + ((I_5 2774) - (I 2774))) by (repeat' apply And.intro) <;> first | assumption | omega), (show m_SC I_5 A_5 by exact hi5_2), (show m_TR lo_5 I_5 A_5 by exact hi5_3), (show m_ST lo I A lo_5 I_5 A_5 by exact hi5_4), (show t_E ((A_5 53) (y5_1)) by exact (hi5_6).2), (show m_rt lo_5 (I_5 3905) y5_1 by exact (fun q h1 h2 => by omega)), (show m_RK lo_5 (I 3905) (I_5 3905) (8 * (24 - (I 2775)) + 3) by exact m_RK_le (show m_RK lo_5 (I 3905) (I_5 3905) (8 * (24 - (I 2775)) + (3)) from hi5_7) (show (8 * (24 - (I 2775)) + (3)) ≤ 8 * (24 - (I 2775)) + 3 by omega))⟩
    refine w_ls (ls := [(0, .ref 43), (1, .int (Int32.ofInt (v4)))]) (show List.Nodup [0, 1] by decide) (show List.Nodup [1, 0] by decide) (List.forall_mem_cons.mpr ⟨(List.Mem.tail _ (List.Mem.head _)), (List.forall_mem_cons.mpr ⟨(List.Mem.head _), (fun _ h => by cases h)⟩)⟩) ?_
    exact lp5 (((I3a 2754) - (I3a 2774)).toNat + 1) lo5 (v4) I3a A3a B3a C3a M2 hR3a ⟨by omega, by omega⟩ (show ((0 ≤ (I3a 2774) ∧ (I3a 2774) < (I3a 2754) ∧ (I3a 2754) ≤ 1501 ∧ 0 ≤ (I3a 2775) ∧ (I3a 2775) ≤ 24) ∧ ((I3a 3393) = (I3a 3905) ∧ (I3a 3521) = (I3a 3905) ∧ (I3a 3649) = (I3a 3905) ∧ (I3a 3777) = (I3a 3905) ∧ 0 ≤ (I3a 3905) ∧ (I3a 3905) ≤ 3 * (I3a 2774)) ∧ ((I3a 4161) = (I3a 4033) ∧ 7 ≤ (I3a 4289) ∧ (I3a 4289) ≤ (I3a 4033) ∧ (I3a 4033) ≤ 7 + (I3a 2774)) ∧ 0 ≤ (I3a 5889) ∧ (I3a 5889) ≤ (I3a 2774)) ∧ ((I3a 2754) = (I 2754) ∧ (I 2774) + 1 ≤ (I3a 2774) ∧ (I3a 2775) = (I 2775) ∧ (I3a 4289) = (I 4289) + 0 ∧ (I3a 5889) = (I 5889)) ∧ ((I3a 3905) + 2 ≤ (I 3905) + 3 * ((I3a 2774) - (I 2774)) ∧ (I 3905) ≤ v4 ∧ v4 + 1 = (I3a 3905) ∧ (I 4033) ≤ (I3a 4033) ∧ (I3a 4033) ≤ (I 4033) + ((I3a 2774) - (I 2774))) by (repeat' apply And.intro) <;> first | assumption | omega) (show m_TK I3a A3a by exact tk46) (show m_SC I3a A3a by exact f11) (show m_TR lo5 I3a A3a by exact f12) (show m_ST lo I A lo5 I3a A3a by exact s50) (show m_fx I A I3a A3a by exact f9) (show m_kd lo5 I3a A3a (I 3905) (8 * (24 - (I 2775)) + (3)) v4 t_E by exact m_kd_l k52 (by omega) (by omega) (by omega)) (show m_RK lo5 (I 3905) (I3a 3905) (8 * (24 - (I 2775)) + (3)) by exact m_RK_le (show m_RK lo5 (I 3905) (I3a 3905) (8 * (24 - (I 2775)) + (2)) from rk51) (show (8 * (24 - (I 2775)) + (2)) ≤ (8 * (24 - (I 2775)) + (3)) by omega)) (show (fun k => k = 9 ∨ k = 10) ((A3a 53) (v4)) ∨ (lo5 v4).2 < (8 * (24 - (I 2775)) + (3)) by exact Or.inr (by have q := k52.1; omega)) (by omega)
  · rw [e17]
    replace hR3b : w_Rep w_TM fr X u l I3b A3b B3b C3b M2 := hR3b
    replace f18 : m_fx I A I3b A3b := f18
    exact Or.inr (⟨I3b, A3b, B3b, C3b, rfl, hR3b, (show m_fx I A I3b A3b by exact f18)⟩)
def m_compared_Q (fr : Nat → Bool) (X : Nat → Option (q_C (Nat → Int32))) (u l : Nat) (I : Nat → Int) (A : Nat → Int → Int) (B C : Nat → Nat) (M : w_M) (lo : Int → Int × Int) : w_X → w_M → Prop := fun r M' => (∃ v : Int, ∃ lo' : Int → Int × Int, ∃ (I' : Nat → Int) (A' : Nat → Int → Int) (B' C' : Nat → Nat), (r = .inl (some v)) ∧ (w_in v) ∧ (w_Rep w_TM fr X u l I' A' B' C' M') ∧ (m_fx I A I' A') ∧ (((0 ≤ (I' 2774) ∧ (I' 2774) < (I' 2754) ∧ (I' 2754) ≤ 1501 ∧ 0 ≤ (I' 2775) ∧ (I' 2775) ≤ 24) ∧ ((I' 3393) = (I' 3905) ∧ (I' 3521) = (I' 3905) ∧ (I' 3649) = (I' 3905) ∧ (I' 3777) = (I' 3905) ∧ 0 ≤ (I' 3905) ∧ (I' 3905) ≤ 3 * (I' 2774)) ∧ ((I' 4161) = (I' 4033) ∧ 7 ≤ (I' 4289) ∧ (I' 4289) ≤ (I' 4033) ∧ (I' 4033) ≤ 7 + (I' 2774)) ∧ 0 ≤ (I' 5889) ∧ (I' 5889) ≤ (I' 2774)) ∧ ((I' 2754) = (I 2754) ∧ (I 2774) + 1 ≤ (I' 2774) ∧ (I' 2775) = (I 2775) ∧ (I' 4289) = (I 4289) + 0 ∧ (I' 5889) = (I 5889)) ∧ ((I' 3905) + 2 ≤ (I 3905) + 3 * ((I' 2774) - (I 2774)) ∧ (I 3905) ≤ v ∧ v + 1 = (I' 3905) ∧ (I 4033) ≤ (I' 4033) ∧ (I' 4033) ≤ (I 4033) + ((I' 2774) - (I 2774)))) ∧ (m_SC I' A') ∧ (m_TR lo' I' A') ∧ (m_ST lo I A lo' I' A') ∧ (t_E ((A' 53) (v))) ∧ (m_rt lo' (I' 3905) v) ∧ (m_RK lo' (I 3905) (I' 3905) (8 * (24 - (I 2775)) + 4))) ∨ (∃ (I' : Nat → Int) (A' : Nat → Int → Int) (B' C' : Nat → Nat), (r = .inr 69) ∧ (w_Rep w_TM fr X u l I' A' B' C' M') ∧ (m_fx I A I' A'))
set_option maxHeartbeats 100000000 in
set_option maxRecDepth 100000 in
theorem m_compared {L : Nat} {xs : Nat → Int32} {d : Nat} {fr : Nat → Bool} {X : Nat → Option (q_C (Nat → Int32))} {u l : Nat} {I : Nat → Int} {A : Nat → Int → Int} {B C : Nat → Nat} {M : w_M} {N : Int} (hA : m_all L xs N) (lo : Int → Int × Int) (hR : w_Rep w_TM fr X u l I A B C M) (hd : 20 * (24 - (I 2775)) + 16 ≤ (d : Int)) (hTK : m_TK I A) (hNU : (0 ≤ (I 2774) ∧ (I 2774) < (I 2754) ∧ (I 2754) ≤ 1501 ∧ 0 ≤ (I 2775) ∧ (I 2775) ≤ 24) ∧ ((I 3393) = (I 3905) ∧ (I 3521) = (I 3905) ∧ (I 3649) = (I 3905) ∧ (I 3777) = (I 3905) ∧ 0 ≤ (I 3905) ∧ (I 3905) ≤ 3 * (I 2774)) ∧ ((I 4161) = (I 4033) ∧ 7 ≤ (I 4289) ∧ (I 4289) ≤ (I 4033) ∧ (I 4033) ≤ 7 + (I 2774)) ∧ 0 ≤ (I 5889) ∧ (I 5889) ≤ (I 2774)) (hSC : m_SC I A) (hTR : m_TR lo I A) (hm : (I 2754) - (I 2774) ≤ N) : w_W (z_P L xs) d 246 (0, [(0, .ref 43)], [], M) (m_compared_Q fr X u l I A B C M lo) := by
  obtain ⟨d, rfl⟩ : ∃ d0, d = d0 + 1 := ⟨d - 1, by omega⟩
  refine w_adv (n := 1) (F' := (1, [(0, .ref 43)], [.ref 43], M)) rfl ?_
  refine w_call (cm := 247) (as := [(0, .ref 43)]) (rest := []) (o := some (9, 43)) rfl (w_fitR hR rfl) (m_sum hA (lo) hR (show 20 * (24 - (I 2775)) + 15 ≤ (d : Int) by omega) (show m_TK I A by exact hTK) (show (0 ≤ (I 2774) ∧ (I 2774) < (I 2754) ∧ (I 2754) ≤ 1501 ∧ 0 ≤ (I 2775) ∧ (I 2775) ≤ 24) ∧ ((I 3393) = (I 3905) ∧ (I 3521) = (I 3905) ∧ (I 3649) = (I 3905) ∧ (I 3777) = (I 3905) ∧ 0 ≤ (I 3905) ∧ (I 3905) ≤ 3 * (I 2774)) ∧ ((I 4161) = (I 4033) ∧ 7 ≤ (I 4289) ∧ (I 4289) ≤ (I 4033) ∧ (I 4033) ≤ 7 + (I 2774)) ∧ 0 ≤ (I 5889) ∧ (I 5889) ≤ (I 2774) by (repeat' apply And.intro) <;> first | assumption | omega) (show m_SC I A by exact hSC) (show m_TR lo I A by exact hTR) (show (I 2754) - (I 2774) ≤ N by first | assumption | omega)) (fun r1 M2 q3 => ?_)
  rcases q3 with ⟨v4, lo5, I3a, A3a, B3a, C3a, e6, ⟨r7, r8⟩, hR3a, f9, f10, f11, f12, f13, f14, f15, f16⟩ | ⟨I3b, A3b, B3b, C3b, e17, hR3b, f18⟩
  · rw [e6]
    replace hR3a : w_Rep w_TM fr X u l I3a A3a B3a C3a M2 := hR3a
    replace f9 : m_fx I A I3a A3a := f9
    replace f10 : ((0 ≤ (I3a 2774) ∧ (I3a 2774) < (I3a 2754) ∧ (I3a 2754) ≤ 1501 ∧ 0 ≤ (I3a 2775) ∧ (I3a 2775) ≤ 24) ∧ ((I3a 3393) = (I3a 3905) ∧ (I3a 3521) = (I3a 3905) ∧ (I3a 3649) = (I3a 3905) ∧ (I3a 3777) = (I3a 3905) ∧ 0 ≤ (I3a 3905) ∧ (I3a 3905) ≤ 3 * (I3a 2774)) ∧ ((I3a 4161) = (I3a 4033) ∧ 7 ≤ (I3a 4289) ∧ (I3a 4289) ≤ (I3a 4033) ∧ (I3a 4033) ≤ 7 + (I3a 2774)) ∧ 0 ≤ (I3a 5889) ∧ (I3a 5889) ≤ (I3a 2774)) ∧ ((I3a 2754) = (I 2754) ∧ (I 2774) + 1 ≤ (I3a 2774) ∧ (I3a 2775) = (I 2775) ∧ (I3a 4289) = (I 4289) + 0 ∧ (I3a 5889) = (I 5889)) ∧ ((I3a 3905) + 2 ≤ (I 3905) + 3 * ((I3a 2774) - (I 2774)) ∧ (I 3905) ≤ v4 ∧ v4 + 1 = (I3a 3905) ∧ (I 4033) ≤ (I3a 4033) ∧ (I3a 4033) ≤ (I 4033) + ((I3a 2774) - (I 2774))) := f10
    obtain ⟨⟨⟨n19, n20, n21, n22, n23⟩, ⟨n24, n25, n26, n27, n28, n29⟩, ⟨n30, n31, n32, n33⟩, n34, n35⟩, ⟨n36, n37, n38, n39, n40⟩, ⟨n41, n42, n43, n44, n45⟩⟩ := id f10
    clear f10
    replace f11 : m_SC I3a A3a := f11
    replace f12 : m_TR lo5 I3a A3a := f12
    replace f13 : m_ST lo I A lo5 I3a A3a := f13
    replace f14 : t_E ((A3a 53) (v4)) := f14
    replace f15 : m_rt lo5 (I3a 3905) v4 := f15
    replace f16 : m_RK lo5 (I 3905) (I3a 3905) (8 * (24 - (I 2775)) + 3) := f16
    have tk46 : m_TK I3a A3a := m_TK_fx f9 hTK
    have nn47 : (I 3905) ≤ (I3a 3905) := by omega
    have nz48 : 0 ≤ (I 3905) := by first | assumption | omega
    have ho49 : (I 2775) = (I 2775) + (0) := by omega
    have rk51 : m_RK lo5 (I 3905) (I3a 3905) (8 * (24 - (I 2775)) + (3)) := m_RK_app (I := I) (I' := I3a) (R := (8 * (24 - (I 2775)) + (3))) (show m_RK lo (I 3905) (I 3905) (8 * (24 - (I 2775)) + (3)) from fun q q1 q2 => by omega) f13 f16 (show 0 ≤ (I 3905) by first | assumption | omega) (m_r8 (by decide)) (m_r8o (k := 0) ho49 (by decide))
    have s50 : m_ST lo I A lo5 I3a A3a := f13
    have k52 : m_kd lo5 I3a A3a (I 3905) (8 * (24 - (I 2775)) + 3) v4 t_E := m_kd_of f13 f12 nz48 (show (I 3905) ≤ v4 by first | assumption | omega) (show v4 < (I3a 3905) by omega) f14 f16
    obtain ⟨j53, j54, j55, j56, j57⟩ := k52.1
    show w_W _ _ _ (4, [(0, .ref 43)], [.int (Int32.ofInt (v4))], M2) _
    refine w_adv (n := 3) (F' := (9, [(1, .int (Int32.ofInt (v4))), (0, .ref 43)], [.int (Int32.ofInt (256)), .ref 43], M2)) rfl ?_
    refine w_call (cm := 230) (as := [(0, .ref 43), (1, .int (Int32.ofInt (256)))]) (rest := []) (o := some (9, 43)) rfl (w_fitR hR3a rfl) (m_isSign (256) hR3a ⟨by omega, by omega⟩ (show 0 ≤ (I3a 2774) ∧ (I3a 2774) < 1501 by omega)) (fun r58 M59 q60 => ?_)
    rcases q60 with ⟨e61, e62, f63⟩ | ⟨e64, e65, f66⟩
    · rw [e61, e62]
      replace f63 : (A3a 45) ((I3a 2774)) = 6 ∧ (A3a 46) ((I3a 2774)) = 256 := f63
      obtain ⟨n67, n68⟩ := id f63
      clear f63
      have w69 : (I3a 2774) + 1 < (I3a 2754) := m_TK_lt tk46 (by omega) (by omega) (by omega)
      show w_W _ _ _ (12, [(1, .int (Int32.ofInt (v4))), (0, .ref 43)], [.int (Int32.ofInt (1))], M2) _
      refine w_adv (n := 8) (F' := (58, [(2, .int (Int32.ofInt (8))), (1, .int (Int32.ofInt (v4))), (0, .ref 43)], [.ref 43, .ref 43], M2)) rfl ?_
      refine w_gf (v := .int (Int32.ofInt ((I3a 2774)))) hR3a rfl rfl rfl rfl ?_
      obtain ⟨r70, r71⟩ : -2147483648 ≤ (I3a 2774) ∧ (I3a 2774) ≤ 2147483647 := hR3a.ri 2774
      refine w_adv (n := 1) (F' := (62, [(2, .int (Int32.ofInt (8))), (1, .int (Int32.ofInt (v4))), (0, .ref 43)], [.int (Int32.ofInt (1)), .int (Int32.ofInt ((I3a 2774))), .ref 43], M2)) rfl ?_
      refine w_add rfl ?_
      refine w_pf hR3a rfl rfl rfl rfl (show w_in ((I3a 2774) + 1) from ⟨by omega, by omega⟩) (fun h => absurd h (by decide)) (fun M72 hR73 => ?_)
      replace hR73 : w_Rep w_TM fr X u l (w_up I3a 2774 ((I3a 2774) + 1)) A3a B3a C3a M72 := hR73
      refine w_adv (n := 5) (F' := (72, [(2, .int (Int32.ofInt (8))), (1, .int (Int32.ofInt (v4))), (0, .ref 43)], [.ref 43, .int (Int32.ofInt (v4)), .int (Int32.ofInt (8)), .int (Int32.ofInt (9)), .ref 43], M72)) rfl ?_
      refine w_call (cm := 247) (as := [(0, .ref 43)]) (rest := [.int (Int32.ofInt (v4)), .int (Int32.ofInt (8)), .int (Int32.ofInt (9)), .ref 43]) (o := some (9, 43)) rfl (w_fitR hR73 rfl) (m_sum hA (lo5) hR73 (show 20 * (24 - (I3a 2775)) + 15 ≤ (d : Int) by omega) (show m_TK (w_up I3a 2774 ((I3a 2774) + 1)) A3a by exact tk46) (show (0 ≤ (I3a 2774) + 1 ∧ (I3a 2774) + 1 < (I3a 2754) ∧ (I3a 2754) ≤ 1501 ∧ 0 ≤ (I3a 2775) ∧ (I3a 2775) ≤ 24) ∧ ((I3a 3393) = (I3a 3905) ∧ (I3a 3521) = (I3a 3905) ∧ (I3a 3649) = (I3a 3905) ∧ (I3a 3777) = (I3a 3905) ∧ 0 ≤ (I3a 3905) ∧ (I3a 3905) ≤ 3 * ((I3a 2774) + 1)) ∧ ((I3a 4161) = (I3a 4033) ∧ 7 ≤ (I3a 4289) ∧ (I3a 4289) ≤ (I3a 4033) ∧ (I3a 4033) ≤ 7 + ((I3a 2774) + 1)) ∧ 0 ≤ (I3a 5889) ∧ (I3a 5889) ≤ (I3a 2774) + 1 by (repeat' apply And.intro) <;> first | assumption | omega) (show m_SC (w_up I3a 2774 ((I3a 2774) + 1)) A3a by exact f11) (show m_TR lo5 (w_up I3a 2774 ((I3a 2774) + 1)) A3a by exact f12) (show (I3a 2754) - ((I3a 2774) + 1) ≤ N by first | assumption | omega)) (fun r74 M75 q76 => ?_)
      rcases q76 with ⟨v77, lo78, I76a, A76a, B76a, C76a, e79, ⟨r80, r81⟩, hR76a, f82, f83, f84, f85, f86, f87, f88, f89⟩ | ⟨I76b, A76b, B76b, C76b, e90, hR76b, f91⟩
      · rw [e79]
        replace hR76a : w_Rep w_TM fr X u l I76a A76a B76a C76a M75 := hR76a
        replace f82 : m_fx (w_up I3a 2774 ((I3a 2774) + 1)) A3a I76a A76a := f82
        replace f83 : ((0 ≤ (I76a 2774) ∧ (I76a 2774) < (I76a 2754) ∧ (I76a 2754) ≤ 1501 ∧ 0 ≤ (I76a 2775) ∧ (I76a 2775) ≤ 24) ∧ ((I76a 3393) = (I76a 3905) ∧ (I76a 3521) = (I76a 3905) ∧ (I76a 3649) = (I76a 3905) ∧ (I76a 3777) = (I76a 3905) ∧ 0 ≤ (I76a 3905) ∧ (I76a 3905) ≤ 3 * (I76a 2774)) ∧ ((I76a 4161) = (I76a 4033) ∧ 7 ≤ (I76a 4289) ∧ (I76a 4289) ≤ (I76a 4033) ∧ (I76a 4033) ≤ 7 + (I76a 2774)) ∧ 0 ≤ (I76a 5889) ∧ (I76a 5889) ≤ (I76a 2774)) ∧ ((I76a 2754) = (I3a 2754) ∧ ((I3a 2774) + 1) + 1 ≤ (I76a 2774) ∧ (I76a 2775) = (I3a 2775) ∧ (I76a 4289) = (I3a 4289) + 0 ∧ (I76a 5889) = (I3a 5889)) ∧ ((I76a 3905) + 2 ≤ (I3a 3905) + 3 * ((I76a 2774) - ((I3a 2774) + 1)) ∧ (I3a 3905) ≤ v77 ∧ v77 + 1 = (I76a 3905) ∧ (I3a 4033) ≤ (I76a 4033) ∧ (I76a 4033) ≤ (I3a 4033) + ((I76a 2774) - ((I3a 2774) + 1))) := f83
        obtain ⟨⟨⟨n92, n93, n94, n95, n96⟩, ⟨n97, n98, n99, n100, n101, n102⟩, ⟨n103, n104, n105, n106⟩, n107, n108⟩, ⟨n109, n110, n111, n112, n113⟩, ⟨n114, n115, n116, n117, n118⟩⟩ := id f83
        clear f83
        replace f84 : m_SC I76a A76a := f84
        replace f85 : m_TR lo78 I76a A76a := f85
        replace f86 : m_ST lo5 (w_up I3a 2774 ((I3a 2774) + 1)) A3a lo78 I76a A76a := f86
        replace f87 : t_E ((A76a 53) (v77)) := f87
        replace f88 : m_rt lo78 (I76a 3905) v77 := f88
        replace f89 : m_RK lo78 (I3a 3905) (I76a 3905) (8 * (24 - (I3a 2775)) + 3) := f89
        have tk119 : m_TK I76a A76a := m_TK_fx f82 tk46
        have nn120 : (I3a 3905) ≤ (I76a 3905) := by omega
        have nz121 : 0 ≤ (I3a 3905) := by first | assumption | omega
        have ho122 : (I3a 2775) = (I 2775) + (0) := by omega
        have rk124 : m_RK lo78 (I 3905) (I76a 3905) (8 * (24 - (I 2775)) + (3)) := m_RK_app (I := (w_up I3a 2774 ((I3a 2774) + 1))) (I' := I76a) (R := (8 * (24 - (I 2775)) + (3))) (show m_RK lo5 (I 3905) (I3a 3905) (8 * (24 - (I 2775)) + (3)) from rk51) f86 f89 (show 0 ≤ (I 3905) by first | assumption | omega) (m_r8 (by decide)) (m_r8o (k := 0) ho122 (by decide))
        have s123 : m_ST lo I A lo78 I76a A76a := m_ST_trans (show m_ST lo I A lo5 (w_up I3a 2774 ((I3a 2774) + 1)) A3a from s50) f86 (show 0 ≤ (I 3905) by first | assumption | omega) (show (I 3905) ≤ (I3a 3905) by first | assumption | omega) (show (I 4289) ≤ (I3a 4289) by first | assumption | omega) (show (I 5889) ≤ (I3a 5889) by first | assumption | omega)
        have k125 : m_kd lo78 I76a A76a (I 3905) (8 * (24 - (I 2775)) + 3) v4 t_E := m_kd_ST f86 nn120 k52
        have rt126 := m_rt_ST f86 (show 0 ≤ v4 by omega) (show v4 < (I3a 3905) by omega) f15
        have k127 : m_kd lo78 I76a A76a (I3a 3905) (8 * (24 - (I3a 2775)) + 3) v77 t_E := m_kd_of f86 f85 nz121 (show (I3a 3905) ≤ v77 by first | assumption | omega) (show v77 < (I76a 3905) by omega) f87 f89
        obtain ⟨j128, j129, j130, j131, j132⟩ := k127.1
        show w_W _ _ _ (75, [(2, .int (Int32.ofInt (8))), (1, .int (Int32.ofInt (v4))), (0, .ref 43)], [.int (Int32.ofInt (v77)), .int (Int32.ofInt (v4)), .int (Int32.ofInt (8)), .int (Int32.ofInt (9)), .ref 43], M75) _
        refine w_call (cm := 239) (as := [(0, .ref 43), (1, .int (Int32.ofInt (9))), (2, .int (Int32.ofInt (8))), (3, .int (Int32.ofInt (v4))), (4, .int (Int32.ofInt (v77)))]) (rest := []) (o := some (9, 43)) rfl (w_fitR hR76a rfl) (m_node (9) (8) (v4) (v77) hR76a (show 2 ≤ d by omega) ⟨by omega, by omega⟩ ⟨by omega, by omega⟩ ⟨by omega, by omega⟩ ⟨by omega, by omega⟩ (show (I76a 3393) = (I76a 3905) by first | assumption | omega) (show (I76a 3521) = (I76a 3905) by first | assumption | omega) (show (I76a 3649) = (I76a 3905) by first | assumption | omega) (show (I76a 3777) = (I76a 3905) by first | assumption | omega) (show (I76a 3905) < 65536 by first | assumption | omega)) (fun r133 M134 q135 => ?_)
        rcases q135 with ⟨v136, I135a, A135a, B135a, C135a, e137, ⟨r138, r139⟩, hR135a, f140, f141⟩
        rw [e137]
        replace hR135a : w_Rep w_TM fr X u l I135a A135a B135a C135a M134 := hR135a
        replace f140 : m_fx I76a A76a I135a A135a := f140
        replace f141 : m_nd I76a A76a I135a A135a v136 9 8 v4 v77 := f141
        obtain ⟨⟨n142, n143, n144, n145, n146, n147⟩, ⟨n148, n149, n150, n151, n152, n153, n154⟩⟩ : (v136 = (I76a 3905) ∧ (I135a 3905) = (I76a 3905) + 1 ∧ (I135a 3393) = (I76a 3393) + 1 ∧ (I135a 3521) = (I76a 3521) + 1 ∧ (I135a 3649) = (I76a 3649) + 1 ∧ (I135a 3777) = (I76a 3777) + 1) ∧ ((I135a 2774) = (I76a 2774) ∧ (I135a 2754) = (I76a 2754) ∧ (I135a 2775) = (I76a 2775) ∧ (I135a 4289) = (I76a 4289) ∧ (I135a 4033) = (I76a 4033) ∧ (I135a 4161) = (I76a 4161) ∧ (I135a 5889) = (I76a 5889)) := m_nd_num f141
        have tk155 : m_TK I135a A135a := m_TK_fx f140 tk119
        have sc156 : m_SC I135a A135a := m_SC_nd f141 f84
        have tr157 : m_TR (t_up lo78 v136 (I 3905) (8 * (24 - (I 2775)) + (4))) I135a A135a := m_TR_nd (show m_TR lo78 I76a A76a from f85) f141 (show 0 ≤ (I 3905) by omega) (show (I 3905) ≤ v136 by omega) (m_cl_ST (show m_ST lo I A lo78 I76a A76a from s123) hTR (show 0 ≤ (I 3905) by omega)) (t_N_mk9 t_up_same (show 0 ≤ (I 3905) by omega) (show (I 3905) ≤ v136 by omega) (show 0 ≤ (8 * (24 - (I 2775)) + (4)) by omega) (m_hw2 (show m_RK lo78 (I 3905) v136 (8 * (24 - (I 2775)) + (3)) from fun q q1 q2 => (show m_RK lo78 (I 3905) (I76a 3905) (8 * (24 - (I 2775)) + (3)) from rk124) q (show (I 3905) ≤ q by omega) (show q < (I76a 3905) by omega)) (m_r8 (by decide))) ⟨m_ch f141 (show (I 3905) ≤ (I 3905) by omega) k125, m_ch f141 (show (I 3905) ≤ (I3a 3905) by omega) k127, m_od f141 k127 (show v4 < (I3a 3905) by omega), (Or.inr (m_ork f141 k125 (show (8 * (24 - (I 2775)) + 3) < (8 * (24 - (I 2775)) + (4)) by omega))), (m_ork f141 k127 (show (8 * (24 - (I3a 2775)) + 3) < (8 * (24 - (I 2775)) + (4)) by omega))⟩)
        have s158 : m_ST lo I A (t_up lo78 v136 (I 3905) (8 * (24 - (I 2775)) + (4))) I135a A135a := m_ST_nd (l := (I 3905)) (show m_ST lo I A lo78 I76a A76a from s123) f141 (show (I 3905) ≤ (I 3905) by omega) (show (I 3905) ≤ (I76a 3905) by omega)
        have rk159 : m_RK (t_up lo78 v136 (I 3905) (8 * (24 - (I 2775)) + (4))) (I 3905) (I135a 3905) (8 * (24 - (I 2775)) + (4)) := fun q q1 q2 => m_RK_nd (show m_RK lo78 (I 3905) v136 (8 * (24 - (I 2775)) + (3)) from fun q q1 q2 => (show m_RK lo78 (I 3905) (I76a 3905) (8 * (24 - (I 2775)) + (3)) from rk124) q q1 (show q < (I76a 3905) by omega)) (m_r8 (by decide)) (m_r8 (by decide)) q q1 (show q < v136 + 1 by omega)
        have k160 : m_kd (t_up lo78 v136 (I 3905) (8 * (24 - (I 2775)) + (4))) I135a A135a (I 3905) (8 * (24 - (I 2775)) + (4)) v136 (fun k => k = 9) := m_kd_new f141 (show 0 ≤ (I 3905) by omega) (show (I 3905) ≤ v136 by omega) rfl
        have rt161 : m_rt (t_up lo78 v136 (I 3905) (8 * (24 - (I 2775)) + (4))) (I135a 3905) v136 := m_rt_new f141
        have op162 : (fun k => k = 9 ∨ k = 10) ((A135a 53) (v136)) ∨ ((t_up lo78 v136 (I 3905) (8 * (24 - (I 2775)) + (4))) v136).2 < (8 * (24 - (I 2775)) + (4)) := Or.inl (by have q1 : (A135a 53) (v136) = 9 := k160.2; omega)
        show w_W _ _ _ (78, [(2, .int (Int32.ofInt (8))), (1, .int (Int32.ofInt (v4))), (0, .ref 43)], [.int (Int32.ofInt (v136))], M134) _
        refine w_fin (r := .inl (some (v136))) (M' := M134) rfl ?_
        exact Or.inl ⟨v136, (t_up lo78 v136 (I 3905) (8 * (24 - (I 2775)) + (4))), I135a, A135a, B135a, C135a, rfl, ⟨by omega, by omega⟩, hR135a, (show m_fx I A I135a A135a by exact (m_fx_trans (m_fx_trans f9 f82) f140)), (show ((0 ≤ (I135a 2774) ∧ (I135a 2774) < (I135a 2754) ∧ (I135a 2754) ≤ 1501 ∧ 0 ≤ (I135a 2775) ∧ (I135a 2775) ≤ 24) ∧ ((I135a 3393) = (I135a 3905) ∧ (I135a 3521) = (I135a 3905) ∧ (I135a 3649) = (I135a 3905) ∧ (I135a 3777) = (I135a 3905) ∧ 0 ≤ (I135a 3905) ∧ (I135a 3905) ≤ 3 * (I135a 2774)) ∧ ((I135a 4161) = (I135a 4033) ∧ 7 ≤ (I135a 4289) ∧ (I135a 4289) ≤ (I135a 4033) ∧ (I135a 4033) ≤ 7 + (I135a 2774)) ∧ 0 ≤ (I135a 5889) ∧ (I135a 5889) ≤ (I135a 2774)) ∧ ((I135a 2754) = (I 2754) ∧ (I 2774) + 1 ≤ (I135a 2774) ∧ (I135a 2775) = (I 2775) ∧ (I135a 4289) = (I 4289) + 0 ∧ (I135a 5889) = (I 5889)) ∧ ((I135a 3905) + 2 ≤ (I 3905) + 3 * ((I135a 2774) - (I 2774)) ∧ (I 3905) ≤ v136 ∧ v136 + 1 = (I135a 3905) ∧ (I 4033) ≤ (I135a 4033) ∧ (I135a 4033) ≤ (I 4033) + ((I135a 2774) - (I 2774))) by (repeat' apply And.intro) <;> first | assumption | omega), (show m_SC I135a A135a by exact sc156), (show m_TR (t_up lo78 v136 (I 3905) (8 * (24 - (I 2775)) + (4))) I135a A135a by exact tr157), (show m_ST lo I A (t_up lo78 v136 (I 3905) (8 * (24 - (I 2775)) + (4))) I135a A135a by exact s158), (show t_E ((A135a 53) (v136)) by exact ((m_kd_K k160 (fun k h => by have h : k = 9 := h; unfold t_E; omega))).2), (show m_rt (t_up lo78 v136 (I 3905) (8 * (24 - (I 2775)) + (4))) (I135a 3905) v136 by exact rt161), (show m_RK (t_up lo78 v136 (I 3905) (8 * (24 - (I 2775)) + (4))) (I 3905) (I135a 3905) (8 * (24 - (I 2775)) + 4) by exact m_RK_le (show m_RK (t_up lo78 v136 (I 3905) (8 * (24 - (I 2775)) + (4))) (I 3905) (I135a 3905) (8 * (24 - (I 2775)) + (4)) from rk159) (show (8 * (24 - (I 2775)) + (4)) ≤ 8 * (24 - (I 2775)) + 4 by omega))⟩
      · rw [e90]
        replace hR76b : w_Rep w_TM fr X u l I76b A76b B76b C76b M75 := hR76b
        replace f91 : m_fx (w_up I3a 2774 ((I3a 2774) + 1)) A3a I76b A76b := f91
        exact Or.inr (⟨I76b, A76b, B76b, C76b, rfl, hR76b, (show m_fx I A I76b A76b by exact (m_fx_trans f9 f91))⟩)
    · rw [e64, e65]
      replace f66 : ¬ ((A3a 45) ((I3a 2774)) = 6 ∧ (A3a 46) ((I3a 2774)) = 256) := f66
      show w_W _ _ _ (12, [(1, .int (Int32.ofInt (v4))), (0, .ref 43)], [.int (Int32.ofInt (0))], M2) _
      refine w_adv (n := 3) (F' := (23, [(1, .int (Int32.ofInt (v4))), (0, .ref 43)], [.int (Int32.ofInt (60)), .ref 43], M2)) rfl ?_
      refine w_call (cm := 230) (as := [(0, .ref 43), (1, .int (Int32.ofInt (60)))]) (rest := []) (o := some (9, 43)) rfl (w_fitR hR3a rfl) (m_isSign (60) hR3a ⟨by omega, by omega⟩ (show 0 ≤ (I3a 2774) ∧ (I3a 2774) < 1501 by omega)) (fun r163 M164 q165 => ?_)
      rcases q165 with ⟨e166, e167, f168⟩ | ⟨e169, e170, f171⟩
      · rw [e166, e167]
        replace f168 : (A3a 45) ((I3a 2774)) = 6 ∧ (A3a 46) ((I3a 2774)) = 60 := f168
        obtain ⟨n172, n173⟩ := id f168
        clear f168
        have w174 : (I3a 2774) + 1 < (I3a 2754) := m_TK_lt tk46 (by omega) (by omega) (by omega)
        show w_W _ _ _ (26, [(1, .int (Int32.ofInt (v4))), (0, .ref 43)], [.int (Int32.ofInt (1))], M2) _
        refine w_adv (n := 8) (F' := (58, [(2, .int (Int32.ofInt (5))), (1, .int (Int32.ofInt (v4))), (0, .ref 43)], [.ref 43, .ref 43], M2)) rfl ?_
        refine w_gf (v := .int (Int32.ofInt ((I3a 2774)))) hR3a rfl rfl rfl rfl ?_
        obtain ⟨r175, r176⟩ : -2147483648 ≤ (I3a 2774) ∧ (I3a 2774) ≤ 2147483647 := hR3a.ri 2774
        refine w_adv (n := 1) (F' := (62, [(2, .int (Int32.ofInt (5))), (1, .int (Int32.ofInt (v4))), (0, .ref 43)], [.int (Int32.ofInt (1)), .int (Int32.ofInt ((I3a 2774))), .ref 43], M2)) rfl ?_
        refine w_add rfl ?_
        refine w_pf hR3a rfl rfl rfl rfl (show w_in ((I3a 2774) + 1) from ⟨by omega, by omega⟩) (fun h => absurd h (by decide)) (fun M177 hR178 => ?_)
        replace hR178 : w_Rep w_TM fr X u l (w_up I3a 2774 ((I3a 2774) + 1)) A3a B3a C3a M177 := hR178
        refine w_adv (n := 5) (F' := (72, [(2, .int (Int32.ofInt (5))), (1, .int (Int32.ofInt (v4))), (0, .ref 43)], [.ref 43, .int (Int32.ofInt (v4)), .int (Int32.ofInt (5)), .int (Int32.ofInt (9)), .ref 43], M177)) rfl ?_
        refine w_call (cm := 247) (as := [(0, .ref 43)]) (rest := [.int (Int32.ofInt (v4)), .int (Int32.ofInt (5)), .int (Int32.ofInt (9)), .ref 43]) (o := some (9, 43)) rfl (w_fitR hR178 rfl) (m_sum hA (lo5) hR178 (show 20 * (24 - (I3a 2775)) + 15 ≤ (d : Int) by omega) (show m_TK (w_up I3a 2774 ((I3a 2774) + 1)) A3a by exact tk46) (show (0 ≤ (I3a 2774) + 1 ∧ (I3a 2774) + 1 < (I3a 2754) ∧ (I3a 2754) ≤ 1501 ∧ 0 ≤ (I3a 2775) ∧ (I3a 2775) ≤ 24) ∧ ((I3a 3393) = (I3a 3905) ∧ (I3a 3521) = (I3a 3905) ∧ (I3a 3649) = (I3a 3905) ∧ (I3a 3777) = (I3a 3905) ∧ 0 ≤ (I3a 3905) ∧ (I3a 3905) ≤ 3 * ((I3a 2774) + 1)) ∧ ((I3a 4161) = (I3a 4033) ∧ 7 ≤ (I3a 4289) ∧ (I3a 4289) ≤ (I3a 4033) ∧ (I3a 4033) ≤ 7 + ((I3a 2774) + 1)) ∧ 0 ≤ (I3a 5889) ∧ (I3a 5889) ≤ (I3a 2774) + 1 by (repeat' apply And.intro) <;> first | assumption | omega) (show m_SC (w_up I3a 2774 ((I3a 2774) + 1)) A3a by exact f11) (show m_TR lo5 (w_up I3a 2774 ((I3a 2774) + 1)) A3a by exact f12) (show (I3a 2754) - ((I3a 2774) + 1) ≤ N by first | assumption | omega)) (fun r179 M180 q181 => ?_)
        rcases q181 with ⟨v182, lo183, I181a, A181a, B181a, C181a, e184, ⟨r185, r186⟩, hR181a, f187, f188, f189, f190, f191, f192, f193, f194⟩ | ⟨I181b, A181b, B181b, C181b, e195, hR181b, f196⟩
        · rw [e184]
          replace hR181a : w_Rep w_TM fr X u l I181a A181a B181a C181a M180 := hR181a
          replace f187 : m_fx (w_up I3a 2774 ((I3a 2774) + 1)) A3a I181a A181a := f187
          replace f188 : ((0 ≤ (I181a 2774) ∧ (I181a 2774) < (I181a 2754) ∧ (I181a 2754) ≤ 1501 ∧ 0 ≤ (I181a 2775) ∧ (I181a 2775) ≤ 24) ∧ ((I181a 3393) = (I181a 3905) ∧ (I181a 3521) = (I181a 3905) ∧ (I181a 3649) = (I181a 3905) ∧ (I181a 3777) = (I181a 3905) ∧ 0 ≤ (I181a 3905) ∧ (I181a 3905) ≤ 3 * (I181a 2774)) ∧ ((I181a 4161) = (I181a 4033) ∧ 7 ≤ (I181a 4289) ∧ (I181a 4289) ≤ (I181a 4033) ∧ (I181a 4033) ≤ 7 + (I181a 2774)) ∧ 0 ≤ (I181a 5889) ∧ (I181a 5889) ≤ (I181a 2774)) ∧ ((I181a 2754) = (I3a 2754) ∧ ((I3a 2774) + 1) + 1 ≤ (I181a 2774) ∧ (I181a 2775) = (I3a 2775) ∧ (I181a 4289) = (I3a 4289) + 0 ∧ (I181a 5889) = (I3a 5889)) ∧ ((I181a 3905) + 2 ≤ (I3a 3905) + 3 * ((I181a 2774) - ((I3a 2774) + 1)) ∧ (I3a 3905) ≤ v182 ∧ v182 + 1 = (I181a 3905) ∧ (I3a 4033) ≤ (I181a 4033) ∧ (I181a 4033) ≤ (I3a 4033) + ((I181a 2774) - ((I3a 2774) + 1))) := f188
          obtain ⟨⟨⟨n197, n198, n199, n200, n201⟩, ⟨n202, n203, n204, n205, n206, n207⟩, ⟨n208, n209, n210, n211⟩, n212, n213⟩, ⟨n214, n215, n216, n217, n218⟩, ⟨n219, n220, n221, n222, n223⟩⟩ := id f188
          clear f188
          replace f189 : m_SC I181a A181a := f189
          replace f190 : m_TR lo183 I181a A181a := f190
          replace f191 : m_ST lo5 (w_up I3a 2774 ((I3a 2774) + 1)) A3a lo183 I181a A181a := f191
          replace f192 : t_E ((A181a 53) (v182)) := f192
          replace f193 : m_rt lo183 (I181a 3905) v182 := f193
          replace f194 : m_RK lo183 (I3a 3905) (I181a 3905) (8 * (24 - (I3a 2775)) + 3) := f194
          have tk224 : m_TK I181a A181a := m_TK_fx f187 tk46
          have nn225 : (I3a 3905) ≤ (I181a 3905) := by omega
          have nz226 : 0 ≤ (I3a 3905) := by first | assumption | omega
          have ho227 : (I3a 2775) = (I 2775) + (0) := by omega
          have rk229 : m_RK lo183 (I 3905) (I181a 3905) (8 * (24 - (I 2775)) + (3)) := m_RK_app (I := (w_up I3a 2774 ((I3a 2774) + 1))) (I' := I181a) (R := (8 * (24 - (I 2775)) + (3))) (show m_RK lo5 (I 3905) (I3a 3905) (8 * (24 - (I 2775)) + (3)) from rk51) f191 f194 (show 0 ≤ (I 3905) by first | assumption | omega) (m_r8 (by decide)) (m_r8o (k := 0) ho227 (by decide))
          have s228 : m_ST lo I A lo183 I181a A181a := m_ST_trans (show m_ST lo I A lo5 (w_up I3a 2774 ((I3a 2774) + 1)) A3a from s50) f191 (show 0 ≤ (I 3905) by first | assumption | omega) (show (I 3905) ≤ (I3a 3905) by first | assumption | omega) (show (I 4289) ≤ (I3a 4289) by first | assumption | omega) (show (I 5889) ≤ (I3a 5889) by first | assumption | omega)
          have k230 : m_kd lo183 I181a A181a (I 3905) (8 * (24 - (I 2775)) + 3) v4 t_E := m_kd_ST f191 nn225 k52
          have rt231 := m_rt_ST f191 (show 0 ≤ v4 by omega) (show v4 < (I3a 3905) by omega) f15
          have k232 : m_kd lo183 I181a A181a (I3a 3905) (8 * (24 - (I3a 2775)) + 3) v182 t_E := m_kd_of f191 f190 nz226 (show (I3a 3905) ≤ v182 by first | assumption | omega) (show v182 < (I181a 3905) by omega) f192 f194
          obtain ⟨j233, j234, j235, j236, j237⟩ := k232.1
          show w_W _ _ _ (75, [(2, .int (Int32.ofInt (5))), (1, .int (Int32.ofInt (v4))), (0, .ref 43)], [.int (Int32.ofInt (v182)), .int (Int32.ofInt (v4)), .int (Int32.ofInt (5)), .int (Int32.ofInt (9)), .ref 43], M180) _
          refine w_call (cm := 239) (as := [(0, .ref 43), (1, .int (Int32.ofInt (9))), (2, .int (Int32.ofInt (5))), (3, .int (Int32.ofInt (v4))), (4, .int (Int32.ofInt (v182)))]) (rest := []) (o := some (9, 43)) rfl (w_fitR hR181a rfl) (m_node (9) (5) (v4) (v182) hR181a (show 2 ≤ d by omega) ⟨by omega, by omega⟩ ⟨by omega, by omega⟩ ⟨by omega, by omega⟩ ⟨by omega, by omega⟩ (show (I181a 3393) = (I181a 3905) by first | assumption | omega) (show (I181a 3521) = (I181a 3905) by first | assumption | omega) (show (I181a 3649) = (I181a 3905) by first | assumption | omega) (show (I181a 3777) = (I181a 3905) by first | assumption | omega) (show (I181a 3905) < 65536 by first | assumption | omega)) (fun r238 M239 q240 => ?_)
          rcases q240 with ⟨v241, I240a, A240a, B240a, C240a, e242, ⟨r243, r244⟩, hR240a, f245, f246⟩
          rw [e242]
          replace hR240a : w_Rep w_TM fr X u l I240a A240a B240a C240a M239 := hR240a
          replace f245 : m_fx I181a A181a I240a A240a := f245
          replace f246 : m_nd I181a A181a I240a A240a v241 9 5 v4 v182 := f246
          obtain ⟨⟨n247, n248, n249, n250, n251, n252⟩, ⟨n253, n254, n255, n256, n257, n258, n259⟩⟩ : (v241 = (I181a 3905) ∧ (I240a 3905) = (I181a 3905) + 1 ∧ (I240a 3393) = (I181a 3393) + 1 ∧ (I240a 3521) = (I181a 3521) + 1 ∧ (I240a 3649) = (I181a 3649) + 1 ∧ (I240a 3777) = (I181a 3777) + 1) ∧ ((I240a 2774) = (I181a 2774) ∧ (I240a 2754) = (I181a 2754) ∧ (I240a 2775) = (I181a 2775) ∧ (I240a 4289) = (I181a 4289) ∧ (I240a 4033) = (I181a 4033) ∧ (I240a 4161) = (I181a 4161) ∧ (I240a 5889) = (I181a 5889)) := m_nd_num f246
          have tk260 : m_TK I240a A240a := m_TK_fx f245 tk224
          have sc261 : m_SC I240a A240a := m_SC_nd f246 f189
          have tr262 : m_TR (t_up lo183 v241 (I 3905) (8 * (24 - (I 2775)) + (4))) I240a A240a := m_TR_nd (show m_TR lo183 I181a A181a from f190) f246 (show 0 ≤ (I 3905) by omega) (show (I 3905) ≤ v241 by omega) (m_cl_ST (show m_ST lo I A lo183 I181a A181a from s228) hTR (show 0 ≤ (I 3905) by omega)) (t_N_mk9 t_up_same (show 0 ≤ (I 3905) by omega) (show (I 3905) ≤ v241 by omega) (show 0 ≤ (8 * (24 - (I 2775)) + (4)) by omega) (m_hw2 (show m_RK lo183 (I 3905) v241 (8 * (24 - (I 2775)) + (3)) from fun q q1 q2 => (show m_RK lo183 (I 3905) (I181a 3905) (8 * (24 - (I 2775)) + (3)) from rk229) q (show (I 3905) ≤ q by omega) (show q < (I181a 3905) by omega)) (m_r8 (by decide))) ⟨m_ch f246 (show (I 3905) ≤ (I 3905) by omega) k230, m_ch f246 (show (I 3905) ≤ (I3a 3905) by omega) k232, m_od f246 k232 (show v4 < (I3a 3905) by omega), (Or.inr (m_ork f246 k230 (show (8 * (24 - (I 2775)) + 3) < (8 * (24 - (I 2775)) + (4)) by omega))), (m_ork f246 k232 (show (8 * (24 - (I3a 2775)) + 3) < (8 * (24 - (I 2775)) + (4)) by omega))⟩)
          have s263 : m_ST lo I A (t_up lo183 v241 (I 3905) (8 * (24 - (I 2775)) + (4))) I240a A240a := m_ST_nd (l := (I 3905)) (show m_ST lo I A lo183 I181a A181a from s228) f246 (show (I 3905) ≤ (I 3905) by omega) (show (I 3905) ≤ (I181a 3905) by omega)
          have rk264 : m_RK (t_up lo183 v241 (I 3905) (8 * (24 - (I 2775)) + (4))) (I 3905) (I240a 3905) (8 * (24 - (I 2775)) + (4)) := fun q q1 q2 => m_RK_nd (show m_RK lo183 (I 3905) v241 (8 * (24 - (I 2775)) + (3)) from fun q q1 q2 => (show m_RK lo183 (I 3905) (I181a 3905) (8 * (24 - (I 2775)) + (3)) from rk229) q q1 (show q < (I181a 3905) by omega)) (m_r8 (by decide)) (m_r8 (by decide)) q q1 (show q < v241 + 1 by omega)
          have k265 : m_kd (t_up lo183 v241 (I 3905) (8 * (24 - (I 2775)) + (4))) I240a A240a (I 3905) (8 * (24 - (I 2775)) + (4)) v241 (fun k => k = 9) := m_kd_new f246 (show 0 ≤ (I 3905) by omega) (show (I 3905) ≤ v241 by omega) rfl
          have rt266 : m_rt (t_up lo183 v241 (I 3905) (8 * (24 - (I 2775)) + (4))) (I240a 3905) v241 := m_rt_new f246
          have op267 : (fun k => k = 9 ∨ k = 10) ((A240a 53) (v241)) ∨ ((t_up lo183 v241 (I 3905) (8 * (24 - (I 2775)) + (4))) v241).2 < (8 * (24 - (I 2775)) + (4)) := Or.inl (by have q1 : (A240a 53) (v241) = 9 := k265.2; omega)
          show w_W _ _ _ (78, [(2, .int (Int32.ofInt (5))), (1, .int (Int32.ofInt (v4))), (0, .ref 43)], [.int (Int32.ofInt (v241))], M239) _
          refine w_fin (r := .inl (some (v241))) (M' := M239) rfl ?_
          exact Or.inl ⟨v241, (t_up lo183 v241 (I 3905) (8 * (24 - (I 2775)) + (4))), I240a, A240a, B240a, C240a, rfl, ⟨by omega, by omega⟩, hR240a, (show m_fx I A I240a A240a by exact (m_fx_trans (m_fx_trans f9 f187) f245)), (show ((0 ≤ (I240a 2774) ∧ (I240a 2774) < (I240a 2754) ∧ (I240a 2754) ≤ 1501 ∧ 0 ≤ (I240a 2775) ∧ (I240a 2775) ≤ 24) ∧ ((I240a 3393) = (I240a 3905) ∧ (I240a 3521) = (I240a 3905) ∧ (I240a 3649) = (I240a 3905) ∧ (I240a 3777) = (I240a 3905) ∧ 0 ≤ (I240a 3905) ∧ (I240a 3905) ≤ 3 * (I240a 2774)) ∧ ((I240a 4161) = (I240a 4033) ∧ 7 ≤ (I240a 4289) ∧ (I240a 4289) ≤ (I240a 4033) ∧ (I240a 4033) ≤ 7 + (I240a 2774)) ∧ 0 ≤ (I240a 5889) ∧ (I240a 5889) ≤ (I240a 2774)) ∧ ((I240a 2754) = (I 2754) ∧ (I 2774) + 1 ≤ (I240a 2774) ∧ (I240a 2775) = (I 2775) ∧ (I240a 4289) = (I 4289) + 0 ∧ (I240a 5889) = (I 5889)) ∧ ((I240a 3905) + 2 ≤ (I 3905) + 3 * ((I240a 2774) - (I 2774)) ∧ (I 3905) ≤ v241 ∧ v241 + 1 = (I240a 3905) ∧ (I 4033) ≤ (I240a 4033) ∧ (I240a 4033) ≤ (I 4033) + ((I240a 2774) - (I 2774))) by (repeat' apply And.intro) <;> first | assumption | omega), (show m_SC I240a A240a by exact sc261), (show m_TR (t_up lo183 v241 (I 3905) (8 * (24 - (I 2775)) + (4))) I240a A240a by exact tr262), (show m_ST lo I A (t_up lo183 v241 (I 3905) (8 * (24 - (I 2775)) + (4))) I240a A240a by exact s263), (show t_E ((A240a 53) (v241)) by exact ((m_kd_K k265 (fun k h => by have h : k = 9 := h; unfold t_E; omega))).2), (show m_rt (t_up lo183 v241 (I 3905) (8 * (24 - (I 2775)) + (4))) (I240a 3905) v241 by exact rt266), (show m_RK (t_up lo183 v241 (I 3905) (8 * (24 - (I 2775)) + (4))) (I 3905) (I240a 3905) (8 * (24 - (I 2775)) + 4) by exact m_RK_le (show m_RK (t_up lo183 v241 (I 3905) (8 * (24 - (I 2775)) + (4))) (I 3905) (I240a 3905) (8 * (24 - (I 2775)) + (4)) from rk264) (show (8 * (24 - (I 2775)) + (4)) ≤ 8 * (24 - (I 2775)) + 4 by omega))⟩
        · rw [e195]
          replace hR181b : w_Rep w_TM fr X u l I181b A181b B181b C181b M180 := hR181b
          replace f196 : m_fx (w_up I3a 2774 ((I3a 2774) + 1)) A3a I181b A181b := f196
          exact Or.inr (⟨I181b, A181b, B181b, C181b, rfl, hR181b, (show m_fx I A I181b A181b by exact (m_fx_trans f9 f196))⟩)
      · rw [e169, e170]
        replace f171 : ¬ ((A3a 45) ((I3a 2774)) = 6 ∧ (A3a 46) ((I3a 2774)) = 60) := f171
        show w_W _ _ _ (26, [(1, .int (Int32.ofInt (v4))), (0, .ref 43)], [.int (Int32.ofInt (0))], M2) _
        refine w_adv (n := 3) (F' := (37, [(1, .int (Int32.ofInt (v4))), (0, .ref 43)], [.int (Int32.ofInt (257)), .ref 43], M2)) rfl ?_
        refine w_call (cm := 230) (as := [(0, .ref 43), (1, .int (Int32.ofInt (257)))]) (rest := []) (o := some (9, 43)) rfl (w_fitR hR3a rfl) (m_isSign (257) hR3a ⟨by omega, by omega⟩ (show 0 ≤ (I3a 2774) ∧ (I3a 2774) < 1501 by omega)) (fun r268 M269 q270 => ?_)
        rcases q270 with ⟨e271, e272, f273⟩ | ⟨e274, e275, f276⟩
        · rw [e271, e272]
          replace f273 : (A3a 45) ((I3a 2774)) = 6 ∧ (A3a 46) ((I3a 2774)) = 257 := f273
          obtain ⟨n277, n278⟩ := id f273
          clear f273
          have w279 : (I3a 2774) + 1 < (I3a 2754) := m_TK_lt tk46 (by omega) (by omega) (by omega)
          show w_W _ _ _ (40, [(1, .int (Int32.ofInt (v4))), (0, .ref 43)], [.int (Int32.ofInt (1))], M2) _
          refine w_adv (n := 8) (F' := (58, [(2, .int (Int32.ofInt (6))), (1, .int (Int32.ofInt (v4))), (0, .ref 43)], [.ref 43, .ref 43], M2)) rfl ?_
          refine w_gf (v := .int (Int32.ofInt ((I3a 2774)))) hR3a rfl rfl rfl rfl ?_
          obtain ⟨r280, r281⟩ : -2147483648 ≤ (I3a 2774) ∧ (I3a 2774) ≤ 2147483647 := hR3a.ri 2774
          refine w_adv (n := 1) (F' := (62, [(2, .int (Int32.ofInt (6))), (1, .int (Int32.ofInt (v4))), (0, .ref 43)], [.int (Int32.ofInt (1)), .int (Int32.ofInt ((I3a 2774))), .ref 43], M2)) rfl ?_
          refine w_add rfl ?_
          refine w_pf hR3a rfl rfl rfl rfl (show w_in ((I3a 2774) + 1) from ⟨by omega, by omega⟩) (fun h => absurd h (by decide)) (fun M282 hR283 => ?_)
          replace hR283 : w_Rep w_TM fr X u l (w_up I3a 2774 ((I3a 2774) + 1)) A3a B3a C3a M282 := hR283
          refine w_adv (n := 5) (F' := (72, [(2, .int (Int32.ofInt (6))), (1, .int (Int32.ofInt (v4))), (0, .ref 43)], [.ref 43, .int (Int32.ofInt (v4)), .int (Int32.ofInt (6)), .int (Int32.ofInt (9)), .ref 43], M282)) rfl ?_
          refine w_call (cm := 247) (as := [(0, .ref 43)]) (rest := [.int (Int32.ofInt (v4)), .int (Int32.ofInt (6)), .int (Int32.ofInt (9)), .ref 43]) (o := some (9, 43)) rfl (w_fitR hR283 rfl) (m_sum hA (lo5) hR283 (show 20 * (24 - (I3a 2775)) + 15 ≤ (d : Int) by omega) (show m_TK (w_up I3a 2774 ((I3a 2774) + 1)) A3a by exact tk46) (show (0 ≤ (I3a 2774) + 1 ∧ (I3a 2774) + 1 < (I3a 2754) ∧ (I3a 2754) ≤ 1501 ∧ 0 ≤ (I3a 2775) ∧ (I3a 2775) ≤ 24) ∧ ((I3a 3393) = (I3a 3905) ∧ (I3a 3521) = (I3a 3905) ∧ (I3a 3649) = (I3a 3905) ∧ (I3a 3777) = (I3a 3905) ∧ 0 ≤ (I3a 3905) ∧ (I3a 3905) ≤ 3 * ((I3a 2774) + 1)) ∧ ((I3a 4161) = (I3a 4033) ∧ 7 ≤ (I3a 4289) ∧ (I3a 4289) ≤ (I3a 4033) ∧ (I3a 4033) ≤ 7 + ((I3a 2774) + 1)) ∧ 0 ≤ (I3a 5889) ∧ (I3a 5889) ≤ (I3a 2774) + 1 by (repeat' apply And.intro) <;> first | assumption | omega) (show m_SC (w_up I3a 2774 ((I3a 2774) + 1)) A3a by exact f11) (show m_TR lo5 (w_up I3a 2774 ((I3a 2774) + 1)) A3a by exact f12) (show (I3a 2754) - ((I3a 2774) + 1) ≤ N by first | assumption | omega)) (fun r284 M285 q286 => ?_)
          rcases q286 with ⟨v287, lo288, I286a, A286a, B286a, C286a, e289, ⟨r290, r291⟩, hR286a, f292, f293, f294, f295, f296, f297, f298, f299⟩ | ⟨I286b, A286b, B286b, C286b, e300, hR286b, f301⟩
          · rw [e289]
            replace hR286a : w_Rep w_TM fr X u l I286a A286a B286a C286a M285 := hR286a
            replace f292 : m_fx (w_up I3a 2774 ((I3a 2774) + 1)) A3a I286a A286a := f292
            replace f293 : ((0 ≤ (I286a 2774) ∧ (I286a 2774) < (I286a 2754) ∧ (I286a 2754) ≤ 1501 ∧ 0 ≤ (I286a 2775) ∧ (I286a 2775) ≤ 24) ∧ ((I286a 3393) = (I286a 3905) ∧ (I286a 3521) = (I286a 3905) ∧ (I286a 3649) = (I286a 3905) ∧ (I286a 3777) = (I286a 3905) ∧ 0 ≤ (I286a 3905) ∧ (I286a 3905) ≤ 3 * (I286a 2774)) ∧ ((I286a 4161) = (I286a 4033) ∧ 7 ≤ (I286a 4289) ∧ (I286a 4289) ≤ (I286a 4033) ∧ (I286a 4033) ≤ 7 + (I286a 2774)) ∧ 0 ≤ (I286a 5889) ∧ (I286a 5889) ≤ (I286a 2774)) ∧ ((I286a 2754) = (I3a 2754) ∧ ((I3a 2774) + 1) + 1 ≤ (I286a 2774) ∧ (I286a 2775) = (I3a 2775) ∧ (I286a 4289) = (I3a 4289) + 0 ∧ (I286a 5889) = (I3a 5889)) ∧ ((I286a 3905) + 2 ≤ (I3a 3905) + 3 * ((I286a 2774) - ((I3a 2774) + 1)) ∧ (I3a 3905) ≤ v287 ∧ v287 + 1 = (I286a 3905) ∧ (I3a 4033) ≤ (I286a 4033) ∧ (I286a 4033) ≤ (I3a 4033) + ((I286a 2774) - ((I3a 2774) + 1))) := f293
            obtain ⟨⟨⟨n302, n303, n304, n305, n306⟩, ⟨n307, n308, n309, n310, n311, n312⟩, ⟨n313, n314, n315, n316⟩, n317, n318⟩, ⟨n319, n320, n321, n322, n323⟩, ⟨n324, n325, n326, n327, n328⟩⟩ := id f293
            clear f293
            replace f294 : m_SC I286a A286a := f294
            replace f295 : m_TR lo288 I286a A286a := f295
            replace f296 : m_ST lo5 (w_up I3a 2774 ((I3a 2774) + 1)) A3a lo288 I286a A286a := f296
            replace f297 : t_E ((A286a 53) (v287)) := f297
            replace f298 : m_rt lo288 (I286a 3905) v287 := f298
            replace f299 : m_RK lo288 (I3a 3905) (I286a 3905) (8 * (24 - (I3a 2775)) + 3) := f299
            have tk329 : m_TK I286a A286a := m_TK_fx f292 tk46
            have nn330 : (I3a 3905) ≤ (I286a 3905) := by omega
            have nz331 : 0 ≤ (I3a 3905) := by first | assumption | omega
            have ho332 : (I3a 2775) = (I 2775) + (0) := by omega
            have rk334 : m_RK lo288 (I 3905) (I286a 3905) (8 * (24 - (I 2775)) + (3)) := m_RK_app (I := (w_up I3a 2774 ((I3a 2774) + 1))) (I' := I286a) (R := (8 * (24 - (I 2775)) + (3))) (show m_RK lo5 (I 3905) (I3a 3905) (8 * (24 - (I 2775)) + (3)) from rk51) f296 f299 (show 0 ≤ (I 3905) by first | assumption | omega) (m_r8 (by decide)) (m_r8o (k := 0) ho332 (by decide))
            have s333 : m_ST lo I A lo288 I286a A286a := m_ST_trans (show m_ST lo I A lo5 (w_up I3a 2774 ((I3a 2774) + 1)) A3a from s50) f296 (show 0 ≤ (I 3905) by first | assumption | omega) (show (I 3905) ≤ (I3a 3905) by first | assumption | omega) (show (I 4289) ≤ (I3a 4289) by first | assumption | omega) (show (I 5889) ≤ (I3a 5889) by first | assumption | omega)
            have k335 : m_kd lo288 I286a A286a (I 3905) (8 * (24 - (I 2775)) + 3) v4 t_E := m_kd_ST f296 nn330 k52
            have rt336 := m_rt_ST f296 (show 0 ≤ v4 by omega) (show v4 < (I3a 3905) by omega) f15
            have k337 : m_kd lo288 I286a A286a (I3a 3905) (8 * (24 - (I3a 2775)) + 3) v287 t_E := m_kd_of f296 f295 nz331 (show (I3a 3905) ≤ v287 by first | assumption | omega) (show v287 < (I286a 3905) by omega) f297 f299
            obtain ⟨j338, j339, j340, j341, j342⟩ := k337.1
            show w_W _ _ _ (75, [(2, .int (Int32.ofInt (6))), (1, .int (Int32.ofInt (v4))), (0, .ref 43)], [.int (Int32.ofInt (v287)), .int (Int32.ofInt (v4)), .int (Int32.ofInt (6)), .int (Int32.ofInt (9)), .ref 43], M285) _
            refine w_call (cm := 239) (as := [(0, .ref 43), (1, .int (Int32.ofInt (9))), (2, .int (Int32.ofInt (6))), (3, .int (Int32.ofInt (v4))), (4, .int (Int32.ofInt (v287)))]) (rest := []) (o := some (9, 43)) rfl (w_fitR hR286a rfl) (m_node (9) (6) (v4) (v287) hR286a (show 2 ≤ d by omega) ⟨by omega, by omega⟩ ⟨by omega, by omega⟩ ⟨by omega, by omega⟩ ⟨by omega, by omega⟩ (show (I286a 3393) = (I286a 3905) by first | assumption | omega) (show (I286a 3521) = (I286a 3905) by first | assumption | omega) (show (I286a 3649) = (I286a 3905) by first | assumption | omega) (show (I286a 3777) = (I286a 3905) by first | assumption | omega) (show (I286a 3905) < 65536 by first | assumption | omega)) (fun r343 M344 q345 => ?_)
            rcases q345 with ⟨v346, I345a, A345a, B345a, C345a, e347, ⟨r348, r349⟩, hR345a, f350, f351⟩
            rw [e347]
            replace hR345a : w_Rep w_TM fr X u l I345a A345a B345a C345a M344 := hR345a
            replace f350 : m_fx I286a A286a I345a A345a := f350
            replace f351 : m_nd I286a A286a I345a A345a v346 9 6 v4 v287 := f351
            obtain ⟨⟨n352, n353, n354, n355, n356, n357⟩, ⟨n358, n359, n360, n361, n362, n363, n364⟩⟩ : (v346 = (I286a 3905) ∧ (I345a 3905) = (I286a 3905) + 1 ∧ (I345a 3393) = (I286a 3393) + 1 ∧ (I345a 3521) = (I286a 3521) + 1 ∧ (I345a 3649) = (I286a 3649) + 1 ∧ (I345a 3777) = (I286a 3777) + 1) ∧ ((I345a 2774) = (I286a 2774) ∧ (I345a 2754) = (I286a 2754) ∧ (I345a 2775) = (I286a 2775) ∧ (I345a 4289) = (I286a 4289) ∧ (I345a 4033) = (I286a 4033) ∧ (I345a 4161) = (I286a 4161) ∧ (I345a 5889) = (I286a 5889)) := m_nd_num f351
            have tk365 : m_TK I345a A345a := m_TK_fx f350 tk329
            have sc366 : m_SC I345a A345a := m_SC_nd f351 f294
            have tr367 : m_TR (t_up lo288 v346 (I 3905) (8 * (24 - (I 2775)) + (4))) I345a A345a := m_TR_nd (show m_TR lo288 I286a A286a from f295) f351 (show 0 ≤ (I 3905) by omega) (show (I 3905) ≤ v346 by omega) (m_cl_ST (show m_ST lo I A lo288 I286a A286a from s333) hTR (show 0 ≤ (I 3905) by omega)) (t_N_mk9 t_up_same (show 0 ≤ (I 3905) by omega) (show (I 3905) ≤ v346 by omega) (show 0 ≤ (8 * (24 - (I 2775)) + (4)) by omega) (m_hw2 (show m_RK lo288 (I 3905) v346 (8 * (24 - (I 2775)) + (3)) from fun q q1 q2 => (show m_RK lo288 (I 3905) (I286a 3905) (8 * (24 - (I 2775)) + (3)) from rk334) q (show (I 3905) ≤ q by omega) (show q < (I286a 3905) by omega)) (m_r8 (by decide))) ⟨m_ch f351 (show (I 3905) ≤ (I 3905) by omega) k335, m_ch f351 (show (I 3905) ≤ (I3a 3905) by omega) k337, m_od f351 k337 (show v4 < (I3a 3905) by omega), (Or.inr (m_ork f351 k335 (show (8 * (24 - (I 2775)) + 3) < (8 * (24 - (I 2775)) + (4)) by omega))), (m_ork f351 k337 (show (8 * (24 - (I3a 2775)) + 3) < (8 * (24 - (I 2775)) + (4)) by omega))⟩)
            have s368 : m_ST lo I A (t_up lo288 v346 (I 3905) (8 * (24 - (I 2775)) + (4))) I345a A345a := m_ST_nd (l := (I 3905)) (show m_ST lo I A lo288 I286a A286a from s333) f351 (show (I 3905) ≤ (I 3905) by omega) (show (I 3905) ≤ (I286a 3905) by omega)
            have rk369 : m_RK (t_up lo288 v346 (I 3905) (8 * (24 - (I 2775)) + (4))) (I 3905) (I345a 3905) (8 * (24 - (I 2775)) + (4)) := fun q q1 q2 => m_RK_nd (show m_RK lo288 (I 3905) v346 (8 * (24 - (I 2775)) + (3)) from fun q q1 q2 => (show m_RK lo288 (I 3905) (I286a 3905) (8 * (24 - (I 2775)) + (3)) from rk334) q q1 (show q < (I286a 3905) by omega)) (m_r8 (by decide)) (m_r8 (by decide)) q q1 (show q < v346 + 1 by omega)
            have k370 : m_kd (t_up lo288 v346 (I 3905) (8 * (24 - (I 2775)) + (4))) I345a A345a (I 3905) (8 * (24 - (I 2775)) + (4)) v346 (fun k => k = 9) := m_kd_new f351 (show 0 ≤ (I 3905) by omega) (show (I 3905) ≤ v346 by omega) rfl
            have rt371 : m_rt (t_up lo288 v346 (I 3905) (8 * (24 - (I 2775)) + (4))) (I345a 3905) v346 := m_rt_new f351
            have op372 : (fun k => k = 9 ∨ k = 10) ((A345a 53) (v346)) ∨ ((t_up lo288 v346 (I 3905) (8 * (24 - (I 2775)) + (4))) v346).2 < (8 * (24 - (I 2775)) + (4)) := Or.inl (by have q1 : (A345a 53) (v346) = 9 := k370.2; omega)
            show w_W _ _ _ (78, [(2, .int (Int32.ofInt (6))), (1, .int (Int32.ofInt (v4))), (0, .ref 43)], [.int (Int32.ofInt (v346))], M344) _
            refine w_fin (r := .inl (some (v346))) (M' := M344) rfl ?_
            exact Or.inl ⟨v346, (t_up lo288 v346 (I 3905) (8 * (24 - (I 2775)) + (4))), I345a, A345a, B345a, C345a, rfl, ⟨by omega, by omega⟩, hR345a, (show m_fx I A I345a A345a by exact (m_fx_trans (m_fx_trans f9 f292) f350)), (show ((0 ≤ (I345a 2774) ∧ (I345a 2774) < (I345a 2754) ∧ (I345a 2754) ≤ 1501 ∧ 0 ≤ (I345a 2775) ∧ (I345a 2775) ≤ 24) ∧ ((I345a 3393) = (I345a 3905) ∧ (I345a 3521) = (I345a 3905) ∧ (I345a 3649) = (I345a 3905) ∧ (I345a 3777) = (I345a 3905) ∧ 0 ≤ (I345a 3905) ∧ (I345a 3905) ≤ 3 * (I345a 2774)) ∧ ((I345a 4161) = (I345a 4033) ∧ 7 ≤ (I345a 4289) ∧ (I345a 4289) ≤ (I345a 4033) ∧ (I345a 4033) ≤ 7 + (I345a 2774)) ∧ 0 ≤ (I345a 5889) ∧ (I345a 5889) ≤ (I345a 2774)) ∧ ((I345a 2754) = (I 2754) ∧ (I 2774) + 1 ≤ (I345a 2774) ∧ (I345a 2775) = (I 2775) ∧ (I345a 4289) = (I 4289) + 0 ∧ (I345a 5889) = (I 5889)) ∧ ((I345a 3905) + 2 ≤ (I 3905) + 3 * ((I345a 2774) - (I 2774)) ∧ (I 3905) ≤ v346 ∧ v346 + 1 = (I345a 3905) ∧ (I 4033) ≤ (I345a 4033) ∧ (I345a 4033) ≤ (I 4033) + ((I345a 2774) - (I 2774))) by (repeat' apply And.intro) <;> first | assumption | omega), (show m_SC I345a A345a by exact sc366), (show m_TR (t_up lo288 v346 (I 3905) (8 * (24 - (I 2775)) + (4))) I345a A345a by exact tr367), (show m_ST lo I A (t_up lo288 v346 (I 3905) (8 * (24 - (I 2775)) + (4))) I345a A345a by exact s368), (show t_E ((A345a 53) (v346)) by exact ((m_kd_K k370 (fun k h => by have h : k = 9 := h; unfold t_E; omega))).2), (show m_rt (t_up lo288 v346 (I 3905) (8 * (24 - (I 2775)) + (4))) (I345a 3905) v346 by exact rt371), (show m_RK (t_up lo288 v346 (I 3905) (8 * (24 - (I 2775)) + (4))) (I 3905) (I345a 3905) (8 * (24 - (I 2775)) + 4) by exact m_RK_le (show m_RK (t_up lo288 v346 (I 3905) (8 * (24 - (I 2775)) + (4))) (I 3905) (I345a 3905) (8 * (24 - (I 2775)) + (4)) from rk369) (show (8 * (24 - (I 2775)) + (4)) ≤ 8 * (24 - (I 2775)) + 4 by omega))⟩
          · rw [e300]
            replace hR286b : w_Rep w_TM fr X u l I286b A286b B286b C286b M285 := hR286b
            replace f301 : m_fx (w_up I3a 2774 ((I3a 2774) + 1)) A3a I286b A286b := f301
            exact Or.inr (⟨I286b, A286b, B286b, C286b, rfl, hR286b, (show m_fx I A I286b A286b by exact (m_fx_trans f9 f301))⟩)
        · rw [e274, e275]
          replace f276 : ¬ ((A3a 45) ((I3a 2774)) = 6 ∧ (A3a 46) ((I3a 2774)) = 257) := f276
          show w_W _ _ _ (40, [(1, .int (Int32.ofInt (v4))), (0, .ref 43)], [.int (Int32.ofInt (0))], M2) _
          refine w_adv (n := 6) (F' := (55, [(2, .int (Int32.ofInt ((-1)))), (1, .int (Int32.ofInt (v4))), (0, .ref 43)], [.int (Int32.ofInt (v4))], M2)) rfl ?_
          refine w_fin (r := .inl (some (v4))) (M' := M2) rfl ?_
          exact Or.inl ⟨v4, lo5, I3a, A3a, B3a, C3a, rfl, ⟨by omega, by omega⟩, hR3a, (show m_fx I A I3a A3a by exact f9), (show ((0 ≤ (I3a 2774) ∧ (I3a 2774) < (I3a 2754) ∧ (I3a 2754) ≤ 1501 ∧ 0 ≤ (I3a 2775) ∧ (I3a 2775) ≤ 24) ∧ ((I3a 3393) = (I3a 3905) ∧ (I3a 3521) = (I3a 3905) ∧ (I3a 3649) = (I3a 3905) ∧ (I3a 3777) = (I3a 3905) ∧ 0 ≤ (I3a 3905) ∧ (I3a 3905) ≤ 3 * (I3a 2774)) ∧ ((I3a 4161) = (I3a 4033) ∧ 7 ≤ (I3a 4289) ∧ (I3a 4289) ≤ (I3a 4033) ∧ (I3a 4033) ≤ 7 + (I3a 2774)) ∧ 0 ≤ (I3a 5889) ∧ (I3a 5889) ≤ (I3a 2774)) ∧ ((I3a 2754) = (I 2754) ∧ (I 2774) + 1 ≤ (I3a 2774) ∧ (I3a 2775) = (I 2775) ∧ (I3a 4289) = (I 4289) + 0 ∧ (I3a 5889) = (I 5889)) ∧ ((I3a 3905) + 2 ≤ (I 3905) + 3 * ((I3a 2774) - (I 2774)) ∧ (I 3905) ≤ v4 ∧ v4 + 1 = (I3a 3905) ∧ (I 4033) ≤ (I3a 4033) ∧ (I3a 4033) ≤ (I 4033) + ((I3a 2774) - (I 2774))) by (repeat' apply And.intro) <;> first | assumption | omega), (show m_SC I3a A3a by exact f11), (show m_TR lo5 I3a A3a by exact f12), (show m_ST lo I A lo5 I3a A3a by exact s50), (show t_E ((A3a 53) (v4)) by exact (k52).2), (show m_rt lo5 (I3a 3905) v4 by exact f15), (show m_RK lo5 (I 3905) (I3a 3905) (8 * (24 - (I 2775)) + 4) by exact m_RK_le (show m_RK lo5 (I 3905) (I3a 3905) (8 * (24 - (I 2775)) + (3)) from rk51) (show (8 * (24 - (I 2775)) + (3)) ≤ 8 * (24 - (I 2775)) + 4 by omega))⟩
  · rw [e17]
    replace hR3b : w_Rep w_TM fr X u l I3b A3b B3b C3b M2 := hR3b
    replace f18 : m_fx I A I3b A3b := f18
    exact Or.inr (⟨I3b, A3b, B3b, C3b, rfl, hR3b, (show m_fx I A I3b A3b by exact f18)⟩)
