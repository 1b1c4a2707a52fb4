def m_sum_Q (fr : Nat → Bool) (X : Nat → Option (q_C (Nat → Int32))) (u l : Nat) (I : Nat → Int) (A : Nat → Int → Int) (B C : Nat → Nat) (M : w_M) (lo : Int → Int × Int) : w_X → w_M → Prop := fun r M' => (∃ v : Int, ∃ lo' : Int → Int × Int, ∃ (I' : Nat → Int) (A' : Nat → Int → Int) (B' C' : Nat → Nat), (r = .inl (some v)) ∧ (w_in v) ∧ (w_Rep w_TM fr X u l I' A' B' C' M') ∧ (m_fx I A I' A') ∧ (((0 ≤ (I' 2774) ∧ (I' 2774) < (I' 2754) ∧ (I' 2754) ≤ 1501 ∧ 0 ≤ (I' 2775) ∧ (I' 2775) ≤ 24) ∧ ((I' 3393) = (I' 3905) ∧ (I' 3521) = (I' 3905) ∧ (I' 3649) = (I' 3905) ∧ (I' 3777) = (I' 3905) ∧ 0 ≤ (I' 3905) ∧ (I' 3905) ≤ 3 * (I' 2774)) ∧ ((I' 4161) = (I' 4033) ∧ 7 ≤ (I' 4289) ∧ (I' 4289) ≤ (I' 4033) ∧ (I' 4033) ≤ 7 + (I' 2774)) ∧ 0 ≤ (I' 5889) ∧ (I' 5889) ≤ (I' 2774)) ∧ ((I' 2754) = (I 2754) ∧ (I 2774) + 1 ≤ (I' 2774) ∧ (I' 2775) = (I 2775) ∧ (I' 4289) = (I 4289) + 0 ∧ (I' 5889) = (I 5889)) ∧ ((I' 3905) + 2 ≤ (I 3905) + 3 * ((I' 2774) - (I 2774)) ∧ (I 3905) ≤ v ∧ v + 1 = (I' 3905) ∧ (I 4033) ≤ (I' 4033) ∧ (I' 4033) ≤ (I 4033) + ((I' 2774) - (I 2774)))) ∧ (m_SC I' A') ∧ (m_TR lo' I' A') ∧ (m_ST lo I A lo' I' A') ∧ (t_E ((A' 53) (v))) ∧ (m_rt lo' (I' 3905) v) ∧ (m_RK lo' (I 3905) (I' 3905) (8 * (24 - (I 2775)) + 3))) ∨ (∃ (I' : Nat → Int) (A' : Nat → Int → Int) (B' C' : Nat → Nat), (r = .inr 69) ∧ (w_Rep w_TM fr X u l I' A' B' C' M') ∧ (m_fx I A I' A'))
set_option maxHeartbeats 100000000 in
set_option maxRecDepth 100000 in
theorem m_sum {L : Nat} {xs : Nat → Int32} {d : Nat} {fr : Nat → Bool} {X : Nat → Option (q_C (Nat → Int32))} {u l : Nat} {I : Nat → Int} {A : Nat → Int → Int} {B C : Nat → Nat} {M : w_M} {N : Int} (hA : m_all L xs N) (lo : Int → Int × Int) (hR : w_Rep w_TM fr X u l I A B C M) (hd : 20 * (24 - (I 2775)) + 15 ≤ (d : Int)) (hTK : m_TK I A) (hNU : (0 ≤ (I 2774) ∧ (I 2774) < (I 2754) ∧ (I 2754) ≤ 1501 ∧ 0 ≤ (I 2775) ∧ (I 2775) ≤ 24) ∧ ((I 3393) = (I 3905) ∧ (I 3521) = (I 3905) ∧ (I 3649) = (I 3905) ∧ (I 3777) = (I 3905) ∧ 0 ≤ (I 3905) ∧ (I 3905) ≤ 3 * (I 2774)) ∧ ((I 4161) = (I 4033) ∧ 7 ≤ (I 4289) ∧ (I 4289) ≤ (I 4033) ∧ (I 4033) ≤ 7 + (I 2774)) ∧ 0 ≤ (I 5889) ∧ (I 5889) ≤ (I 2774)) (hSC : m_SC I A) (hTR : m_TR lo I A) (hm : (I 2754) - (I 2774) ≤ N) : w_W (z_P L xs) d 247 (0, [(0, .ref 43)], [], M) (m_sum_Q fr X u l I A B C M lo) := by
  obtain ⟨d, rfl⟩ : ∃ d0, d = d0 + 1 := ⟨d - 1, by omega⟩
  refine w_adv (n := 1) (F' := (1, [(0, .ref 43)], [.ref 43], M)) rfl ?_
  refine w_call (cm := 248) (as := [(0, .ref 43)]) (rest := []) (o := some (9, 43)) rfl (w_fitR hR rfl) (m_product hA (lo) hR (show 20 * (24 - (I 2775)) + 14 ≤ (d : Int) by omega) (show m_TK I A by exact hTK) (show (0 ≤ (I 2774) ∧ (I 2774) < (I 2754) ∧ (I 2754) ≤ 1501 ∧ 0 ≤ (I 2775) ∧ (I 2775) ≤ 24) ∧ ((I 3393) = (I 3905) ∧ (I 3521) = (I 3905) ∧ (I 3649) = (I 3905) ∧ (I 3777) = (I 3905) ∧ 0 ≤ (I 3905) ∧ (I 3905) ≤ 3 * (I 2774)) ∧ ((I 4161) = (I 4033) ∧ 7 ≤ (I 4289) ∧ (I 4289) ≤ (I 4033) ∧ (I 4033) ≤ 7 + (I 2774)) ∧ 0 ≤ (I 5889) ∧ (I 5889) ≤ (I 2774) by (repeat' apply And.intro) <;> first | assumption | omega) (show m_SC I A by exact hSC) (show m_TR lo I A by exact hTR) (show (I 2754) - (I 2774) ≤ N by first | assumption | omega)) (fun r1 M2 q3 => ?_)
  rcases q3 with ⟨v4, lo5, I3a, A3a, B3a, C3a, e6, ⟨r7, r8⟩, hR3a, f9, f10, f11, f12, f13, f14, f15, f16⟩ | ⟨I3b, A3b, B3b, C3b, e17, hR3b, f18⟩
  · rw [e6]
    replace hR3a : w_Rep w_TM fr X u l I3a A3a B3a C3a M2 := hR3a
    replace f9 : m_fx I A I3a A3a := f9
    replace f10 : ((0 ≤ (I3a 2774) ∧ (I3a 2774) < (I3a 2754) ∧ (I3a 2754) ≤ 1501 ∧ 0 ≤ (I3a 2775) ∧ (I3a 2775) ≤ 24) ∧ ((I3a 3393) = (I3a 3905) ∧ (I3a 3521) = (I3a 3905) ∧ (I3a 3649) = (I3a 3905) ∧ (I3a 3777) = (I3a 3905) ∧ 0 ≤ (I3a 3905) ∧ (I3a 3905) ≤ 3 * (I3a 2774)) ∧ ((I3a 4161) = (I3a 4033) ∧ 7 ≤ (I3a 4289) ∧ (I3a 4289) ≤ (I3a 4033) ∧ (I3a 4033) ≤ 7 + (I3a 2774)) ∧ 0 ≤ (I3a 5889) ∧ (I3a 5889) ≤ (I3a 2774)) ∧ ((I3a 2754) = (I 2754) ∧ (I 2774) + 1 ≤ (I3a 2774) ∧ (I3a 2775) = (I 2775) ∧ (I3a 4289) = (I 4289) + 0 ∧ (I3a 5889) = (I 5889)) ∧ ((I3a 3905) + 2 ≤ (I 3905) + 3 * ((I3a 2774) - (I 2774)) ∧ (I 3905) ≤ v4 ∧ v4 + 1 = (I3a 3905) ∧ (I 4033) ≤ (I3a 4033) ∧ (I3a 4033) ≤ (I 4033) + ((I3a 2774) - (I 2774))) := f10
    obtain ⟨⟨⟨n19, n20, n21, n22, n23⟩, ⟨n24, n25, n26, n27, n28, n29⟩, ⟨n30, n31, n32, n33⟩, n34, n35⟩, ⟨n36, n37, n38, n39, n40⟩, ⟨n41, n42, n43, n44, n45⟩⟩ := id f10
    clear f10
    replace f11 : m_SC I3a A3a := f11
    replace f12 : m_TR lo5 I3a A3a := f12
    replace f13 : m_ST lo I A lo5 I3a A3a := f13
    replace f14 : t_E ((A3a 53) (v4)) := f14
    replace f15 : m_rt lo5 (I3a 3905) v4 := f15
    replace f16 : m_RK lo5 (I 3905) (I3a 3905) (8 * (24 - (I 2775)) + 2) := f16
    have tk46 : m_TK I3a A3a := m_TK_fx f9 hTK
    have nn47 : (I 3905) ≤ (I3a 3905) := by omega
    have nz48 : 0 ≤ (I 3905) := by first | assumption | omega
    have ho49 : (I 2775) = (I 2775) + (0) := by omega
    have rk51 : m_RK lo5 (I 3905) (I3a 3905) (8 * (24 - (I 2775)) + (2)) := m_RK_app (I := I) (I' := I3a) (R := (8 * (24 - (I 2775)) + (2))) (show m_RK lo (I 3905) (I 3905) (8 * (24 - (I 2775)) + (2)) from fun q q1 q2 => by omega) f13 f16 (show 0 ≤ (I 3905) by first | assumption | omega) (m_r8 (by decide)) (m_r8o (k := 0) ho49 (by decide))
    have s50 : m_ST lo I A lo5 I3a A3a := f13
    have k52 : m_kd lo5 I3a A3a (I 3905) (8 * (24 - (I 2775)) + 2) v4 t_E := m_kd_of (I := I) f13 f12 nz48 (show (I 3905) ≤ v4 by first | assumption | omega) (show v4 < (I3a 3905) by omega) f14 f16
    obtain ⟨j53, j54, j55, j56, j57⟩ := k52.1
    show w_W _ _ _ (4, [(0, .ref 43)], [.int (Int32.ofInt (v4))], M2) _
    refine w_adv (n := 1) (F' := (5, [(1, .int (Int32.ofInt (v4))), (0, .ref 43)], [], M2)) rfl ?_
    have lp5 : ∀ fu : Nat, ∀ (lo_5 : Int → Int × Int) (y5_1 : Int) (I_5 : Nat → Int) (A_5 : Nat → Int → Int) (B_5 C_5 : Nat → Nat) (M_5 : w_M) (hR_5 : w_Rep w_TM fr X u l I_5 A_5 B_5 C_5 M_5), w_in y5_1 → ((0 ≤ (I_5 2774) ∧ (I_5 2774) < (I_5 2754) ∧ (I_5 2754) ≤ 1501 ∧ 0 ≤ (I_5 2775) ∧ (I_5 2775) ≤ 24) ∧ ((I_5 3393) = (I_5 3905) ∧ (I_5 3521) = (I_5 3905) ∧ (I_5 3649) = (I_5 3905) ∧ (I_5 3777) = (I_5 3905) ∧ 0 ≤ (I_5 3905) ∧ (I_5 3905) ≤ 3 * (I_5 2774)) ∧ ((I_5 4161) = (I_5 4033) ∧ 7 ≤ (I_5 4289) ∧ (I_5 4289) ≤ (I_5 4033) ∧ (I_5 4033) ≤ 7 + (I_5 2774)) ∧ 0 ≤ (I_5 5889) ∧ (I_5 5889) ≤ (I_5 2774)) ∧ ((I_5 2754) = (I 2754) ∧ (I 2774) + 1 ≤ (I_5 2774) ∧ (I_5 2775) = (I 2775) ∧ (I_5 4289) = (I 4289) + 0 ∧ (I_5 5889) = (I 5889)) ∧ ((I_5 3905) + 2 ≤ (I 3905) + 3 * ((I_5 2774) - (I 2774)) ∧ (I 3905) ≤ y5_1 ∧ y5_1 + 1 = (I_5 3905) ∧ (I 4033) ≤ (I_5 4033) ∧ (I_5 4033) ≤ (I 4033) + ((I_5 2774) - (I 2774))) → m_TK I_5 A_5 → m_SC I_5 A_5 → m_TR lo_5 I_5 A_5 → m_ST lo I A lo_5 I_5 A_5 → m_fx I A I_5 A_5 → m_kd lo_5 I_5 A_5 (I 3905) (8 * (24 - (I 2775)) + (3)) y5_1 t_E → m_RK lo_5 (I 3905) (I_5 3905) (8 * (24 - (I 2775)) + (3)) → (fun k => k = 9 ∨ k = 10) ((A_5 53) (y5_1)) ∨ (lo_5 y5_1).2 < (8 * (24 - (I 2775)) + (3)) → (I_5 2754) - (I_5 2774) < (fu : Int) → w_W (z_P L xs) (d + 1) 247 (5, [(0, .ref 43), (1, .int (Int32.ofInt (y5_1)))], [], M_5) (m_sum_Q fr X u l I A B C M lo) := by
      intro fu
      induction fu with
      | zero =>
        intro lo_5 y5_1 I_5 A_5 B_5 C_5 M_5 hR_5 ⟨ra_y5_1, rb_y5_1⟩ hi5_0 hi5_1 hi5_2 hi5_3 hi5_4 hi5_5 hi5_6 hi5_7 hi5_8 hn5
        exfalso
        omega
      | succ fu ih5 =>
        intro lo_5 y5_1 I_5 A_5 B_5 C_5 M_5 hR_5 ⟨ra_y5_1, rb_y5_1⟩ hi5_0 hi5_1 hi5_2 hi5_3 hi5_4 hi5_5 hi5_6 hi5_7 hi5_8 hn5
        obtain ⟨⟨⟨n58, n59, n60, n61, n62⟩, ⟨n63, n64, n65, n66, n67, n68⟩, ⟨n69, n70, n71, n72⟩, n73, n74⟩, ⟨n75, n76, n77, n78, n79⟩, ⟨n80, n81, n82, n83, n84⟩⟩ := hi5_0
        obtain ⟨j85, j86, j87, j88, j89⟩ := hi5_6.1
        have jn37 : ∀ (k37_0 : Int), w_in k37_0 → (0 ≤ k37_0 ∧ k37_0 ≤ 4 ∧ (I_5 2774) + 1 < (I_5 2754)) → w_W (z_P L xs) (d + 1) 247 (37, [(0, .ref 43), (1, .int (Int32.ofInt (y5_1)))], [.int (Int32.ofInt (k37_0))], M_5) (m_sum_Q fr X u l I A B C M lo) := by
          intro k37_0 ⟨ra_k37_0, rb_k37_0⟩ hj37_0
          refine w_adv (n := 3) (F' := (40, [(2, .int (Int32.ofInt (k37_0))), (0, .ref 43), (1, .int (Int32.ofInt (y5_1)))], [.ref 43, .ref 43], M_5)) rfl ?_
          refine w_gf (v := .int (Int32.ofInt ((I_5 2774)))) hR_5 rfl rfl rfl rfl ?_
          obtain ⟨r90, r91⟩ : -2147483648 ≤ (I_5 2774) ∧ (I_5 2774) ≤ 2147483647 := hR_5.ri 2774
          refine w_adv (n := 1) (F' := (44, [(2, .int (Int32.ofInt (k37_0))), (0, .ref 43), (1, .int (Int32.ofInt (y5_1)))], [.int (Int32.ofInt (1)), .int (Int32.ofInt ((I_5 2774))), .ref 43], M_5)) rfl ?_
          refine w_add rfl ?_
          refine w_pf hR_5 rfl rfl rfl rfl (show w_in ((I_5 2774) + 1) from ⟨by omega, by omega⟩) (fun h => absurd h (by decide)) (fun M92 hR93 => ?_)
          replace hR93 : w_Rep w_TM fr X u l (w_up I_5 2774 ((I_5 2774) + 1)) A_5 B_5 C_5 M92 := hR93
          refine w_adv (n := 5) (F' := (54, [(2, .int (Int32.ofInt (k37_0))), (0, .ref 43), (1, .int (Int32.ofInt (y5_1)))], [.ref 43, .int (Int32.ofInt (y5_1)), .int (Int32.ofInt (k37_0)), .int (Int32.ofInt (9)), .ref 43], M92)) rfl ?_
          refine w_call (cm := 248) (as := [(0, .ref 43)]) (rest := [.int (Int32.ofInt (y5_1)), .int (Int32.ofInt (k37_0)), .int (Int32.ofInt (9)), .ref 43]) (o := some (9, 43)) rfl (w_fitR hR93 rfl) (m_product hA (lo_5) hR93 (show 20 * (24 - (I_5 2775)) + 14 ≤ (d : Int) by omega) (show m_TK (w_up I_5 2774 ((I_5 2774) + 1)) A_5 by exact hi5_1) (show (0 ≤ (I_5 2774) + 1 ∧ (I_5 2774) + 1 < (I_5 2754) ∧ (I_5 2754) ≤ 1501 ∧ 0 ≤ (I_5 2775) ∧ (I_5 2775) ≤ 24) ∧ ((I_5 3393) = (I_5 3905) ∧ (I_5 3521) = (I_5 3905) ∧ (I_5 3649) = (I_5 3905) ∧ (I_5 3777) = (I_5 3905) ∧ 0 ≤ (I_5 3905) ∧ (I_5 3905) ≤ 3 * ((I_5 2774) + 1)) ∧ ((I_5 4161) = (I_5 4033) ∧ 7 ≤ (I_5 4289) ∧ (I_5 4289) ≤ (I_5 4033) ∧ (I_5 4033) ≤ 7 + ((I_5 2774) + 1)) ∧ 0 ≤ (I_5 5889) ∧ (I_5 5889) ≤ (I_5 2774) + 1 by (repeat' apply And.intro) <;> first | assumption | omega) (show m_SC (w_up I_5 2774 ((I_5 2774) + 1)) A_5 by exact hi5_2) (show m_TR lo_5 (w_up I_5 2774 ((I_5 2774) + 1)) A_5 by exact hi5_3) (show (I_5 2754) - ((I_5 2774) + 1) ≤ N by first | assumption | omega)) (fun r94 M95 q96 => ?_)
          rcases q96 with ⟨v97, lo98, I96a, A96a, B96a, C96a, e99, ⟨r100, r101⟩, hR96a, f102, f103, f104, f105, f106, f107, f108, f109⟩ | ⟨I96b, A96b, B96b, C96b, e110, hR96b, f111⟩
          · rw [e99]
            replace hR96a : w_Rep w_TM fr X u l I96a A96a B96a C96a M95 := hR96a
            replace f102 : m_fx (w_up I_5 2774 ((I_5 2774) + 1)) A_5 I96a A96a := f102
            replace f103 : ((0 ≤ (I96a 2774) ∧ (I96a 2774) < (I96a 2754) ∧ (I96a 2754) ≤ 1501 ∧ 0 ≤ (I96a 2775) ∧ (I96a 2775) ≤ 24) ∧ ((I96a 3393) = (I96a 3905) ∧ (I96a 3521) = (I96a 3905) ∧ (I96a 3649) = (I96a 3905) ∧ (I96a 3777) = (I96a 3905) ∧ 0 ≤ (I96a 3905) ∧ (I96a 3905) ≤ 3 * (I96a 2774)) ∧ ((I96a 4161) = (I96a 4033) ∧ 7 ≤ (I96a 4289) ∧ (I96a 4289) ≤ (I96a 4033) ∧ (I96a 4033) ≤ 7 + (I96a 2774)) ∧ 0 ≤ (I96a 5889) ∧ (I96a 5889) ≤ (I96a 2774)) ∧ ((I96a 2754) = (I_5 2754) ∧ ((I_5 2774) + 1) + 1 ≤ (I96a 2774) ∧ (I96a 2775) = (I_5 2775) ∧ (I96a 4289) = (I_5 4289) + 0 ∧ (I96a 5889) = (I_5 5889)) ∧ ((I96a 3905) + 2 ≤ (I_5 3905) + 3 * ((I96a 2774) - ((I_5 2774) + 1)) ∧ (I_5 3905) ≤ v97 ∧ v97 + 1 = (I96a 3905) ∧ (I_5 4033) ≤ (I96a 4033) ∧ (I96a 4033) ≤ (I_5 4033) + ((I96a 2774) - ((I_5 2774) + 1))) := f103
            obtain ⟨⟨⟨n112, n113, n114, n115, n116⟩, ⟨n117, n118, n119, n120, n121, n122⟩, ⟨n123, n124, n125, n126⟩, n127, n128⟩, ⟨n129, n130, n131, n132, n133⟩, ⟨n134, n135, n136, n137, n138⟩⟩ := id f103
            clear f103
            replace f104 : m_SC I96a A96a := f104
            replace f105 : m_TR lo98 I96a A96a := f105
            replace f106 : m_ST lo_5 (w_up I_5 2774 ((I_5 2774) + 1)) A_5 lo98 I96a A96a := f106
            replace f107 : t_E ((A96a 53) (v97)) := f107
            replace f108 : m_rt lo98 (I96a 3905) v97 := f108
            replace f109 : m_RK lo98 (I_5 3905) (I96a 3905) (8 * (24 - (I_5 2775)) + 2) := f109
            have tk139 : m_TK I96a A96a := m_TK_fx f102 hi5_1
            have nn140 : (I_5 3905) ≤ (I96a 3905) := by omega
            have nz141 : 0 ≤ (I_5 3905) := by first | assumption | omega
            have ho142 : (I_5 2775) = (I 2775) + (0) := by omega
            have rk144 : m_RK lo98 (I 3905) (I96a 3905) (8 * (24 - (I 2775)) + (3)) := m_RK_app (I := (w_up I_5 2774 ((I_5 2774) + 1))) (I' := I96a) (R := (8 * (24 - (I 2775)) + (3))) (show m_RK lo_5 (I 3905) (I_5 3905) (8 * (24 - (I 2775)) + (3)) from hi5_7) f106 f109 (show 0 ≤ (I 3905) by first | assumption | omega) (m_r8 (by decide)) (m_r8o (k := 0) ho142 (by decide))
            have s143 : m_ST lo I A lo98 I96a A96a := m_ST_trans (show m_ST lo I A lo_5 (w_up I_5 2774 ((I_5 2774) + 1)) A_5 from hi5_4) f106 (show 0 ≤ (I 3905) by first | assumption | omega) (show (I 3905) ≤ (I_5 3905) by first | assumption | omega) (show (I 4289) ≤ (I_5 4289) by first | assumption | omega) (show (I 5889) ≤ (I_5 5889) by first | assumption | omega)
            have k145 : m_kd lo98 I96a A96a (I 3905) (8 * (24 - (I 2775)) + (3)) y5_1 t_E := m_kd_ST f106 nn140 hi5_6
            have op146 := m_ork_ST (p := (fun k => k = 9 ∨ k = 10)) f106 hi5_6 hi5_8
            have k147 : m_kd lo98 I96a A96a (I_5 3905) (8 * (24 - (I_5 2775)) + 2) v97 t_E := m_kd_of (I := (w_up I_5 2774 ((I_5 2774) + 1))) f106 f105 nz141 (show (I_5 3905) ≤ v97 by first | assumption | omega) (show v97 < (I96a 3905) by omega) f107 f109
            obtain ⟨j148, j149, j150, j151, j152⟩ := k147.1
            show w_W _ _ _ (57, [(2, .int (Int32.ofInt (k37_0))), (0, .ref 43), (1, .int (Int32.ofInt (y5_1)))], [.int (Int32.ofInt (v97)), .int (Int32.ofInt (y5_1)), .int (Int32.ofInt (k37_0)), .int (Int32.ofInt (9)), .ref 43], M95) _
            refine w_call (cm := 239) (as := [(0, .ref 43), (1, .int (Int32.ofInt (9))), (2, .int (Int32.ofInt (k37_0))), (3, .int (Int32.ofInt (y5_1))), (4, .int (Int32.ofInt (v97)))]) (rest := []) (o := some (9, 43)) rfl (w_fitR hR96a rfl) (m_node (9) (k37_0) (y5_1) (v97) hR96a (show 2 ≤ d by omega) ⟨by omega, by omega⟩ ⟨by omega, by omega⟩ ⟨by omega, by omega⟩ ⟨by omega, by omega⟩ (show (I96a 3393) = (I96a 3905) by first | assumption | omega) (show (I96a 3521) = (I96a 3905) by first | assumption | omega) (show (I96a 3649) = (I96a 3905) by first | assumption | omega) (show (I96a 3777) = (I96a 3905) by first | assumption | omega) (show (I96a 3905) < 65536 by first | assumption | omega)) (fun r153 M154 q155 => ?_)
            rcases q155 with ⟨v156, I155a, A155a, B155a, C155a, e157, ⟨r158, r159⟩, hR155a, f160, f161⟩
            rw [e157]
            replace hR155a : w_Rep w_TM fr X u l I155a A155a B155a C155a M154 := hR155a
            replace f160 : m_fx I96a A96a I155a A155a := f160
            replace f161 : m_nd I96a A96a I155a A155a v156 9 k37_0 y5_1 v97 := f161
            obtain ⟨⟨n162, n163, n164, n165, n166, n167⟩, ⟨n168, n169, n170, n171, n172, n173, n174⟩⟩ : (v156 = (I96a 3905) ∧ (I155a 3905) = (I96a 3905) + 1 ∧ (I155a 3393) = (I96a 3393) + 1 ∧ (I155a 3521) = (I96a 3521) + 1 ∧ (I155a 3649) = (I96a 3649) + 1 ∧ (I155a 3777) = (I96a 3777) + 1) ∧ ((I155a 2774) = (I96a 2774) ∧ (I155a 2754) = (I96a 2754) ∧ (I155a 2775) = (I96a 2775) ∧ (I155a 4289) = (I96a 4289) ∧ (I155a 4033) = (I96a 4033) ∧ (I155a 4161) = (I96a 4161) ∧ (I155a 5889) = (I96a 5889)) := m_nd_num f161
            have tk175 : m_TK I155a A155a := m_TK_fx f160 tk139
            have sc176 : m_SC I155a A155a := m_SC_nd f161 f104
            have tr177 : m_TR (t_up lo98 v156 (I 3905) (8 * (24 - (I 2775)) + (3))) I155a A155a := m_TR_nd (show m_TR lo98 I96a A96a from f105) f161 (show 0 ≤ (I 3905) by omega) (show (I 3905) ≤ v156 by omega) (m_cl_ST (I1 := I) (show m_ST lo I A lo98 I96a A96a from s143) (show m_TR lo I A from hTR) (show 0 ≤ (I 3905) by omega)) (t_N_mk9 t_up_same (show 0 ≤ (I 3905) by omega) (show (I 3905) ≤ v156 by omega) (show 0 ≤ (8 * (24 - (I 2775)) + (3)) by omega) (m_hw2 (show m_RK lo98 (I 3905) v156 (8 * (24 - (I 2775)) + (3)) from fun q q1 q2 => (show m_RK lo98 (I 3905) (I96a 3905) (8 * (24 - (I 2775)) + (3)) from rk144) q (show (I 3905) ≤ q by omega) (show q < (I96a 3905) by omega)) (m_r8 (by decide))) ⟨m_ch f161 (show (I 3905) ≤ (I 3905) by omega) (show m_kd lo98 I96a A96a (I 3905) (8 * (24 - (I 2775)) + (3)) y5_1 t_E from k145), m_ch f161 (show (I 3905) ≤ (I_5 3905) by omega) (show m_kd lo98 I96a A96a (I_5 3905) (8 * (24 - (I_5 2775)) + 2) v97 t_E from k147), m_od f161 (show m_kd lo98 I96a A96a (I_5 3905) (8 * (24 - (I_5 2775)) + 2) v97 t_E from k147) (show y5_1 < (I_5 3905) by omega), (m_ork2 (p := (fun k => k = 9 ∨ k = 10)) f161 (show m_kd lo98 I96a A96a (I 3905) (8 * (24 - (I 2775)) + (3)) y5_1 t_E from k145) op146), (m_ork f161 (show m_kd lo98 I96a A96a (I_5 3905) (8 * (24 - (I_5 2775)) + 2) v97 t_E from k147) (show (8 * (24 - (I_5 2775)) + 2) < (8 * (24 - (I 2775)) + (3)) by omega))⟩)
            have s178 : m_ST lo I A (t_up lo98 v156 (I 3905) (8 * (24 - (I 2775)) + (3))) I155a A155a := m_ST_nd (l := (I 3905)) (show m_ST lo I A lo98 I96a A96a from s143) f161 (show (I 3905) ≤ (I 3905) by omega) (show (I 3905) ≤ (I96a 3905) by omega)
            have rk179 : m_RK (t_up lo98 v156 (I 3905) (8 * (24 - (I 2775)) + (3))) (I 3905) (I155a 3905) (8 * (24 - (I 2775)) + (3)) := fun q q1 q2 => m_RK_nd (show m_RK lo98 (I 3905) v156 (8 * (24 - (I 2775)) + (3)) from fun q q1 q2 => (show m_RK lo98 (I 3905) (I96a 3905) (8 * (24 - (I 2775)) + (3)) from rk144) q q1 (show q < (I96a 3905) by omega)) (m_r8 (by decide)) (m_r8 (by decide)) q q1 (show q < v156 + 1 by omega)
            have k180 : m_kd (t_up lo98 v156 (I 3905) (8 * (24 - (I 2775)) + (3))) I155a A155a (I 3905) (8 * (24 - (I 2775)) + (3)) v156 (fun k => k = 9) := m_kd_new f161 (show 0 ≤ (I 3905) by omega) (show (I 3905) ≤ v156 by omega) rfl
            have rt181 : m_rt (t_up lo98 v156 (I 3905) (8 * (24 - (I 2775)) + (3))) (I155a 3905) v156 := m_rt_new f161
            have op182 : (fun k => k = 9 ∨ k = 10) ((A155a 53) (v156)) ∨ ((t_up lo98 v156 (I 3905) (8 * (24 - (I 2775)) + (3))) v156).2 < (8 * (24 - (I 2775)) + (3)) := Or.inl (by have q1 : (A155a 53) (v156) = 9 := k180.2; omega)
            show w_W _ _ _ (60, [(2, .int (Int32.ofInt (k37_0))), (0, .ref 43), (1, .int (Int32.ofInt (y5_1)))], [.int (Int32.ofInt (v156))], M154) _
            refine w_adv (n := 2) (F' := (5, [(1, .int (Int32.ofInt (v156))), (2, .int (Int32.ofInt (k37_0))), (0, .ref 43)], [], M154)) rfl ?_
            refine w_ls (ls := [(0, .ref 43), (1, .int (Int32.ofInt (v156)))]) (show List.Nodup [0, 1] by decide) (show List.Nodup [1, 2, 0] by decide) (List.forall_mem_cons.mpr ⟨(List.Mem.tail _ (List.Mem.tail _ (List.Mem.head _))), (List.forall_mem_cons.mpr ⟨(List.Mem.head _), (fun _ h => by cases h)⟩)⟩) ?_
            exact ih5 (t_up lo98 v156 (I 3905) (8 * (24 - (I 2775)) + (3))) (v156) I155a A155a B155a C155a M154 hR155a ⟨by omega, by omega⟩ (show ((0 ≤ (I155a 2774) ∧ (I155a 2774) < (I155a 2754) ∧ (I155a 2754) ≤ 1501 ∧ 0 ≤ (I155a 2775) ∧ (I155a 2775) ≤ 24) ∧ ((I155a 3393) = (I155a 3905) ∧ (I155a 3521) = (I155a 3905) ∧ (I155a 3649) = (I155a 3905) ∧ (I155a 3777) = (I155a 3905) ∧ 0 ≤ (I155a 3905) ∧ (I155a 3905) ≤ 3 * (I155a 2774)) ∧ ((I155a 4161) = (I155a 4033) ∧ 7 ≤ (I155a 4289) ∧ (I155a 4289) ≤ (I155a 4033) ∧ (I155a 4033) ≤ 7 + (I155a 2774)) ∧ 0 ≤ (I155a 5889) ∧ (I155a 5889) ≤ (I155a 2774)) ∧ ((I155a 2754) = (I 2754) ∧ (I 2774) + 1 ≤ (I155a 2774) ∧ (I155a 2775) = (I 2775) ∧ (I155a 4289) = (I 4289) + 0 ∧ (I155a 5889) = (I 5889)) ∧ ((I155a 3905) + 2 ≤ (I 3905) + 3 * ((I155a 2774) - (I 2774)) ∧ (I 3905) ≤ v156 ∧ v156 + 1 = (I155a 3905) ∧ (I 4033) ≤ (I155a 4033) ∧ (I155a 4033) ≤ (I 4033) + ((I155a 2774) - (I 2774))) by (repeat' apply And.intro) <;> first | assumption | omega) (show m_TK I155a A155a by exact tk175) (show m_SC I155a A155a by exact sc176) (show m_TR (t_up lo98 v156 (I 3905) (8 * (24 - (I 2775)) + (3))) I155a A155a by exact tr177) (show m_ST lo I A (t_up lo98 v156 (I 3905) (8 * (24 - (I 2775)) + (3))) I155a A155a by exact s178) (show m_fx I A I155a A155a by exact (m_fx_trans (m_fx_trans hi5_5 f102) f160)) (show m_kd (t_up lo98 v156 (I 3905) (8 * (24 - (I 2775)) + (3))) I155a A155a (I 3905) (8 * (24 - (I 2775)) + (3)) v156 t_E by exact m_kd_l (m_kd_K k180 (fun k h => by have h : k = 9 := h; unfold t_E; omega)) (by omega) (by omega) (by omega)) (show m_RK (t_up lo98 v156 (I 3905) (8 * (24 - (I 2775)) + (3))) (I 3905) (I155a 3905) (8 * (24 - (I 2775)) + (3)) by exact m_RK_le (show m_RK (t_up lo98 v156 (I 3905) (8 * (24 - (I 2775)) + (3))) (I 3905) (I155a 3905) (8 * (24 - (I 2775)) + (3)) from rk179) (show (8 * (24 - (I 2775)) + (3)) ≤ (8 * (24 - (I 2775)) + (3)) by omega)) (show (fun k => k = 9 ∨ k = 10) ((A155a 53) (v156)) ∨ ((t_up lo98 v156 (I 3905) (8 * (24 - (I 2775)) + (3))) v156).2 < (8 * (24 - (I 2775)) + (3)) by exact op182) (show (I155a 2754) - (I155a 2774) < (fu : Int) by omega)
          · rw [e110]
            replace hR96b : w_Rep w_TM fr X u l I96b A96b B96b C96b M95 := hR96b
            replace f111 : m_fx (w_up I_5 2774 ((I_5 2774) + 1)) A_5 I96b A96b := f111
            exact Or.inr (⟨I96b, A96b, B96b, C96b, rfl, hR96b, (show m_fx I A I96b A96b by exact (m_fx_trans hi5_5 f111))⟩)
        refine w_adv (n := 2) (F' := (8, [(0, .ref 43), (1, .int (Int32.ofInt (y5_1)))], [.int (Int32.ofInt (43)), .ref 43], M_5)) rfl ?_
        refine w_call (cm := 230) (as := [(0, .ref 43), (1, .int (Int32.ofInt (43)))]) (rest := []) (o := some (9, 43)) rfl (w_fitR hR_5 rfl) (m_isSign (43) hR_5 ⟨by omega, by omega⟩ (show 0 ≤ (I_5 2774) ∧ (I_5 2774) < 1501 by omega)) (fun r183 M184 q185 => ?_)
        rcases q185 with ⟨e186, e187, f188⟩ | ⟨e189, e190, f191⟩
        · rw [e186, e187]
          replace f188 : (A_5 45) ((I_5 2774)) = 6 ∧ (A_5 46) ((I_5 2774)) = 43 := f188
          obtain ⟨n192, n193⟩ := id f188
          clear f188
          have w194 : (I_5 2774) + 1 < (I_5 2754) := m_TK_lt hi5_1 (show (I_5 2774) < (I_5 2754) by omega) (show 1 ≤ (A_5 45) ((I_5 2774)) by omega) (show (A_5 45) ((I_5 2774)) ≤ 6 by omega)
          show w_W _ _ _ (11, [(0, .ref 43), (1, .int (Int32.ofInt (y5_1)))], [.int (Int32.ofInt (1))], M_5) _
          refine w_adv (n := 3) (F' := (26, [(0, .ref 43), (1, .int (Int32.ofInt (y5_1)))], [.int (Int32.ofInt (43)), .ref 43], M_5)) rfl ?_
          refine w_call (cm := 230) (as := [(0, .ref 43), (1, .int (Int32.ofInt (43)))]) (rest := []) (o := some (9, 43)) rfl (w_fitR hR_5 rfl) (m_isSign (43) hR_5 ⟨by omega, by omega⟩ (show 0 ≤ (I_5 2774) ∧ (I_5 2774) < 1501 by omega)) (fun r195 M196 q197 => ?_)
          rcases q197 with ⟨e198, e199, f200⟩ | ⟨e201, e202, f203⟩
          · rw [e198, e199]
            replace f200 : (A_5 45) ((I_5 2774)) = 6 ∧ (A_5 46) ((I_5 2774)) = 43 := f200
            obtain ⟨n204, n205⟩ := id f200
            clear f200
            have w206 : (I_5 2774) + 1 < (I_5 2754) := m_TK_lt hi5_1 (show (I_5 2774) < (I_5 2754) by omega) (show 1 ≤ (A_5 45) ((I_5 2774)) by omega) (show (A_5 45) ((I_5 2774)) ≤ 6 by omega)
            show w_W _ _ _ (29, [(0, .ref 43), (1, .int (Int32.ofInt (y5_1)))], [.int (Int32.ofInt (1))], M_5) _
            refine w_adv (n := 3) (F' := (37, [(0, .ref 43), (1, .int (Int32.ofInt (y5_1)))], [.int (Int32.ofInt (0))], M_5)) rfl ?_
            exact jn37 (0) ⟨by omega, by omega⟩ (show 0 ≤ 0 ∧ 0 ≤ 4 ∧ (I_5 2774) + 1 < (I_5 2754) by first | assumption | omega)
          · rw [e201, e202]
            replace f203 : ¬ ((A_5 45) ((I_5 2774)) = 6 ∧ (A_5 46) ((I_5 2774)) = 43) := f203
            exfalso; omega
        · rw [e189, e190]
          replace f191 : ¬ ((A_5 45) ((I_5 2774)) = 6 ∧ (A_5 46) ((I_5 2774)) = 43) := f191
          show w_W _ _ _ (11, [(0, .ref 43), (1, .int (Int32.ofInt (y5_1)))], [.int (Int32.ofInt (0))], M_5) _
          refine w_adv (n := 3) (F' := (17, [(0, .ref 43), (1, .int (Int32.ofInt (y5_1)))], [.int (Int32.ofInt (45)), .ref 43], M_5)) rfl ?_
          refine w_call (cm := 230) (as := [(0, .ref 43), (1, .int (Int32.ofInt (45)))]) (rest := []) (o := some (9, 43)) rfl (w_fitR hR_5 rfl) (m_isSign (45) hR_5 ⟨by omega, by omega⟩ (show 0 ≤ (I_5 2774) ∧ (I_5 2774) < 1501 by omega)) (fun r207 M208 q209 => ?_)
          rcases q209 with ⟨e210, e211, f212⟩ | ⟨e213, e214, f215⟩
          · rw [e210, e211]
            replace f212 : (A_5 45) ((I_5 2774)) = 6 ∧ (A_5 46) ((I_5 2774)) = 45 := f212
            obtain ⟨n216, n217⟩ := id f212
            clear f212
            have w218 : (I_5 2774) + 1 < (I_5 2754) := m_TK_lt hi5_1 (show (I_5 2774) < (I_5 2754) by omega) (show 1 ≤ (A_5 45) ((I_5 2774)) by omega) (show (A_5 45) ((I_5 2774)) ≤ 6 by omega)
            show w_W _ _ _ (20, [(0, .ref 43), (1, .int (Int32.ofInt (y5_1)))], [.int (Int32.ofInt (1))], M_5) _
            refine w_adv (n := 3) (F' := (26, [(0, .ref 43), (1, .int (Int32.ofInt (y5_1)))], [.int (Int32.ofInt (43)), .ref 43], M_5)) rfl ?_
            refine w_call (cm := 230) (as := [(0, .ref 43), (1, .int (Int32.ofInt (43)))]) (rest := []) (o := some (9, 43)) rfl (w_fitR hR_5 rfl) (m_isSign (43) hR_5 ⟨by omega, by omega⟩ (show 0 ≤ (I_5 2774) ∧ (I_5 2774) < 1501 by omega)) (fun r219 M220 q221 => ?_)
            rcases q221 with ⟨e222, e223, f224⟩ | ⟨e225, e226, f227⟩
            · rw [e222, e223]
              replace f224 : (A_5 45) ((I_5 2774)) = 6 ∧ (A_5 46) ((I_5 2774)) = 43 := f224
              obtain ⟨n228, n229⟩ := id f224
              clear f224
              exfalso; omega
            · rw [e225, e226]
              replace f227 : ¬ ((A_5 45) ((I_5 2774)) = 6 ∧ (A_5 46) ((I_5 2774)) = 43) := f227
              show w_W _ _ _ (29, [(0, .ref 43), (1, .int (Int32.ofInt (y5_1)))], [.int (Int32.ofInt (0))], M_5) _
              refine w_adv (n := 2) (F' := (37, [(0, .ref 43), (1, .int (Int32.ofInt (y5_1)))], [.int (Int32.ofInt (1))], M_5)) rfl ?_
              exact jn37 (1) ⟨by omega, by omega⟩ (show 0 ≤ 1 ∧ 1 ≤ 4 ∧ (I_5 2774) + 1 < (I_5 2754) by first | assumption | omega)
          · rw [e213, e214]
            replace f215 : ¬ ((A_5 45) ((I_5 2774)) = 6 ∧ (A_5 46) ((I_5 2774)) = 45) := f215
            show w_W _ _ _ (20, [(0, .ref 43), (1, .int (Int32.ofInt (y5_1)))], [.int (Int32.ofInt (0))], M_5) _
            refine w_adv (n := 2) (F' := (65, [(0, .ref 43), (1, .int (Int32.ofInt (y5_1)))], [.int (Int32.ofInt (y5_1))], M_5)) rfl ?_
            refine w_fin (r := .inl (some (y5_1))) (M' := M_5) rfl ?_
            exact Or.inl ⟨y5_1, lo_5, I_5, A_5, B_5, C_5, rfl, ⟨by omega, by omega⟩, hR_5, (show m_fx I A I_5 A_5 by exact hi5_5), (show ((0 ≤ (I_5 2774) ∧ (I_5 2774) < (I_5 2754) ∧ (I_5 2754) ≤ 1501 ∧ 0 ≤ (I_5 2775) ∧ (I_5 2775) ≤ 24) ∧ ((I_5 3393) = (I_5 3905) ∧ (I_5 3521) = (I_5 3905) ∧ (I_5 3649) = (I_5 3905) ∧ (I_5 3777) = (I_5 3905) ∧ 0 ≤ (I_5 3905) ∧ (I_5 3905) ≤ 3 * (I_5 2774)) ∧ ((I_5 4161) = (I_5 4033) ∧ 7 ≤ (I_5 4289) ∧ (I_5 4289) ≤ (I_5 4033) ∧ (I_5 4033) ≤ 7 + (I_5 2774)) ∧ 0 ≤ (I_5 5889) ∧ (I_5 5889) ≤ (I_5 2774)) ∧ ((I_5 2754) = (I 2754) ∧ (I 2774) + 1 ≤ (I_5 2774) ∧ (I_5 2775) = (I 2775) ∧ (I_5 4289) = (I 4289) + 0 ∧ (I_5 5889) = (I 5889)) ∧ ((I_5 3905) + 2 ≤ (I 3905) + 3 * ((I_5 2774) - (I 2774)) ∧ (I 3905) ≤ y5_1 ∧ y5_1 + 1 = (I_5 3905) ∧ (I 4033) ≤ (I_5 4033) ∧ (I_5 4033) ≤ (I 4033) + ((I_5 2774) - (I 2774))) by (repeat' apply And.intro) <;> first | assumption | omega), (show m_SC I_5 A_5 by exact hi5_2), (show m_TR lo_5 I_5 A_5 by exact hi5_3), (show m_ST lo I A lo_5 I_5 A_5 by exact hi5_4), (show t_E ((A_5 53) (y5_1)) by exact (hi5_6).2), (show m_rt lo_5 (I_5 3905) y5_1 by exact (fun q h1 h2 => by omega)), (show m_RK lo_5 (I 3905) (I_5 3905) (8 * (24 - (I 2775)) + 3) by exact m_RK_le (show m_RK lo_5 (I 3905) (I_5 3905) (8 * (24 - (I 2775)) + (3)) from hi5_7) (show (8 * (24 - (I 2775)) + (3)) ≤ 8 * (24 - (I 2775)) + 3 by omega))⟩
    refine w_ls (ls := [(0, .ref 43), (1, .int (Int32.ofInt (v4)))]) (show List.Nodup [0, 1] by decide) (show List.Nodup [1, 0] by decide) (List.forall_mem_cons.mpr ⟨(List.Mem.tail _ (List.Mem.head _)), (List.forall_mem_cons.mpr ⟨(List.Mem.head _), (fun _ h => by cases h)⟩)⟩) ?_
    exact lp5 (((I3a 2754) - (I3a 2774)).toNat + 1) lo5 (v4) I3a A3a B3a C3a M2 hR3a ⟨by omega, by omega⟩ (show ((0 ≤ (I3a 2774) ∧ (I3a 2774) < (I3a 2754) ∧ (I3a 2754) ≤ 1501 ∧ 0 ≤ (I3a 2775) ∧ (I3a 2775) ≤ 24) ∧ ((I3a 3393) = (I3a 3905) ∧ (I3a 3521) = (I3a 3905) ∧ (I3a 3649) = (I3a 3905) ∧ (I3a 3777) = (I3a 3905) ∧ 0 ≤ (I3a 3905) ∧ (I3a 3905) ≤ 3 * (I3a 2774)) ∧ ((I3a 4161) = (I3a 4033) ∧ 7 ≤ (I3a 4289) ∧ (I3a 4289) ≤ (I3a 4033) ∧ (I3a 4033) ≤ 7 + (I3a 2774)) ∧ 0 ≤ (I3a 5889) ∧ (I3a 5889) ≤ (I3a 2774)) ∧ ((I3a 2754) = (I 2754) ∧ (I 2774) + 1 ≤ (I3a 2774) ∧ (I3a 2775) = (I 2775) ∧ (I3a 4289) = (I 4289) + 0 ∧ (I3a 5889) = (I 5889)) ∧ ((I3a 3905) + 2 ≤ (I 3905) + 3 * ((I3a 2774) - (I 2774)) ∧ (I 3905) ≤ v4 ∧ v4 + 1 = (I3a 3905) ∧ (I 4033) ≤ (I3a 4033) ∧ (I3a 4033) ≤ (I 4033) + ((I3a 2774) - (I 2774))) by (repeat' apply And.intro) <;> first | assumption | omega) (show m_TK I3a A3a by exact tk46) (show m_SC I3a A3a by exact f11) (show m_TR lo5 I3a A3a by exact f12) (show m_ST lo I A lo5 I3a A3a by exact s50) (show m_fx I A I3a A3a by exact f9) (show m_kd lo5 I3a A3a (I 3905) (8 * (24 - (I 2775)) + (3)) v4 t_E by exact m_kd_l k52 (by omega) (by omega) (by omega)) (show m_RK lo5 (I 3905) (I3a 3905) (8 * (24 - (I 2775)) + (3)) by exact m_RK_le (show m_RK lo5 (I 3905) (I3a 3905) (8 * (24 - (I 2775)) + (2)) from rk51) (show (8 * (24 - (I 2775)) + (2)) ≤ (8 * (24 - (I 2775)) + (3)) by omega)) (show (fun k => k = 9 ∨ k = 10) ((A3a 53) (v4)) ∨ (lo5 v4).2 < (8 * (24 - (I 2775)) + (3)) by exact Or.inr (by have q := k52.1; omega)) (show (I3a 2754) - (I3a 2774) < ((((I3a 2754) - (I3a 2774)).toNat + 1 : Nat) : Int) by omega)
  · rw [e17]
    replace hR3b : w_Rep w_TM fr X u l I3b A3b B3b C3b M2 := hR3b
    replace f18 : m_fx I A I3b A3b := f18
    exact Or.inr (⟨I3b, A3b, B3b, C3b, rfl, hR3b, (show m_fx I A I3b A3b by exact f18)⟩)
