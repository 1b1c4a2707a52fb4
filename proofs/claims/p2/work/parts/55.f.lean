def m_part_Q (fr : Nat → Bool) (X : Nat → Option (q_C (Nat → Int32))) (u l : Nat) (I : Nat → Int) (A : Nat → Int → Int) (B C : Nat → Nat) (M : w_M) (lo : Int → Int × Int) : w_X → w_M → Prop := fun r M' => (∃ v : Int, ∃ lo' : Int → Int × Int, ∃ (I' : Nat → Int) (A' : Nat → Int → Int) (B' C' : Nat → Nat), (r = .inl (some v)) ∧ (w_in v) ∧ (w_Rep w_TM fr X u l I' A' B' C' M') ∧ (m_fx I A I' A') ∧ (((0 ≤ (I' 2774) ∧ (I' 2774) < (I' 2754) ∧ (I' 2754) ≤ 1501 ∧ 0 ≤ (I' 2775) ∧ (I' 2775) ≤ 24) ∧ ((I' 3393) = (I' 3905) ∧ (I' 3521) = (I' 3905) ∧ (I' 3649) = (I' 3905) ∧ (I' 3777) = (I' 3905) ∧ 0 ≤ (I' 3905) ∧ (I' 3905) ≤ 3 * (I' 2774)) ∧ ((I' 4161) = (I' 4033) ∧ 7 ≤ (I' 4289) ∧ (I' 4289) ≤ (I' 4033) ∧ (I' 4033) ≤ 7 + (I' 2774)) ∧ 0 ≤ (I' 5889) ∧ (I' 5889) ≤ (I' 2774)) ∧ ((I' 2754) = (I 2754) ∧ (I 2774) + 1 ≤ (I' 2774) ∧ (I' 2775) = (I 2775) ∧ (I' 4289) = (I 4289) + 0 ∧ (I' 5889) = (I 5889)) ∧ ((I' 3905) + 2 ≤ (I 3905) + 3 * ((I' 2774) - (I 2774)) ∧ (I 3905) ≤ v ∧ v + 1 = (I' 3905) ∧ (I 4033) ≤ (I' 4033) ∧ (I' 4033) ≤ (I 4033) + ((I' 2774) - (I 2774)))) ∧ (m_SC I' A') ∧ (m_TR lo' I' A') ∧ (m_ST lo I A lo' I' A') ∧ (t_E ((A' 53) (v))) ∧ (m_rt lo' (I' 3905) v) ∧ (m_RK lo' (I 3905) (I' 3905) (8 * (24 - (I 2775)) + 1))) ∨ (∃ (I' : Nat → Int) (A' : Nat → Int → Int) (B' C' : Nat → Nat), (r = .inr 69) ∧ (w_Rep w_TM fr X u l I' A' B' C' M') ∧ (m_fx I A I' A'))
set_option maxHeartbeats 100000000 in
set_option maxRecDepth 100000 in
theorem m_part {L : Nat} {xs : Nat → Int32} {d : Nat} {fr : Nat → Bool} {X : Nat → Option (q_C (Nat → Int32))} {u l : Nat} {I : Nat → Int} {A : Nat → Int → Int} {B C : Nat → Nat} {M : w_M} {N : Int} (hA : m_all L xs N) (lo : Int → Int × Int) (hR : w_Rep w_TM fr X u l I A B C M) (hd : 20 * (24 - (I 2775)) + 13 ≤ (d : Int)) (hTK : m_TK I A) (hNU : (0 ≤ (I 2774) ∧ (I 2774) < (I 2754) ∧ (I 2754) ≤ 1501 ∧ 0 ≤ (I 2775) ∧ (I 2775) ≤ 24) ∧ ((I 3393) = (I 3905) ∧ (I 3521) = (I 3905) ∧ (I 3649) = (I 3905) ∧ (I 3777) = (I 3905) ∧ 0 ≤ (I 3905) ∧ (I 3905) ≤ 3 * (I 2774)) ∧ ((I 4161) = (I 4033) ∧ 7 ≤ (I 4289) ∧ (I 4289) ≤ (I 4033) ∧ (I 4033) ≤ 7 + (I 2774)) ∧ 0 ≤ (I 5889) ∧ (I 5889) ≤ (I 2774)) (hSC : m_SC I A) (hTR : m_TR lo I A) (hm : (I 2754) - (I 2774) ≤ N) : w_W (z_P L xs) d 249 (0, [(0, .ref 43)], [], M) (m_part_Q fr X u l I A B C M lo) := by
  obtain ⟨d, rfl⟩ : ∃ d0, d = d0 + 1 := ⟨d - 1, by omega⟩
  refine w_adv (n := 1) (F' := (1, [(0, .ref 43)], [.ref 43], M)) rfl ?_
  refine w_call (cm := 250) (as := [(0, .ref 43)]) (rest := []) (o := some (9, 43)) rfl (w_fitR hR rfl) (m_atomic hA (lo) hR (show 20 * (24 - (I 2775)) + 12 ≤ (d : Int) by omega) (show m_TK I A by exact hTK) (show (0 ≤ (I 2774) ∧ (I 2774) < (I 2754) ∧ (I 2754) ≤ 1501 ∧ 0 ≤ (I 2775) ∧ (I 2775) ≤ 24) ∧ ((I 3393) = (I 3905) ∧ (I 3521) = (I 3905) ∧ (I 3649) = (I 3905) ∧ (I 3777) = (I 3905) ∧ 0 ≤ (I 3905) ∧ (I 3905) ≤ 3 * (I 2774)) ∧ ((I 4161) = (I 4033) ∧ 7 ≤ (I 4289) ∧ (I 4289) ≤ (I 4033) ∧ (I 4033) ≤ 7 + (I 2774)) ∧ 0 ≤ (I 5889) ∧ (I 5889) ≤ (I 2774) by (repeat' apply And.intro) <;> first | assumption | omega) (show m_SC I A by exact hSC) (show m_TR lo I A by exact hTR) (show (I 2754) - (I 2774) ≤ N by first | assumption | omega)) (fun r1 M2 q3 => ?_)
  rcases q3 with ⟨v4, lo5, I3a, A3a, B3a, C3a, e6, ⟨r7, r8⟩, hR3a, f9, f10, f11, f12, f13, f14, f15, f16⟩ | ⟨I3b, A3b, B3b, C3b, e17, hR3b, f18⟩
  · rw [e6]
    replace hR3a : w_Rep w_TM fr X u l I3a A3a B3a C3a M2 := hR3a
    replace f9 : m_fx I A I3a A3a := f9
    replace f10 : ((0 ≤ (I3a 2774) ∧ (I3a 2774) < (I3a 2754) ∧ (I3a 2754) ≤ 1501 ∧ 0 ≤ (I3a 2775) ∧ (I3a 2775) ≤ 24) ∧ ((I3a 3393) = (I3a 3905) ∧ (I3a 3521) = (I3a 3905) ∧ (I3a 3649) = (I3a 3905) ∧ (I3a 3777) = (I3a 3905) ∧ 0 ≤ (I3a 3905) ∧ (I3a 3905) ≤ 3 * (I3a 2774)) ∧ ((I3a 4161) = (I3a 4033) ∧ 7 ≤ (I3a 4289) ∧ (I3a 4289) ≤ (I3a 4033) ∧ (I3a 4033) ≤ 7 + (I3a 2774)) ∧ 0 ≤ (I3a 5889) ∧ (I3a 5889) ≤ (I3a 2774)) ∧ ((I3a 2754) = (I 2754) ∧ (I 2774) + 1 ≤ (I3a 2774) ∧ (I3a 2775) = (I 2775) ∧ (I3a 4289) = (I 4289) + 0 ∧ (I3a 5889) = (I 5889)) ∧ ((I3a 3905) + 2 ≤ (I 3905) + 3 * ((I3a 2774) - (I 2774)) ∧ (I 3905) ≤ v4 ∧ v4 + 1 = (I3a 3905) ∧ (I 4033) ≤ (I3a 4033) ∧ (I3a 4033) ≤ (I 4033) + ((I3a 2774) - (I 2774))) := f10
    obtain ⟨⟨⟨n19, n20, n21, n22, n23⟩, ⟨n24, n25, n26, n27, n28, n29⟩, ⟨n30, n31, n32, n33⟩, n34, n35⟩, ⟨n36, n37, n38, n39, n40⟩, ⟨n41, n42, n43, n44, n45⟩⟩ := id f10
    clear f10
    replace f11 : m_SC I3a A3a := f11
    replace f12 : m_TR lo5 I3a A3a := f12
    replace f13 : m_ST lo I A lo5 I3a A3a := f13
    replace f14 : t_E ((A3a 53) (v4)) := f14
    replace f15 : m_rt lo5 (I3a 3905) v4 := f15
    replace f16 : m_RK lo5 (I 3905) (I3a 3905) (8 * (24 - (I 2775)) + 0) := f16
    have tk46 : m_TK I3a A3a := m_TK_fx f9 hTK
    have nn47 : (I 3905) ≤ (I3a 3905) := by omega
    have nz48 : 0 ≤ (I 3905) := by first | assumption | omega
    have ho49 : (I 2775) = (I 2775) + (0) := by omega
    have rk51 : m_RK lo5 (I 3905) (I3a 3905) (8 * (24 - (I 2775)) + (0)) := m_RK_app (I := I) (I' := I3a) (R := (8 * (24 - (I 2775)) + (0))) (show m_RK lo (I 3905) (I 3905) (8 * (24 - (I 2775)) + (0)) from fun q q1 q2 => by omega) f13 f16 (show 0 ≤ (I 3905) by first | assumption | omega) (m_r8 (by decide)) (m_r8o (k := 0) ho49 (by decide))
    have s50 : m_ST lo I A lo5 I3a A3a := f13
    have k52 : m_kd lo5 I3a A3a (I 3905) (8 * (24 - (I 2775)) + 0) v4 t_E := m_kd_of f13 f12 nz48 (show (I 3905) ≤ v4 by first | assumption | omega) (show v4 < (I3a 3905) by omega) f14 f16
    obtain ⟨j53, j54, j55, j56, j57⟩ := k52.1
    show w_W _ _ _ (4, [(0, .ref 43)], [.int (Int32.ofInt (v4))], M2) _
    refine w_adv (n := 1) (F' := (5, [(1, .int (Int32.ofInt (v4))), (0, .ref 43)], [], M2)) rfl ?_
    have lp5 : ∀ fu : Nat, ∀ (lo_5 : Int → Int × Int) (y5_1 : Int) (I_5 : Nat → Int) (A_5 : Nat → Int → Int) (B_5 C_5 : Nat → Nat) (M_5 : w_M) (hR_5 : w_Rep w_TM fr X u l I_5 A_5 B_5 C_5 M_5), w_in y5_1 → ((0 ≤ (I_5 2774) ∧ (I_5 2774) < (I_5 2754) ∧ (I_5 2754) ≤ 1501 ∧ 0 ≤ (I_5 2775) ∧ (I_5 2775) ≤ 24) ∧ ((I_5 3393) = (I_5 3905) ∧ (I_5 3521) = (I_5 3905) ∧ (I_5 3649) = (I_5 3905) ∧ (I_5 3777) = (I_5 3905) ∧ 0 ≤ (I_5 3905) ∧ (I_5 3905) ≤ 3 * (I_5 2774)) ∧ ((I_5 4161) = (I_5 4033) ∧ 7 ≤ (I_5 4289) ∧ (I_5 4289) ≤ (I_5 4033) ∧ (I_5 4033) ≤ 7 + (I_5 2774)) ∧ 0 ≤ (I_5 5889) ∧ (I_5 5889) ≤ (I_5 2774)) ∧ ((I_5 2754) = (I 2754) ∧ (I 2774) + 1 ≤ (I_5 2774) ∧ (I_5 2775) = (I 2775) ∧ (I_5 4289) = (I 4289) + 0 ∧ (I_5 5889) = (I 5889)) ∧ ((I_5 3905) + 2 ≤ (I 3905) + 3 * ((I_5 2774) - (I 2774)) ∧ (I 3905) ≤ y5_1 ∧ y5_1 + 1 = (I_5 3905) ∧ (I 4033) ≤ (I_5 4033) ∧ (I_5 4033) ≤ (I 4033) + ((I_5 2774) - (I 2774))) → m_TK I_5 A_5 → m_SC I_5 A_5 → m_TR lo_5 I_5 A_5 → m_ST lo I A lo_5 I_5 A_5 → m_fx I A I_5 A_5 → m_kd lo_5 I_5 A_5 (I 3905) (8 * (24 - (I 2775)) + (1)) y5_1 t_E → m_RK lo_5 (I 3905) (I_5 3905) (8 * (24 - (I 2775)) + (1)) → (fun k => k = 9 ∨ k = 10) ((A_5 53) (y5_1)) ∨ (lo_5 y5_1).2 < (8 * (24 - (I 2775)) + (1)) → (I_5 2754) - (I_5 2774) < (fu : Int) → w_W (z_P L xs) (d + 1) 249 (5, [(0, .ref 43), (1, .int (Int32.ofInt (y5_1)))], [], M_5) (m_part_Q fr X u l I A B C M lo) := by
      intro fu
      induction fu with
      | zero =>
        intro lo_5 y5_1 I_5 A_5 B_5 C_5 M_5 hR_5 ⟨ra_y5_1, rb_y5_1⟩ hi5_0 hi5_1 hi5_2 hi5_3 hi5_4 hi5_5 hi5_6 hi5_7 hi5_8 hn5
        exfalso
        omega
      | succ fu ih5 =>
        intro lo_5 y5_1 I_5 A_5 B_5 C_5 M_5 hR_5 ⟨ra_y5_1, rb_y5_1⟩ hi5_0 hi5_1 hi5_2 hi5_3 hi5_4 hi5_5 hi5_6 hi5_7 hi5_8 hn5
        obtain ⟨⟨⟨n58, n59, n60, n61, n62⟩, ⟨n63, n64, n65, n66, n67, n68⟩, ⟨n69, n70, n71, n72⟩, n73, n74⟩, ⟨n75, n76, n77, n78, n79⟩, ⟨n80, n81, n82, n83, n84⟩⟩ := hi5_0
        obtain ⟨j85, j86, j87, j88, j89⟩ := hi5_6.1
        refine w_adv (n := 2) (F' := (8, [(0, .ref 43), (1, .int (Int32.ofInt (y5_1)))], [.int (Int32.ofInt (46)), .ref 43], M_5)) rfl ?_
        refine w_call (cm := 230) (as := [(0, .ref 43), (1, .int (Int32.ofInt (46)))]) (rest := []) (o := some (9, 43)) rfl (w_fitR hR_5 rfl) (m_isSign (46) hR_5 ⟨by omega, by omega⟩ (show 0 ≤ (I_5 2774) ∧ (I_5 2774) < 1501 by omega)) (fun r90 M91 q92 => ?_)
        rcases q92 with ⟨e93, e94, f95⟩ | ⟨e96, e97, f98⟩
        · rw [e93, e94]
          replace f95 : (A_5 45) ((I_5 2774)) = 6 ∧ (A_5 46) ((I_5 2774)) = 46 := f95
          obtain ⟨n99, n100⟩ := id f95
          clear f95
          have w101 : (I_5 2774) + 1 < (I_5 2754) := m_TK_lt hi5_1 (by omega) (by omega) (by omega)
          show w_W _ _ _ (11, [(0, .ref 43), (1, .int (Int32.ofInt (y5_1)))], [.int (Int32.ofInt (1))], M_5) _
          refine w_adv (n := 3) (F' := (16, [(0, .ref 43), (1, .int (Int32.ofInt (y5_1)))], [.ref 43, .ref 43], M_5)) rfl ?_
          refine w_gf (v := .int (Int32.ofInt ((I_5 2774)))) hR_5 rfl rfl rfl rfl ?_
          obtain ⟨r102, r103⟩ : -2147483648 ≤ (I_5 2774) ∧ (I_5 2774) ≤ 2147483647 := hR_5.ri 2774
          refine w_adv (n := 1) (F' := (20, [(0, .ref 43), (1, .int (Int32.ofInt (y5_1)))], [.int (Int32.ofInt (1)), .int (Int32.ofInt ((I_5 2774))), .ref 43], M_5)) rfl ?_
          refine w_add rfl ?_
          refine w_pf hR_5 rfl rfl rfl rfl (show w_in ((I_5 2774) + 1) from ⟨by omega, by omega⟩) (fun h => absurd h (by decide)) (fun M104 hR105 => ?_)
          replace hR105 : w_Rep w_TM fr X u l (w_up I_5 2774 ((I_5 2774) + 1)) A_5 B_5 C_5 M104 := hR105
          refine w_adv (n := 4) (F' := (29, [(0, .ref 43), (1, .int (Int32.ofInt (y5_1)))], [.ref 43, .int (Int32.ofInt (y5_1)), .int (Int32.ofInt (10)), .ref 43], M104)) rfl ?_
          refine w_call (cm := 273) (as := [(0, .ref 43)]) (rest := [.int (Int32.ofInt (y5_1)), .int (Int32.ofInt (10)), .ref 43]) (o := some (9, 43)) rfl (w_fitR hR105 rfl) (m_feature hR105 (show 4 ≤ d by omega) (show m_TK (w_up I_5 2774 ((I_5 2774) + 1)) A_5 by exact hi5_1) (show (0 ≤ (I_5 2774) + 1 ∧ (I_5 2774) + 1 < (I_5 2754) ∧ (I_5 2754) ≤ 1501 ∧ 0 ≤ (I_5 2775) ∧ (I_5 2775) ≤ 24) ∧ ((I_5 3393) = (I_5 3905) ∧ (I_5 3521) = (I_5 3905) ∧ (I_5 3649) = (I_5 3905) ∧ (I_5 3777) = (I_5 3905) ∧ 0 ≤ (I_5 3905) ∧ (I_5 3905) ≤ 3 * ((I_5 2774) + 1)) ∧ ((I_5 4161) = (I_5 4033) ∧ 7 ≤ (I_5 4289) ∧ (I_5 4289) ≤ (I_5 4033) ∧ (I_5 4033) ≤ 7 + ((I_5 2774) + 1)) ∧ 0 ≤ (I_5 5889) ∧ (I_5 5889) ≤ (I_5 2774) + 1 by (repeat' apply And.intro) <;> first | assumption | omega)) (fun r106 M107 q108 => ?_)
          rcases q108 with ⟨v109, e110, ⟨r111, r112⟩, hR108a, f113⟩ | ⟨I108b, A108b, B108b, C108b, e114, hR108b, f115⟩
          · rw [e110]
            replace hR108a : w_Rep w_TM fr X u l (w_up I_5 2774 ((I_5 2774) + 1 + 1)) A_5 B_5 C_5 M107 := w_Rep.up hR108a (show (w_up I_5 2774 ((I_5 2774) + 1 + 1)) = _ from (funext fun s => if e0 : s = 2774 then (by subst e0; rfl) else (by simp only [w_up_ne e0]))) rfl
            replace f113 : ((I_5 2774) + 1) + 1 < (I_5 2754) := f113
            show w_W _ _ _ (32, [(0, .ref 43), (1, .int (Int32.ofInt (y5_1)))], [.int (Int32.ofInt (v109)), .int (Int32.ofInt (y5_1)), .int (Int32.ofInt (10)), .ref 43], M107) _
            refine w_adv (n := 1) (F' := (33, [(0, .ref 43), (1, .int (Int32.ofInt (y5_1)))], [.int (Int32.ofInt (0)), .int (Int32.ofInt (v109)), .int (Int32.ofInt (y5_1)), .int (Int32.ofInt (10)), .ref 43], M107)) rfl ?_
            refine w_call (cm := 239) (as := [(0, .ref 43), (1, .int (Int32.ofInt (10))), (2, .int (Int32.ofInt (y5_1))), (3, .int (Int32.ofInt (v109))), (4, .int (Int32.ofInt (0)))]) (rest := []) (o := some (9, 43)) rfl (w_fitR hR108a rfl) (m_node (10) (y5_1) (v109) (0) hR108a (show 2 ≤ d by omega) ⟨by omega, by omega⟩ ⟨by omega, by omega⟩ ⟨by omega, by omega⟩ ⟨by omega, by omega⟩ (show (I_5 3393) = (I_5 3905) by first | assumption | omega) (show (I_5 3521) = (I_5 3905) by first | assumption | omega) (show (I_5 3649) = (I_5 3905) by first | assumption | omega) (show (I_5 3777) = (I_5 3905) by first | assumption | omega) (show (I_5 3905) < 65536 by first | assumption | omega)) (fun r116 M117 q118 => ?_)
            rcases q118 with ⟨v119, I118a, A118a, B118a, C118a, e120, ⟨r121, r122⟩, hR118a, f123, f124⟩
            rw [e120]
            replace hR118a : w_Rep w_TM fr X u l I118a A118a B118a C118a M117 := hR118a
            replace f123 : m_fx (w_up I_5 2774 ((I_5 2774) + 1 + 1)) A_5 I118a A118a := f123
            replace f124 : m_nd (w_up I_5 2774 ((I_5 2774) + 1 + 1)) A_5 I118a A118a v119 10 y5_1 v109 0 := f124
            obtain ⟨⟨n125, n126, n127, n128, n129, n130⟩, ⟨n131, n132, n133, n134, n135, n136, n137⟩⟩ : (v119 = (I_5 3905) ∧ (I118a 3905) = (I_5 3905) + 1 ∧ (I118a 3393) = (I_5 3393) + 1 ∧ (I118a 3521) = (I_5 3521) + 1 ∧ (I118a 3649) = (I_5 3649) + 1 ∧ (I118a 3777) = (I_5 3777) + 1) ∧ ((I118a 2774) = (I_5 2774) + 1 + 1 ∧ (I118a 2754) = (I_5 2754) ∧ (I118a 2775) = (I_5 2775) ∧ (I118a 4289) = (I_5 4289) ∧ (I118a 4033) = (I_5 4033) ∧ (I118a 4161) = (I_5 4161) ∧ (I118a 5889) = (I_5 5889)) := m_nd_num f124
            have tk138 : m_TK I118a A118a := m_TK_fx f123 hi5_1
            have sc139 : m_SC I118a A118a := m_SC_nd f124 hi5_2
            have tr140 : m_TR (t_up lo_5 v119 (I 3905) (8 * (24 - (I 2775)) + (1))) I118a A118a := m_TR_nd (show m_TR lo_5 (w_up I_5 2774 ((I_5 2774) + 1 + 1)) A_5 from hi5_3) f124 (show 0 ≤ (I 3905) by omega) (show (I 3905) ≤ v119 by omega) (m_cl_ST (show m_ST lo I A lo_5 (w_up I_5 2774 ((I_5 2774) + 1 + 1)) A_5 from hi5_4) hTR (show 0 ≤ (I 3905) by omega)) (t_N_mk10 t_up_same (show 0 ≤ (I 3905) by omega) (show (I 3905) ≤ v119 by omega) (show 0 ≤ (8 * (24 - (I 2775)) + (1)) by omega) (m_hw2 (show m_RK lo_5 (I 3905) v119 (8 * (24 - (I 2775)) + (1)) from fun q q1 q2 => (show m_RK lo_5 (I 3905) (I_5 3905) (8 * (24 - (I 2775)) + (1)) from hi5_7) q (show (I 3905) ≤ q by omega) (show q < (I_5 3905) by omega)) (m_r8 (by decide))) ⟨m_ch f124 (show (I 3905) ≤ (I 3905) by omega) (show m_kd lo_5 (w_up I_5 2774 ((I_5 2774) + 1 + 1)) A_5 (I 3905) (8 * (24 - (I 2775)) + (1)) y5_1 t_E from hi5_6), (m_ork2 (p := (fun k => k = 9 ∨ k = 10)) f124 (show m_kd lo_5 (w_up I_5 2774 ((I_5 2774) + 1 + 1)) A_5 (I 3905) (8 * (24 - (I 2775)) + (1)) y5_1 t_E from hi5_6) hi5_8)⟩)
            have s141 : m_ST lo I A (t_up lo_5 v119 (I 3905) (8 * (24 - (I 2775)) + (1))) I118a A118a := m_ST_nd (l := (I 3905)) (show m_ST lo I A lo_5 (w_up I_5 2774 ((I_5 2774) + 1 + 1)) A_5 from hi5_4) f124 (show (I 3905) ≤ (I 3905) by omega) (show (I 3905) ≤ (I_5 3905) by omega)
            have rk142 : m_RK (t_up lo_5 v119 (I 3905) (8 * (24 - (I 2775)) + (1))) (I 3905) (I118a 3905) (8 * (24 - (I 2775)) + (1)) := fun q q1 q2 => m_RK_nd (show m_RK lo_5 (I 3905) v119 (8 * (24 - (I 2775)) + (1)) from fun q q1 q2 => (show m_RK lo_5 (I 3905) (I_5 3905) (8 * (24 - (I 2775)) + (1)) from hi5_7) q q1 (show q < (I_5 3905) by omega)) (m_r8 (by decide)) (m_r8 (by decide)) q q1 (show q < v119 + 1 by omega)
            have k143 : m_kd (t_up lo_5 v119 (I 3905) (8 * (24 - (I 2775)) + (1))) I118a A118a (I 3905) (8 * (24 - (I 2775)) + (1)) v119 (fun k => k = 10) := m_kd_new f124 (show 0 ≤ (I 3905) by omega) (show (I 3905) ≤ v119 by omega) rfl
            have rt144 : m_rt (t_up lo_5 v119 (I 3905) (8 * (24 - (I 2775)) + (1))) (I118a 3905) v119 := m_rt_new f124
            have op145 : (fun k => k = 9 ∨ k = 10) ((A118a 53) (v119)) ∨ ((t_up lo_5 v119 (I 3905) (8 * (24 - (I 2775)) + (1))) v119).2 < (8 * (24 - (I 2775)) + (1)) := Or.inl (by have q1 : (A118a 53) (v119) = 10 := k143.2; omega)
            show w_W _ _ _ (36, [(0, .ref 43), (1, .int (Int32.ofInt (y5_1)))], [.int (Int32.ofInt (v119))], M117) _
            refine w_adv (n := 2) (F' := (5, [(1, .int (Int32.ofInt (v119))), (0, .ref 43)], [], M117)) rfl ?_
            refine w_ls (ls := [(0, .ref 43), (1, .int (Int32.ofInt (v119)))]) (show List.Nodup [0, 1] by decide) (show List.Nodup [1, 0] by decide) (List.forall_mem_cons.mpr ⟨(List.Mem.tail _ (List.Mem.head _)), (List.forall_mem_cons.mpr ⟨(List.Mem.head _), (fun _ h => by cases h)⟩)⟩) ?_
            exact ih5 (t_up lo_5 v119 (I 3905) (8 * (24 - (I 2775)) + (1))) (v119) I118a A118a B118a C118a M117 hR118a ⟨by omega, by omega⟩ (show ((0 ≤ (I118a 2774) ∧ (I118a 2774) < (I118a 2754) ∧ (I118a 2754) ≤ 1501 ∧ 0 ≤ (I118a 2775) ∧ (I118a 2775) ≤ 24) ∧ ((I118a 3393) = (I118a 3905) ∧ (I118a 3521) = (I118a 3905) ∧ (I118a 3649) = (I118a 3905) ∧ (I118a 3777) = (I118a 3905) ∧ 0 ≤ (I118a 3905) ∧ (I118a 3905) ≤ 3 * (I118a 2774)) ∧ ((I118a 4161) = (I118a 4033) ∧ 7 ≤ (I118a 4289) ∧ (I118a 4289) ≤ (I118a 4033) ∧ (I118a 4033) ≤ 7 + (I118a 2774)) ∧ 0 ≤ (I118a 5889) ∧ (I118a 5889) ≤ (I118a 2774)) ∧ ((I118a 2754) = (I 2754) ∧ (I 2774) + 1 ≤ (I118a 2774) ∧ (I118a 2775) = (I 2775) ∧ (I118a 4289) = (I 4289) + 0 ∧ (I118a 5889) = (I 5889)) ∧ ((I118a 3905) + 2 ≤ (I 3905) + 3 * ((I118a 2774) - (I 2774)) ∧ (I 3905) ≤ v119 ∧ v119 + 1 = (I118a 3905) ∧ (I 4033) ≤ (I118a 4033) ∧ (I118a 4033) ≤ (I 4033) + ((I118a 2774) - (I 2774))) by (repeat' apply And.intro) <;> first | assumption | omega) (show m_TK I118a A118a by exact tk138) (show m_SC I118a A118a by exact sc139) (show m_TR (t_up lo_5 v119 (I 3905) (8 * (24 - (I 2775)) + (1))) I118a A118a by exact tr140) (show m_ST lo I A (t_up lo_5 v119 (I 3905) (8 * (24 - (I 2775)) + (1))) I118a A118a by exact s141) (show m_fx I A I118a A118a by exact (m_fx_trans hi5_5 f123)) (show m_kd (t_up lo_5 v119 (I 3905) (8 * (24 - (I 2775)) + (1))) I118a A118a (I 3905) (8 * (24 - (I 2775)) + (1)) v119 t_E by exact m_kd_l (m_kd_K k143 (fun k h => by have h : k = 10 := h; unfold t_E; omega)) (by omega) (by omega) (by omega)) (show m_RK (t_up lo_5 v119 (I 3905) (8 * (24 - (I 2775)) + (1))) (I 3905) (I118a 3905) (8 * (24 - (I 2775)) + (1)) by exact m_RK_le (show m_RK (t_up lo_5 v119 (I 3905) (8 * (24 - (I 2775)) + (1))) (I 3905) (I118a 3905) (8 * (24 - (I 2775)) + (1)) from rk142) (show (8 * (24 - (I 2775)) + (1)) ≤ (8 * (24 - (I 2775)) + (1)) by omega)) (show (fun k => k = 9 ∨ k = 10) ((A118a 53) (v119)) ∨ ((t_up lo_5 v119 (I 3905) (8 * (24 - (I 2775)) + (1))) v119).2 < (8 * (24 - (I 2775)) + (1)) by exact op145) (by omega)
          · rw [e114]
            replace hR108b : w_Rep w_TM fr X u l I108b A108b B108b C108b M107 := hR108b
            replace f115 : m_fx (w_up I_5 2774 ((I_5 2774) + 1)) A_5 I108b A108b := f115
            exact Or.inr (⟨I108b, A108b, B108b, C108b, rfl, hR108b, (show m_fx I A I108b A108b by exact (m_fx_trans hi5_5 f115))⟩)
        · rw [e96, e97]
          replace f98 : ¬ ((A_5 45) ((I_5 2774)) = 6 ∧ (A_5 46) ((I_5 2774)) = 46) := f98
          show w_W _ _ _ (11, [(0, .ref 43), (1, .int (Int32.ofInt (y5_1)))], [.int (Int32.ofInt (0))], M_5) _
          refine w_adv (n := 2) (F' := (41, [(0, .ref 43), (1, .int (Int32.ofInt (y5_1)))], [.int (Int32.ofInt (y5_1))], M_5)) rfl ?_
          refine w_fin (r := .inl (some (y5_1))) (M' := M_5) rfl ?_
          exact Or.inl ⟨y5_1, lo_5, I_5, A_5, B_5, C_5, rfl, ⟨by omega, by omega⟩, hR_5, (show m_fx I A I_5 A_5 by exact hi5_5), (show ((0 ≤ (I_5 2774) ∧ (I_5 2774) < (I_5 2754) ∧ (I_5 2754) ≤ 1501 ∧ 0 ≤ (I_5 2775) ∧ (I_5 2775) ≤ 24) ∧ ((I_5 3393) = (I_5 3905) ∧ (I_5 3521) = (I_5 3905) ∧ (I_5 3649) = (I_5 3905) ∧ (I_5 3777) = (I_5 3905) ∧ 0 ≤ (I_5 3905) ∧ (I_5 3905) ≤ 3 * (I_5 2774)) ∧ ((I_5 4161) = (I_5 4033) ∧ 7 ≤ (I_5 4289) ∧ (I_5 4289) ≤ (I_5 4033) ∧ (I_5 4033) ≤ 7 + (I_5 2774)) ∧ 0 ≤ (I_5 5889) ∧ (I_5 5889) ≤ (I_5 2774)) ∧ ((I_5 2754) = (I 2754) ∧ (I 2774) + 1 ≤ (I_5 2774) ∧ (I_5 2775) = (I 2775) ∧ (I_5 4289) = (I 4289) + 0 ∧ (I_5 5889) = (I 5889)) ∧ ((I_5 3905) + 2 ≤ (I 3905) + 3 * ((I_5 2774) - (I 2774)) ∧ (I 3905) ≤ y5_1 ∧ y5_1 + 1 = (I_5 3905) ∧ (I 4033) ≤ (I_5 4033) ∧ (I_5 4033) ≤ (I 4033) + ((I_5 2774) - (I 2774))) by (repeat' apply And.intro) <;> first | assumption | omega), (show m_SC I_5 A_5 by exact hi5_2), (show m_TR lo_5 I_5 A_5 by exact hi5_3), (show m_ST lo I A lo_5 I_5 A_5 by exact hi5_4), (show t_E ((A_5 53) (y5_1)) by exact (hi5_6).2), (show m_rt lo_5 (I_5 3905) y5_1 by exact (fun q h1 h2 => by omega)), (show m_RK lo_5 (I 3905) (I_5 3905) (8 * (24 - (I 2775)) + 1) by exact m_RK_le (show m_RK lo_5 (I 3905) (I_5 3905) (8 * (24 - (I 2775)) + (1)) from hi5_7) (show (8 * (24 - (I 2775)) + (1)) ≤ 8 * (24 - (I 2775)) + 1 by omega))⟩
    refine w_ls (ls := [(0, .ref 43), (1, .int (Int32.ofInt (v4)))]) (show List.Nodup [0, 1] by decide) (show List.Nodup [1, 0] by decide) (List.forall_mem_cons.mpr ⟨(List.Mem.tail _ (List.Mem.head _)), (List.forall_mem_cons.mpr ⟨(List.Mem.head _), (fun _ h => by cases h)⟩)⟩) ?_
    exact lp5 (((I3a 2754) - (I3a 2774)).toNat + 1) lo5 (v4) I3a A3a B3a C3a M2 hR3a ⟨by omega, by omega⟩ (show ((0 ≤ (I3a 2774) ∧ (I3a 2774) < (I3a 2754) ∧ (I3a 2754) ≤ 1501 ∧ 0 ≤ (I3a 2775) ∧ (I3a 2775) ≤ 24) ∧ ((I3a 3393) = (I3a 3905) ∧ (I3a 3521) = (I3a 3905) ∧ (I3a 3649) = (I3a 3905) ∧ (I3a 3777) = (I3a 3905) ∧ 0 ≤ (I3a 3905) ∧ (I3a 3905) ≤ 3 * (I3a 2774)) ∧ ((I3a 4161) = (I3a 4033) ∧ 7 ≤ (I3a 4289) ∧ (I3a 4289) ≤ (I3a 4033) ∧ (I3a 4033) ≤ 7 + (I3a 2774)) ∧ 0 ≤ (I3a 5889) ∧ (I3a 5889) ≤ (I3a 2774)) ∧ ((I3a 2754) = (I 2754) ∧ (I 2774) + 1 ≤ (I3a 2774) ∧ (I3a 2775) = (I 2775) ∧ (I3a 4289) = (I 4289) + 0 ∧ (I3a 5889) = (I 5889)) ∧ ((I3a 3905) + 2 ≤ (I 3905) + 3 * ((I3a 2774) - (I 2774)) ∧ (I 3905) ≤ v4 ∧ v4 + 1 = (I3a 3905) ∧ (I 4033) ≤ (I3a 4033) ∧ (I3a 4033) ≤ (I 4033) + ((I3a 2774) - (I 2774))) by (repeat' apply And.intro) <;> first | assumption | omega) (show m_TK I3a A3a by exact tk46) (show m_SC I3a A3a by exact f11) (show m_TR lo5 I3a A3a by exact f12) (show m_ST lo I A lo5 I3a A3a by exact s50) (show m_fx I A I3a A3a by exact f9) (show m_kd lo5 I3a A3a (I 3905) (8 * (24 - (I 2775)) + (1)) v4 t_E by exact m_kd_l k52 (by omega) (by omega) (by omega)) (show m_RK lo5 (I 3905) (I3a 3905) (8 * (24 - (I 2775)) + (1)) by exact m_RK_le (show m_RK lo5 (I 3905) (I3a 3905) (8 * (24 - (I 2775)) + (0)) from rk51) (show (8 * (24 - (I 2775)) + (0)) ≤ (8 * (24 - (I 2775)) + (1)) by omega)) (show (fun k => k = 9 ∨ k = 10) ((A3a 53) (v4)) ∨ (lo5 v4).2 < (8 * (24 - (I 2775)) + (1)) by exact Or.inr (by have q := k52.1; omega)) (by omega)
  · rw [e17]
    replace hR3b : w_Rep w_TM fr X u l I3b A3b B3b C3b M2 := hR3b
    replace f18 : m_fx I A I3b A3b := f18
    exact Or.inr (⟨I3b, A3b, B3b, C3b, rfl, hR3b, (show m_fx I A I3b A3b by exact f18)⟩)
def m_product_Q (fr : Nat → Bool) (X : Nat → Option (q_C (Nat → Int32))) (u l : Nat) (I : Nat → Int) (A : Nat → Int → Int) (B C : Nat → Nat) (M : w_M) (lo : Int → Int × Int) : w_X → w_M → Prop := fun r M' => (∃ v : Int, ∃ lo' : Int → Int × Int, ∃ (I' : Nat → Int) (A' : Nat → Int → Int) (B' C' : Nat → Nat), (r = .inl (some v)) ∧ (w_in v) ∧ (w_Rep w_TM fr X u l I' A' B' C' M') ∧ (m_fx I A I' A') ∧ (((0 ≤ (I' 2774) ∧ (I' 2774) < (I' 2754) ∧ (I' 2754) ≤ 1501 ∧ 0 ≤ (I' 2775) ∧ (I' 2775) ≤ 24) ∧ ((I' 3393) = (I' 3905) ∧ (I' 3521) = (I' 3905) ∧ (I' 3649) = (I' 3905) ∧ (I' 3777) = (I' 3905) ∧ 0 ≤ (I' 3905) ∧ (I' 3905) ≤ 3 * (I' 2774)) ∧ ((I' 4161) = (I' 4033) ∧ 7 ≤ (I' 4289) ∧ (I' 4289) ≤ (I' 4033) ∧ (I' 4033) ≤ 7 + (I' 2774)) ∧ 0 ≤ (I' 5889) ∧ (I' 5889) ≤ (I' 2774)) ∧ ((I' 2754) = (I 2754) ∧ (I 2774) + 1 ≤ (I' 2774) ∧ (I' 2775) = (I 2775) ∧ (I' 4289) = (I 4289) + 0 ∧ (I' 5889) = (I 5889)) ∧ ((I' 3905) + 2 ≤ (I 3905) + 3 * ((I' 2774) - (I 2774)) ∧ (I 3905) ≤ v ∧ v + 1 = (I' 3905) ∧ (I 4033) ≤ (I' 4033) ∧ (I' 4033) ≤ (I 4033) + ((I' 2774) - (I 2774)))) ∧ (m_SC I' A') ∧ (m_TR lo' I' A') ∧ (m_ST lo I A lo' I' A') ∧ (t_E ((A' 53) (v))) ∧ (m_rt lo' (I' 3905) v) ∧ (m_RK lo' (I 3905) (I' 3905) (8 * (24 - (I 2775)) + 2))) ∨ (∃ (I' : Nat → Int) (A' : Nat → Int → Int) (B' C' : Nat → Nat), (r = .inr 69) ∧ (w_Rep w_TM fr X u l I' A' B' C' M') ∧ (m_fx I A I' A'))
set_option maxHeartbeats 100000000 in
set_option maxRecDepth 100000 in
theorem m_product {L : Nat} {xs : Nat → Int32} {d : Nat} {fr : Nat → Bool} {X : Nat → Option (q_C (Nat → Int32))} {u l : Nat} {I : Nat → Int} {A : Nat → Int → Int} {B C : Nat → Nat} {M : w_M} {N : Int} (hA : m_all L xs N) (lo : Int → Int × Int) (hR : w_Rep w_TM fr X u l I A B C M) (hd : 20 * (24 - (I 2775)) + 14 ≤ (d : Int)) (hTK : m_TK I A) (hNU : (0 ≤ (I 2774) ∧ (I 2774) < (I 2754) ∧ (I 2754) ≤ 1501 ∧ 0 ≤ (I 2775) ∧ (I 2775) ≤ 24) ∧ ((I 3393) = (I 3905) ∧ (I 3521) = (I 3905) ∧ (I 3649) = (I 3905) ∧ (I 3777) = (I 3905) ∧ 0 ≤ (I 3905) ∧ (I 3905) ≤ 3 * (I 2774)) ∧ ((I 4161) = (I 4033) ∧ 7 ≤ (I 4289) ∧ (I 4289) ≤ (I 4033) ∧ (I 4033) ≤ 7 + (I 2774)) ∧ 0 ≤ (I 5889) ∧ (I 5889) ≤ (I 2774)) (hSC : m_SC I A) (hTR : m_TR lo I A) (hm : (I 2754) - (I 2774) ≤ N) : w_W (z_P L xs) d 248 (0, [(0, .ref 43)], [], M) (m_product_Q fr X u l I A B C M lo) := by
  obtain ⟨d, rfl⟩ : ∃ d0, d = d0 + 1 := ⟨d - 1, by omega⟩
  refine w_adv (n := 1) (F' := (1, [(0, .ref 43)], [.ref 43], M)) rfl ?_
  refine w_call (cm := 249) (as := [(0, .ref 43)]) (rest := []) (o := some (9, 43)) rfl (w_fitR hR rfl) (m_part hA (lo) hR (show 20 * (24 - (I 2775)) + 13 ≤ (d : Int) by omega) (show m_TK I A by exact hTK) (show (0 ≤ (I 2774) ∧ (I 2774) < (I 2754) ∧ (I 2754) ≤ 1501 ∧ 0 ≤ (I 2775) ∧ (I 2775) ≤ 24) ∧ ((I 3393) = (I 3905) ∧ (I 3521) = (I 3905) ∧ (I 3649) = (I 3905) ∧ (I 3777) = (I 3905) ∧ 0 ≤ (I 3905) ∧ (I 3905) ≤ 3 * (I 2774)) ∧ ((I 4161) = (I 4033) ∧ 7 ≤ (I 4289) ∧ (I 4289) ≤ (I 4033) ∧ (I 4033) ≤ 7 + (I 2774)) ∧ 0 ≤ (I 5889) ∧ (I 5889) ≤ (I 2774) by (repeat' apply And.intro) <;> first | assumption | omega) (show m_SC I A by exact hSC) (show m_TR lo I A by exact hTR) (show (I 2754) - (I 2774) ≤ N by first | assumption | omega)) (fun r1 M2 q3 => ?_)
  rcases q3 with ⟨v4, lo5, I3a, A3a, B3a, C3a, e6, ⟨r7, r8⟩, hR3a, f9, f10, f11, f12, f13, f14, f15, f16⟩ | ⟨I3b, A3b, B3b, C3b, e17, hR3b, f18⟩
  · rw [e6]
    replace hR3a : w_Rep w_TM fr X u l I3a A3a B3a C3a M2 := hR3a
    replace f9 : m_fx I A I3a A3a := f9
    replace f10 : ((0 ≤ (I3a 2774) ∧ (I3a 2774) < (I3a 2754) ∧ (I3a 2754) ≤ 1501 ∧ 0 ≤ (I3a 2775) ∧ (I3a 2775) ≤ 24) ∧ ((I3a 3393) = (I3a 3905) ∧ (I3a 3521) = (I3a 3905) ∧ (I3a 3649) = (I3a 3905) ∧ (I3a 3777) = (I3a 3905) ∧ 0 ≤ (I3a 3905) ∧ (I3a 3905) ≤ 3 * (I3a 2774)) ∧ ((I3a 4161) = (I3a 4033) ∧ 7 ≤ (I3a 4289) ∧ (I3a 4289) ≤ (I3a 4033) ∧ (I3a 4033) ≤ 7 + (I3a 2774)) ∧ 0 ≤ (I3a 5889) ∧ (I3a 5889) ≤ (I3a 2774)) ∧ ((I3a 2754) = (I 2754) ∧ (I 2774) + 1 ≤ (I3a 2774) ∧ (I3a 2775) = (I 2775) ∧ (I3a 4289) = (I 4289) + 0 ∧ (I3a 5889) = (I 5889)) ∧ ((I3a 3905) + 2 ≤ (I 3905) + 3 * ((I3a 2774) - (I 2774)) ∧ (I 3905) ≤ v4 ∧ v4 + 1 = (I3a 3905) ∧ (I 4033) ≤ (I3a 4033) ∧ (I3a 4033) ≤ (I 4033) + ((I3a 2774) - (I 2774))) := f10
    obtain ⟨⟨⟨n19, n20, n21, n22, n23⟩, ⟨n24, n25, n26, n27, n28, n29⟩, ⟨n30, n31, n32, n33⟩, n34, n35⟩, ⟨n36, n37, n38, n39, n40⟩, ⟨n41, n42, n43, n44, n45⟩⟩ := id f10
    clear f10
    replace f11 : m_SC I3a A3a := f11
    replace f12 : m_TR lo5 I3a A3a := f12
    replace f13 : m_ST lo I A lo5 I3a A3a := f13
    replace f14 : t_E ((A3a 53) (v4)) := f14
    replace f15 : m_rt lo5 (I3a 3905) v4 := f15
    replace f16 : m_RK lo5 (I 3905) (I3a 3905) (8 * (24 - (I 2775)) + 1) := f16
    have tk46 : m_TK I3a A3a := m_TK_fx f9 hTK
    have nn47 : (I 3905) ≤ (I3a 3905) := by omega
    have nz48 : 0 ≤ (I 3905) := by first | assumption | omega
    have ho49 : (I 2775) = (I 2775) + (0) := by omega
    have rk51 : m_RK lo5 (I 3905) (I3a 3905) (8 * (24 - (I 2775)) + (1)) := m_RK_app (I := I) (I' := I3a) (R := (8 * (24 - (I 2775)) + (1))) (show m_RK lo (I 3905) (I 3905) (8 * (24 - (I 2775)) + (1)) from fun q q1 q2 => by omega) f13 f16 (show 0 ≤ (I 3905) by first | assumption | omega) (m_r8 (by decide)) (m_r8o (k := 0) ho49 (by decide))
    have s50 : m_ST lo I A lo5 I3a A3a := f13
    have k52 : m_kd lo5 I3a A3a (I 3905) (8 * (24 - (I 2775)) + 1) v4 t_E := m_kd_of f13 f12 nz48 (show (I 3905) ≤ v4 by first | assumption | omega) (show v4 < (I3a 3905) by omega) f14 f16
    obtain ⟨j53, j54, j55, j56, j57⟩ := k52.1
    show w_W _ _ _ (4, [(0, .ref 43)], [.int (Int32.ofInt (v4))], M2) _
    refine w_adv (n := 1) (F' := (5, [(1, .int (Int32.ofInt (v4))), (0, .ref 43)], [], M2)) rfl ?_
    have lp5 : ∀ fu : Nat, ∀ (lo_5 : Int → Int × Int) (y5_1 : Int) (I_5 : Nat → Int) (A_5 : Nat → Int → Int) (B_5 C_5 : Nat → Nat) (M_5 : w_M) (hR_5 : w_Rep w_TM fr X u l I_5 A_5 B_5 C_5 M_5), w_in y5_1 → ((0 ≤ (I_5 2774) ∧ (I_5 2774) < (I_5 2754) ∧ (I_5 2754) ≤ 1501 ∧ 0 ≤ (I_5 2775) ∧ (I_5 2775) ≤ 24) ∧ ((I_5 3393) = (I_5 3905) ∧ (I_5 3521) = (I_5 3905) ∧ (I_5 3649) = (I_5 3905) ∧ (I_5 3777) = (I_5 3905) ∧ 0 ≤ (I_5 3905) ∧ (I_5 3905) ≤ 3 * (I_5 2774)) ∧ ((I_5 4161) = (I_5 4033) ∧ 7 ≤ (I_5 4289) ∧ (I_5 4289) ≤ (I_5 4033) ∧ (I_5 4033) ≤ 7 + (I_5 2774)) ∧ 0 ≤ (I_5 5889) ∧ (I_5 5889) ≤ (I_5 2774)) ∧ ((I_5 2754) = (I 2754) ∧ (I 2774) + 1 ≤ (I_5 2774) ∧ (I_5 2775) = (I 2775) ∧ (I_5 4289) = (I 4289) + 0 ∧ (I_5 5889) = (I 5889)) ∧ ((I_5 3905) + 2 ≤ (I 3905) + 3 * ((I_5 2774) - (I 2774)) ∧ (I 3905) ≤ y5_1 ∧ y5_1 + 1 = (I_5 3905) ∧ (I 4033) ≤ (I_5 4033) ∧ (I_5 4033) ≤ (I 4033) + ((I_5 2774) - (I 2774))) → m_TK I_5 A_5 → m_SC I_5 A_5 → m_TR lo_5 I_5 A_5 → m_ST lo I A lo_5 I_5 A_5 → m_fx I A I_5 A_5 → m_kd lo_5 I_5 A_5 (I 3905) (8 * (24 - (I 2775)) + (2)) y5_1 t_E → m_RK lo_5 (I 3905) (I_5 3905) (8 * (24 - (I 2775)) + (2)) → (fun k => k = 9 ∨ k = 10) ((A_5 53) (y5_1)) ∨ (lo_5 y5_1).2 < (8 * (24 - (I 2775)) + (2)) → (I_5 2754) - (I_5 2774) < (fu : Int) → w_W (z_P L xs) (d + 1) 248 (5, [(0, .ref 43), (1, .int (Int32.ofInt (y5_1)))], [], M_5) (m_product_Q fr X u l I A B C M lo) := by
      intro fu
      induction fu with
      | zero =>
        intro lo_5 y5_1 I_5 A_5 B_5 C_5 M_5 hR_5 ⟨ra_y5_1, rb_y5_1⟩ hi5_0 hi5_1 hi5_2 hi5_3 hi5_4 hi5_5 hi5_6 hi5_7 hi5_8 hn5
        exfalso
        omega
      | succ fu ih5 =>
        intro lo_5 y5_1 I_5 A_5 B_5 C_5 M_5 hR_5 ⟨ra_y5_1, rb_y5_1⟩ hi5_0 hi5_1 hi5_2 hi5_3 hi5_4 hi5_5 hi5_6 hi5_7 hi5_8 hn5
        obtain ⟨⟨⟨n58, n59, n60, n61, n62⟩, ⟨n63, n64, n65, n66, n67, n68⟩, ⟨n69, n70, n71, n72⟩, n73, n74⟩, ⟨n75, n76, n77, n78, n79⟩, ⟨n80, n81, n82, n83, n84⟩⟩ := hi5_0
        obtain ⟨j85, j86, j87, j88, j89⟩ := hi5_6.1
        refine w_adv (n := 2) (F' := (8, [(0, .ref 43), (1, .int (Int32.ofInt (y5_1)))], [.int (Int32.ofInt (42)), .ref 43], M_5)) rfl ?_
        refine w_call (cm := 230) (as := [(0, .ref 43), (1, .int (Int32.ofInt (42)))]) (rest := []) (o := some (9, 43)) rfl (w_fitR hR_5 rfl) (m_isSign (42) hR_5 ⟨by omega, by omega⟩ (show 0 ≤ (I_5 2774) ∧ (I_5 2774) < 1501 by omega)) (fun r90 M91 q92 => ?_)
        rcases q92 with ⟨e93, e94, f95⟩ | ⟨e96, e97, f98⟩
        · rw [e93, e94]
          replace f95 : (A_5 45) ((I_5 2774)) = 6 ∧ (A_5 46) ((I_5 2774)) = 42 := f95
          obtain ⟨n99, n100⟩ := id f95
          clear f95
          have w101 : (I_5 2774) + 1 < (I_5 2754) := m_TK_lt hi5_1 (by omega) (by omega) (by omega)
          show w_W _ _ _ (11, [(0, .ref 43), (1, .int (Int32.ofInt (y5_1)))], [.int (Int32.ofInt (1))], M_5) _
          refine w_adv (n := 3) (F' := (35, [(0, .ref 43), (1, .int (Int32.ofInt (y5_1)))], [.int (Int32.ofInt (42)), .ref 43], M_5)) rfl ?_
          refine w_call (cm := 230) (as := [(0, .ref 43), (1, .int (Int32.ofInt (42)))]) (rest := []) (o := some (9, 43)) rfl (w_fitR hR_5 rfl) (m_isSign (42) hR_5 ⟨by omega, by omega⟩ (show 0 ≤ (I_5 2774) ∧ (I_5 2774) < 1501 by omega)) (fun r102 M103 q104 => ?_)
          rcases q104 with ⟨e105, e106, f107⟩ | ⟨e108, e109, f110⟩
          · rw [e105, e106]
            replace f107 : (A_5 45) ((I_5 2774)) = 6 ∧ (A_5 46) ((I_5 2774)) = 42 := f107
            obtain ⟨n111, n112⟩ := id f107
            clear f107
            have w113 : (I_5 2774) + 1 < (I_5 2754) := m_TK_lt hi5_1 (by omega) (by omega) (by omega)
            show w_W _ _ _ (38, [(0, .ref 43), (1, .int (Int32.ofInt (y5_1)))], [.int (Int32.ofInt (1))], M_5) _
            refine w_adv (n := 6) (F' := (62, [(2, .int (Int32.ofInt (2))), (0, .ref 43), (1, .int (Int32.ofInt (y5_1)))], [.ref 43, .ref 43], M_5)) rfl ?_
            refine w_gf (v := .int (Int32.ofInt ((I_5 2774)))) hR_5 rfl rfl rfl rfl ?_
            obtain ⟨r114, r115⟩ : -2147483648 ≤ (I_5 2774) ∧ (I_5 2774) ≤ 2147483647 := hR_5.ri 2774
            refine w_adv (n := 1) (F' := (66, [(2, .int (Int32.ofInt (2))), (0, .ref 43), (1, .int (Int32.ofInt (y5_1)))], [.int (Int32.ofInt (1)), .int (Int32.ofInt ((I_5 2774))), .ref 43], M_5)) rfl ?_
            refine w_add rfl ?_
            refine w_pf hR_5 rfl rfl rfl rfl (show w_in ((I_5 2774) + 1) from ⟨by omega, by omega⟩) (fun h => absurd h (by decide)) (fun M116 hR117 => ?_)
            replace hR117 : w_Rep w_TM fr X u l (w_up I_5 2774 ((I_5 2774) + 1)) A_5 B_5 C_5 M116 := hR117
            refine w_adv (n := 5) (F' := (76, [(2, .int (Int32.ofInt (2))), (0, .ref 43), (1, .int (Int32.ofInt (y5_1)))], [.ref 43, .int (Int32.ofInt (y5_1)), .int (Int32.ofInt (2)), .int (Int32.ofInt (9)), .ref 43], M116)) rfl ?_
            refine w_call (cm := 249) (as := [(0, .ref 43)]) (rest := [.int (Int32.ofInt (y5_1)), .int (Int32.ofInt (2)), .int (Int32.ofInt (9)), .ref 43]) (o := some (9, 43)) rfl (w_fitR hR117 rfl) (m_part hA (lo_5) hR117 (show 20 * (24 - (I_5 2775)) + 13 ≤ (d : Int) by omega) (show m_TK (w_up I_5 2774 ((I_5 2774) + 1)) A_5 by exact hi5_1) (show (0 ≤ (I_5 2774) + 1 ∧ (I_5 2774) + 1 < (I_5 2754) ∧ (I_5 2754) ≤ 1501 ∧ 0 ≤ (I_5 2775) ∧ (I_5 2775) ≤ 24) ∧ ((I_5 3393) = (I_5 3905) ∧ (I_5 3521) = (I_5 3905) ∧ (I_5 3649) = (I_5 3905) ∧ (I_5 3777) = (I_5 3905) ∧ 0 ≤ (I_5 3905) ∧ (I_5 3905) ≤ 3 * ((I_5 2774) + 1)) ∧ ((I_5 4161) = (I_5 4033) ∧ 7 ≤ (I_5 4289) ∧ (I_5 4289) ≤ (I_5 4033) ∧ (I_5 4033) ≤ 7 + ((I_5 2774) + 1)) ∧ 0 ≤ (I_5 5889) ∧ (I_5 5889) ≤ (I_5 2774) + 1 by (repeat' apply And.intro) <;> first | assumption | omega) (show m_SC (w_up I_5 2774 ((I_5 2774) + 1)) A_5 by exact hi5_2) (show m_TR lo_5 (w_up I_5 2774 ((I_5 2774) + 1)) A_5 by exact hi5_3) (show (I_5 2754) - ((I_5 2774) + 1) ≤ N by first | assumption | omega)) (fun r118 M119 q120 => ?_)
            rcases q120 with ⟨v121, lo122, I120a, A120a, B120a, C120a, e123, ⟨r124, r125⟩, hR120a, f126, f127, f128, f129, f130, f131, f132, f133⟩ | ⟨I120b, A120b, B120b, C120b, e134, hR120b, f135⟩
            · rw [e123]
              replace hR120a : w_Rep w_TM fr X u l I120a A120a B120a C120a M119 := hR120a
              replace f126 : m_fx (w_up I_5 2774 ((I_5 2774) + 1)) A_5 I120a A120a := f126
              replace f127 : ((0 ≤ (I120a 2774) ∧ (I120a 2774) < (I120a 2754) ∧ (I120a 2754) ≤ 1501 ∧ 0 ≤ (I120a 2775) ∧ (I120a 2775) ≤ 24) ∧ ((I120a 3393) = (I120a 3905) ∧ (I120a 3521) = (I120a 3905) ∧ (I120a 3649) = (I120a 3905) ∧ (I120a 3777) = (I120a 3905) ∧ 0 ≤ (I120a 3905) ∧ (I120a 3905) ≤ 3 * (I120a 2774)) ∧ ((I120a 4161) = (I120a 4033) ∧ 7 ≤ (I120a 4289) ∧ (I120a 4289) ≤ (I120a 4033) ∧ (I120a 4033) ≤ 7 + (I120a 2774)) ∧ 0 ≤ (I120a 5889) ∧ (I120a 5889) ≤ (I120a 2774)) ∧ ((I120a 2754) = (I_5 2754) ∧ ((I_5 2774) + 1) + 1 ≤ (I120a 2774) ∧ (I120a 2775) = (I_5 2775) ∧ (I120a 4289) = (I_5 4289) + 0 ∧ (I120a 5889) = (I_5 5889)) ∧ ((I120a 3905) + 2 ≤ (I_5 3905) + 3 * ((I120a 2774) - ((I_5 2774) + 1)) ∧ (I_5 3905) ≤ v121 ∧ v121 + 1 = (I120a 3905) ∧ (I_5 4033) ≤ (I120a 4033) ∧ (I120a 4033) ≤ (I_5 4033) + ((I120a 2774) - ((I_5 2774) + 1))) := f127
              obtain ⟨⟨⟨n136, n137, n138, n139, n140⟩, ⟨n141, n142, n143, n144, n145, n146⟩, ⟨n147, n148, n149, n150⟩, n151, n152⟩, ⟨n153, n154, n155, n156, n157⟩, ⟨n158, n159, n160, n161, n162⟩⟩ := id f127
              clear f127
              replace f128 : m_SC I120a A120a := f128
              replace f129 : m_TR lo122 I120a A120a := f129
              replace f130 : m_ST lo_5 (w_up I_5 2774 ((I_5 2774) + 1)) A_5 lo122 I120a A120a := f130
              replace f131 : t_E ((A120a 53) (v121)) := f131
              replace f132 : m_rt lo122 (I120a 3905) v121 := f132
              replace f133 : m_RK lo122 (I_5 3905) (I120a 3905) (8 * (24 - (I_5 2775)) + 1) := f133
              have tk163 : m_TK I120a A120a := m_TK_fx f126 hi5_1
              have nn164 : (I_5 3905) ≤ (I120a 3905) := by omega
              have nz165 : 0 ≤ (I_5 3905) := by first | assumption | omega
              have ho166 : (I_5 2775) = (I 2775) + (0) := by omega
              have rk168 : m_RK lo122 (I 3905) (I120a 3905) (8 * (24 - (I 2775)) + (2)) := m_RK_app (I := (w_up I_5 2774 ((I_5 2774) + 1))) (I' := I120a) (R := (8 * (24 - (I 2775)) + (2))) (show m_RK lo_5 (I 3905) (I_5 3905) (8 * (24 - (I 2775)) + (2)) from hi5_7) f130 f133 (show 0 ≤ (I 3905) by first | assumption | omega) (m_r8 (by decide)) (m_r8o (k := 0) ho166 (by decide))
              have s167 : m_ST lo I A lo122 I120a A120a := m_ST_trans (show m_ST lo I A lo_5 (w_up I_5 2774 ((I_5 2774) + 1)) A_5 from hi5_4) f130 (show 0 ≤ (I 3905) by first | assumption | omega) (show (I 3905) ≤ (I_5 3905) by first | assumption | omega) (show (I 4289) ≤ (I_5 4289) by first | assumption | omega) (show (I 5889) ≤ (I_5 5889) by first | assumption | omega)
              have k169 : m_kd lo122 I120a A120a (I 3905) (8 * (24 - (I 2775)) + (2)) y5_1 t_E := m_kd_ST f130 nn164 hi5_6
              have op170 := m_ork_ST (p := (fun k => k = 9 ∨ k = 10)) f130 hi5_6 hi5_8
              have k171 : m_kd lo122 I120a A120a (I_5 3905) (8 * (24 - (I_5 2775)) + 1) v121 t_E := m_kd_of f130 f129 nz165 (show (I_5 3905) ≤ v121 by first | assumption | omega) (show v121 < (I120a 3905) by omega) f131 f133
              obtain ⟨j172, j173, j174, j175, j176⟩ := k171.1
              show w_W _ _ _ (79, [(2, .int (Int32.ofInt (2))), (0, .ref 43), (1, .int (Int32.ofInt (y5_1)))], [.int (Int32.ofInt (v121)), .int (Int32.ofInt (y5_1)), .int (Int32.ofInt (2)), .int (Int32.ofInt (9)), .ref 43], M119) _
              refine w_call (cm := 239) (as := [(0, .ref 43), (1, .int (Int32.ofInt (9))), (2, .int (Int32.ofInt (2))), (3, .int (Int32.ofInt (y5_1))), (4, .int (Int32.ofInt (v121)))]) (rest := []) (o := some (9, 43)) rfl (w_fitR hR120a rfl) (m_node (9) (2) (y5_1) (v121) hR120a (show 2 ≤ d by omega) ⟨by omega, by omega⟩ ⟨by omega, by omega⟩ ⟨by omega, by omega⟩ ⟨by omega, by omega⟩ (show (I120a 3393) = (I120a 3905) by first | assumption | omega) (show (I120a 3521) = (I120a 3905) by first | assumption | omega) (show (I120a 3649) = (I120a 3905) by first | assumption | omega) (show (I120a 3777) = (I120a 3905) by first | assumption | omega) (show (I120a 3905) < 65536 by first | assumption | omega)) (fun r177 M178 q179 => ?_)
              rcases q179 with ⟨v180, I179a, A179a, B179a, C179a, e181, ⟨r182, r183⟩, hR179a, f184, f185⟩
              rw [e181]
              replace hR179a : w_Rep w_TM fr X u l I179a A179a B179a C179a M178 := hR179a
              replace f184 : m_fx I120a A120a I179a A179a := f184
              replace f185 : m_nd I120a A120a I179a A179a v180 9 2 y5_1 v121 := f185
              obtain ⟨⟨n186, n187, n188, n189, n190, n191⟩, ⟨n192, n193, n194, n195, n196, n197, n198⟩⟩ : (v180 = (I120a 3905) ∧ (I179a 3905) = (I120a 3905) + 1 ∧ (I179a 3393) = (I120a 3393) + 1 ∧ (I179a 3521) = (I120a 3521) + 1 ∧ (I179a 3649) = (I120a 3649) + 1 ∧ (I179a 3777) = (I120a 3777) + 1) ∧ ((I179a 2774) = (I120a 2774) ∧ (I179a 2754) = (I120a 2754) ∧ (I179a 2775) = (I120a 2775) ∧ (I179a 4289) = (I120a 4289) ∧ (I179a 4033) = (I120a 4033) ∧ (I179a 4161) = (I120a 4161) ∧ (I179a 5889) = (I120a 5889)) := m_nd_num f185
              have tk199 : m_TK I179a A179a := m_TK_fx f184 tk163
              have sc200 : m_SC I179a A179a := m_SC_nd f185 f128
              have tr201 : m_TR (t_up lo122 v180 (I 3905) (8 * (24 - (I 2775)) + (2))) I179a A179a := m_TR_nd (show m_TR lo122 I120a A120a from f129) f185 (show 0 ≤ (I 3905) by omega) (show (I 3905) ≤ v180 by omega) (m_cl_ST (show m_ST lo I A lo122 I120a A120a from s167) hTR (show 0 ≤ (I 3905) by omega)) (t_N_mk9 t_up_same (show 0 ≤ (I 3905) by omega) (show (I 3905) ≤ v180 by omega) (show 0 ≤ (8 * (24 - (I 2775)) + (2)) by omega) (m_hw2 (show m_RK lo122 (I 3905) v180 (8 * (24 - (I 2775)) + (2)) from fun q q1 q2 => (show m_RK lo122 (I 3905) (I120a 3905) (8 * (24 - (I 2775)) + (2)) from rk168) q (show (I 3905) ≤ q by omega) (show q < (I120a 3905) by omega)) (m_r8 (by decide))) ⟨m_ch f185 (show (I 3905) ≤ (I 3905) by omega) (show m_kd lo122 I120a A120a (I 3905) (8 * (24 - (I 2775)) + (2)) y5_1 t_E from k169), m_ch f185 (show (I 3905) ≤ (I_5 3905) by omega) (show m_kd lo122 I120a A120a (I_5 3905) (8 * (24 - (I_5 2775)) + 1) v121 t_E from k171), m_od f185 (show m_kd lo122 I120a A120a (I_5 3905) (8 * (24 - (I_5 2775)) + 1) v121 t_E from k171) (show y5_1 < (I_5 3905) by omega), (m_ork2 (p := (fun k => k = 9 ∨ k = 10)) f185 (show m_kd lo122 I120a A120a (I 3905) (8 * (24 - (I 2775)) + (2)) y5_1 t_E from k169) op170), (m_ork f185 (show m_kd lo122 I120a A120a (I_5 3905) (8 * (24 - (I_5 2775)) + 1) v121 t_E from k171) (show (8 * (24 - (I_5 2775)) + 1) < (8 * (24 - (I 2775)) + (2)) by omega))⟩)
              have s202 : m_ST lo I A (t_up lo122 v180 (I 3905) (8 * (24 - (I 2775)) + (2))) I179a A179a := m_ST_nd (l := (I 3905)) (show m_ST lo I A lo122 I120a A120a from s167) f185 (show (I 3905) ≤ (I 3905) by omega) (show (I 3905) ≤ (I120a 3905) by omega)
              have rk203 : m_RK (t_up lo122 v180 (I 3905) (8 * (24 - (I 2775)) + (2))) (I 3905) (I179a 3905) (8 * (24 - (I 2775)) + (2)) := fun q q1 q2 => m_RK_nd (show m_RK lo122 (I 3905) v180 (8 * (24 - (I 2775)) + (2)) from fun q q1 q2 => (show m_RK lo122 (I 3905) (I120a 3905) (8 * (24 - (I 2775)) + (2)) from rk168) q q1 (show q < (I120a 3905) by omega)) (m_r8 (by decide)) (m_r8 (by decide)) q q1 (show q < v180 + 1 by omega)
              have k204 : m_kd (t_up lo122 v180 (I 3905) (8 * (24 - (I 2775)) + (2))) I179a A179a (I 3905) (8 * (24 - (I 2775)) + (2)) v180 (fun k => k = 9) := m_kd_new f185 (show 0 ≤ (I 3905) by omega) (show (I 3905) ≤ v180 by omega) rfl
              have rt205 : m_rt (t_up lo122 v180 (I 3905) (8 * (24 - (I 2775)) + (2))) (I179a 3905) v180 := m_rt_new f185
              have op206 : (fun k => k = 9 ∨ k = 10) ((A179a 53) (v180)) ∨ ((t_up lo122 v180 (I 3905) (8 * (24 - (I 2775)) + (2))) v180).2 < (8 * (24 - (I 2775)) + (2)) := Or.inl (by have q1 : (A179a 53) (v180) = 9 := k204.2; omega)
              show w_W _ _ _ (82, [(2, .int (Int32.ofInt (2))), (0, .ref 43), (1, .int (Int32.ofInt (y5_1)))], [.int (Int32.ofInt (v180))], M178) _
              refine w_adv (n := 2) (F' := (5, [(1, .int (Int32.ofInt (v180))), (2, .int (Int32.ofInt (2))), (0, .ref 43)], [], M178)) rfl ?_
              refine w_ls (ls := [(0, .ref 43), (1, .int (Int32.ofInt (v180)))]) (show List.Nodup [0, 1] by decide) (show List.Nodup [1, 2, 0] by decide) (List.forall_mem_cons.mpr ⟨(List.Mem.tail _ (List.Mem.tail _ (List.Mem.head _))), (List.forall_mem_cons.mpr ⟨(List.Mem.head _), (fun _ h => by cases h)⟩)⟩) ?_
              exact ih5 (t_up lo122 v180 (I 3905) (8 * (24 - (I 2775)) + (2))) (v180) I179a A179a B179a C179a M178 hR179a ⟨by omega, by omega⟩ (show ((0 ≤ (I179a 2774) ∧ (I179a 2774) < (I179a 2754) ∧ (I179a 2754) ≤ 1501 ∧ 0 ≤ (I179a 2775) ∧ (I179a 2775) ≤ 24) ∧ ((I179a 3393) = (I179a 3905) ∧ (I179a 3521) = (I179a 3905) ∧ (I179a 3649) = (I179a 3905) ∧ (I179a 3777) = (I179a 3905) ∧ 0 ≤ (I179a 3905) ∧ (I179a 3905) ≤ 3 * (I179a 2774)) ∧ ((I179a 4161) = (I179a 4033) ∧ 7 ≤ (I179a 4289) ∧ (I179a 4289) ≤ (I179a 4033) ∧ (I179a 4033) ≤ 7 + (I179a 2774)) ∧ 0 ≤ (I179a 5889) ∧ (I179a 5889) ≤ (I179a 2774)) ∧ ((I179a 2754) = (I 2754) ∧ (I 2774) + 1 ≤ (I179a 2774) ∧ (I179a 2775) = (I 2775) ∧ (I179a 4289) = (I 4289) + 0 ∧ (I179a 5889) = (I 5889)) ∧ ((I179a 3905) + 2 ≤ (I 3905) + 3 * ((I179a 2774) - (I 2774)) ∧ (I 3905) ≤ v180 ∧ v180 + 1 = (I179a 3905) ∧ (I 4033) ≤ (I179a 4033) ∧ (I179a 4033) ≤ (I 4033) + ((I179a 2774) - (I 2774))) by (repeat' apply And.intro) <;> first | assumption | omega) (show m_TK I179a A179a by exact tk199) (show m_SC I179a A179a by exact sc200) (show m_TR (t_up lo122 v180 (I 3905) (8 * (24 - (I 2775)) + (2))) I179a A179a by exact tr201) (show m_ST lo I A (t_up lo122 v180 (I 3905) (8 * (24 - (I 2775)) + (2))) I179a A179a by exact s202) (show m_fx I A I179a A179a by exact (m_fx_trans (m_fx_trans hi5_5 f126) f184)) (show m_kd (t_up lo122 v180 (I 3905) (8 * (24 - (I 2775)) + (2))) I179a A179a (I 3905) (8 * (24 - (I 2775)) + (2)) v180 t_E by exact m_kd_l (m_kd_K k204 (fun k h => by have h : k = 9 := h; unfold t_E; omega)) (by omega) (by omega) (by omega)) (show m_RK (t_up lo122 v180 (I 3905) (8 * (24 - (I 2775)) + (2))) (I 3905) (I179a 3905) (8 * (24 - (I 2775)) + (2)) by exact m_RK_le (show m_RK (t_up lo122 v180 (I 3905) (8 * (24 - (I 2775)) + (2))) (I 3905) (I179a 3905) (8 * (24 - (I 2775)) + (2)) from rk203) (show (8 * (24 - (I 2775)) + (2)) ≤ (8 * (24 - (I 2775)) + (2)) by omega)) (show (fun k => k = 9 ∨ k = 10) ((A179a 53) (v180)) ∨ ((t_up lo122 v180 (I 3905) (8 * (24 - (I 2775)) + (2))) v180).2 < (8 * (24 - (I 2775)) + (2)) by exact op206) (by omega)
            · rw [e134]
              replace hR120b : w_Rep w_TM fr X u l I120b A120b B120b C120b M119 := hR120b
              replace f135 : m_fx (w_up I_5 2774 ((I_5 2774) + 1)) A_5 I120b A120b := f135
              exact Or.inr (⟨I120b, A120b, B120b, C120b, rfl, hR120b, (show m_fx I A I120b A120b by exact (m_fx_trans hi5_5 f135))⟩)
          · rw [e108, e109]
            replace f110 : ¬ ((A_5 45) ((I_5 2774)) = 6 ∧ (A_5 46) ((I_5 2774)) = 42) := f110
            exfalso; omega
        · rw [e96, e97]
          replace f98 : ¬ ((A_5 45) ((I_5 2774)) = 6 ∧ (A_5 46) ((I_5 2774)) = 42) := f98
          show w_W _ _ _ (11, [(0, .ref 43), (1, .int (Int32.ofInt (y5_1)))], [.int (Int32.ofInt (0))], M_5) _
          refine w_adv (n := 3) (F' := (17, [(0, .ref 43), (1, .int (Int32.ofInt (y5_1)))], [.int (Int32.ofInt (17)), .ref 43], M_5)) rfl ?_
          refine w_call (cm := 231) (as := [(0, .ref 43), (1, .int (Int32.ofInt (17)))]) (rest := []) (o := some (9, 43)) rfl (w_fitR hR_5 rfl) (m_isWord (17) hR_5 ⟨by omega, by omega⟩ (show 0 ≤ (I_5 2774) ∧ (I_5 2774) < 1501 by omega)) (fun r207 M208 q209 => ?_)
          rcases q209 with ⟨e210, e211, f212⟩ | ⟨e213, e214, f215⟩
          · rw [e210, e211]
            replace f212 : (A_5 45) ((I_5 2774)) = 5 ∧ (A_5 46) ((I_5 2774)) = 17 := f212
            obtain ⟨n216, n217⟩ := id f212
            clear f212
            have w218 : (I_5 2774) + 1 < (I_5 2754) := m_TK_lt hi5_1 (by omega) (by omega) (by omega)
            show w_W _ _ _ (20, [(0, .ref 43), (1, .int (Int32.ofInt (y5_1)))], [.int (Int32.ofInt (1))], M_5) _
            refine w_adv (n := 3) (F' := (35, [(0, .ref 43), (1, .int (Int32.ofInt (y5_1)))], [.int (Int32.ofInt (42)), .ref 43], M_5)) rfl ?_
            refine w_call (cm := 230) (as := [(0, .ref 43), (1, .int (Int32.ofInt (42)))]) (rest := []) (o := some (9, 43)) rfl (w_fitR hR_5 rfl) (m_isSign (42) hR_5 ⟨by omega, by omega⟩ (show 0 ≤ (I_5 2774) ∧ (I_5 2774) < 1501 by omega)) (fun r219 M220 q221 => ?_)
            rcases q221 with ⟨e222, e223, f224⟩ | ⟨e225, e226, f227⟩
            · rw [e222, e223]
              replace f224 : (A_5 45) ((I_5 2774)) = 6 ∧ (A_5 46) ((I_5 2774)) = 42 := f224
              obtain ⟨n228, n229⟩ := id f224
              clear f224
              exfalso; omega
            · rw [e225, e226]
              replace f227 : ¬ ((A_5 45) ((I_5 2774)) = 6 ∧ (A_5 46) ((I_5 2774)) = 42) := f227
              show w_W _ _ _ (38, [(0, .ref 43), (1, .int (Int32.ofInt (y5_1)))], [.int (Int32.ofInt (0))], M_5) _
              refine w_adv (n := 3) (F' := (48, [(0, .ref 43), (1, .int (Int32.ofInt (y5_1)))], [.int (Int32.ofInt (17)), .ref 43], M_5)) rfl ?_
              refine w_call (cm := 231) (as := [(0, .ref 43), (1, .int (Int32.ofInt (17)))]) (rest := []) (o := some (9, 43)) rfl (w_fitR hR_5 rfl) (m_isWord (17) hR_5 ⟨by omega, by omega⟩ (show 0 ≤ (I_5 2774) ∧ (I_5 2774) < 1501 by omega)) (fun r230 M231 q232 => ?_)
              rcases q232 with ⟨e233, e234, f235⟩ | ⟨e236, e237, f238⟩
              · rw [e233, e234]
                replace f235 : (A_5 45) ((I_5 2774)) = 5 ∧ (A_5 46) ((I_5 2774)) = 17 := f235
                obtain ⟨n239, n240⟩ := id f235
                clear f235
                have w241 : (I_5 2774) + 1 < (I_5 2754) := m_TK_lt hi5_1 (by omega) (by omega) (by omega)
                show w_W _ _ _ (51, [(0, .ref 43), (1, .int (Int32.ofInt (y5_1)))], [.int (Int32.ofInt (1))], M_5) _
                refine w_adv (n := 6) (F' := (62, [(2, .int (Int32.ofInt (3))), (0, .ref 43), (1, .int (Int32.ofInt (y5_1)))], [.ref 43, .ref 43], M_5)) rfl ?_
                refine w_gf (v := .int (Int32.ofInt ((I_5 2774)))) hR_5 rfl rfl rfl rfl ?_
                obtain ⟨r242, r243⟩ : -2147483648 ≤ (I_5 2774) ∧ (I_5 2774) ≤ 2147483647 := hR_5.ri 2774
                refine w_adv (n := 1) (F' := (66, [(2, .int (Int32.ofInt (3))), (0, .ref 43), (1, .int (Int32.ofInt (y5_1)))], [.int (Int32.ofInt (1)), .int (Int32.ofInt ((I_5 2774))), .ref 43], M_5)) rfl ?_
                refine w_add rfl ?_
                refine w_pf hR_5 rfl rfl rfl rfl (show w_in ((I_5 2774) + 1) from ⟨by omega, by omega⟩) (fun h => absurd h (by decide)) (fun M244 hR245 => ?_)
                replace hR245 : w_Rep w_TM fr X u l (w_up I_5 2774 ((I_5 2774) + 1)) A_5 B_5 C_5 M244 := hR245
                refine w_adv (n := 5) (F' := (76, [(2, .int (Int32.ofInt (3))), (0, .ref 43), (1, .int (Int32.ofInt (y5_1)))], [.ref 43, .int (Int32.ofInt (y5_1)), .int (Int32.ofInt (3)), .int (Int32.ofInt (9)), .ref 43], M244)) rfl ?_
                refine w_call (cm := 249) (as := [(0, .ref 43)]) (rest := [.int (Int32.ofInt (y5_1)), .int (Int32.ofInt (3)), .int (Int32.ofInt (9)), .ref 43]) (o := some (9, 43)) rfl (w_fitR hR245 rfl) (m_part hA (lo_5) hR245 (show 20 * (24 - (I_5 2775)) + 13 ≤ (d : Int) by omega) (show m_TK (w_up I_5 2774 ((I_5 2774) + 1)) A_5 by exact hi5_1) (show (0 ≤ (I_5 2774) + 1 ∧ (I_5 2774) + 1 < (I_5 2754) ∧ (I_5 2754) ≤ 1501 ∧ 0 ≤ (I_5 2775) ∧ (I_5 2775) ≤ 24) ∧ ((I_5 3393) = (I_5 3905) ∧ (I_5 3521) = (I_5 3905) ∧ (I_5 3649) = (I_5 3905) ∧ (I_5 3777) = (I_5 3905) ∧ 0 ≤ (I_5 3905) ∧ (I_5 3905) ≤ 3 * ((I_5 2774) + 1)) ∧ ((I_5 4161) = (I_5 4033) ∧ 7 ≤ (I_5 4289) ∧ (I_5 4289) ≤ (I_5 4033) ∧ (I_5 4033) ≤ 7 + ((I_5 2774) + 1)) ∧ 0 ≤ (I_5 5889) ∧ (I_5 5889) ≤ (I_5 2774) + 1 by (repeat' apply And.intro) <;> first | assumption | omega) (show m_SC (w_up I_5 2774 ((I_5 2774) + 1)) A_5 by exact hi5_2) (show m_TR lo_5 (w_up I_5 2774 ((I_5 2774) + 1)) A_5 by exact hi5_3) (show (I_5 2754) - ((I_5 2774) + 1) ≤ N by first | assumption | omega)) (fun r246 M247 q248 => ?_)
                rcases q248 with ⟨v249, lo250, I248a, A248a, B248a, C248a, e251, ⟨r252, r253⟩, hR248a, f254, f255, f256, f257, f258, f259, f260, f261⟩ | ⟨I248b, A248b, B248b, C248b, e262, hR248b, f263⟩
                · rw [e251]
                  replace hR248a : w_Rep w_TM fr X u l I248a A248a B248a C248a M247 := hR248a
                  replace f254 : m_fx (w_up I_5 2774 ((I_5 2774) + 1)) A_5 I248a A248a := f254
                  replace f255 : ((0 ≤ (I248a 2774) ∧ (I248a 2774) < (I248a 2754) ∧ (I248a 2754) ≤ 1501 ∧ 0 ≤ (I248a 2775) ∧ (I248a 2775) ≤ 24) ∧ ((I248a 3393) = (I248a 3905) ∧ (I248a 3521) = (I248a 3905) ∧ (I248a 3649) = (I248a 3905) ∧ (I248a 3777) = (I248a 3905) ∧ 0 ≤ (I248a 3905) ∧ (I248a 3905) ≤ 3 * (I248a 2774)) ∧ ((I248a 4161) = (I248a 4033) ∧ 7 ≤ (I248a 4289) ∧ (I248a 4289) ≤ (I248a 4033) ∧ (I248a 4033) ≤ 7 + (I248a 2774)) ∧ 0 ≤ (I248a 5889) ∧ (I248a 5889) ≤ (I248a 2774)) ∧ ((I248a 2754) = (I_5 2754) ∧ ((I_5 2774) + 1) + 1 ≤ (I248a 2774) ∧ (I248a 2775) = (I_5 2775) ∧ (I248a 4289) = (I_5 4289) + 0 ∧ (I248a 5889) = (I_5 5889)) ∧ ((I248a 3905) + 2 ≤ (I_5 3905) + 3 * ((I248a 2774) - ((I_5 2774) + 1)) ∧ (I_5 3905) ≤ v249 ∧ v249 + 1 = (I248a 3905) ∧ (I_5 4033) ≤ (I248a 4033) ∧ (I248a 4033) ≤ (I_5 4033) + ((I248a 2774) - ((I_5 2774) + 1))) := f255
                  obtain ⟨⟨⟨n264, n265, n266, n267, n268⟩, ⟨n269, n270, n271, n272, n273, n274⟩, ⟨n275, n276, n277, n278⟩, n279, n280⟩, ⟨n281, n282, n283, n284, n285⟩, ⟨n286, n287, n288, n289, n290⟩⟩ := id f255
                  clear f255
                  replace f256 : m_SC I248a A248a := f256
                  replace f257 : m_TR lo250 I248a A248a := f257
                  replace f258 : m_ST lo_5 (w_up I_5 2774 ((I_5 2774) + 1)) A_5 lo250 I248a A248a := f258
                  replace f259 : t_E ((A248a 53) (v249)) := f259
                  replace f260 : m_rt lo250 (I248a 3905) v249 := f260
                  replace f261 : m_RK lo250 (I_5 3905) (I248a 3905) (8 * (24 - (I_5 2775)) + 1) := f261
                  have tk291 : m_TK I248a A248a := m_TK_fx f254 hi5_1
                  have nn292 : (I_5 3905) ≤ (I248a 3905) := by omega
                  have nz293 : 0 ≤ (I_5 3905) := by first | assumption | omega
                  have ho294 : (I_5 2775) = (I 2775) + (0) := by omega
                  have rk296 : m_RK lo250 (I 3905) (I248a 3905) (8 * (24 - (I 2775)) + (2)) := m_RK_app (I := (w_up I_5 2774 ((I_5 2774) + 1))) (I' := I248a) (R := (8 * (24 - (I 2775)) + (2))) (show m_RK lo_5 (I 3905) (I_5 3905) (8 * (24 - (I 2775)) + (2)) from hi5_7) f258 f261 (show 0 ≤ (I 3905) by first | assumption | omega) (m_r8 (by decide)) (m_r8o (k := 0) ho294 (by decide))
                  have s295 : m_ST lo I A lo250 I248a A248a := m_ST_trans (show m_ST lo I A lo_5 (w_up I_5 2774 ((I_5 2774) + 1)) A_5 from hi5_4) f258 (show 0 ≤ (I 3905) by first | assumption | omega) (show (I 3905) ≤ (I_5 3905) by first | assumption | omega) (show (I 4289) ≤ (I_5 4289) by first | assumption | omega) (show (I 5889) ≤ (I_5 5889) by first | assumption | omega)
                  have k297 : m_kd lo250 I248a A248a (I 3905) (8 * (24 - (I 2775)) + (2)) y5_1 t_E := m_kd_ST f258 nn292 hi5_6
                  have op298 := m_ork_ST (p := (fun k => k = 9 ∨ k = 10)) f258 hi5_6 hi5_8
                  have k299 : m_kd lo250 I248a A248a (I_5 3905) (8 * (24 - (I_5 2775)) + 1) v249 t_E := m_kd_of f258 f257 nz293 (show (I_5 3905) ≤ v249 by first | assumption | omega) (show v249 < (I248a 3905) by omega) f259 f261
                  obtain ⟨j300, j301, j302, j303, j304⟩ := k299.1
                  show w_W _ _ _ (79, [(2, .int (Int32.ofInt (3))), (0, .ref 43), (1, .int (Int32.ofInt (y5_1)))], [.int (Int32.ofInt (v249)), .int (Int32.ofInt (y5_1)), .int (Int32.ofInt (3)), .int (Int32.ofInt (9)), .ref 43], M247) _
                  refine w_call (cm := 239) (as := [(0, .ref 43), (1, .int (Int32.ofInt (9))), (2, .int (Int32.ofInt (3))), (3, .int (Int32.ofInt (y5_1))), (4, .int (Int32.ofInt (v249)))]) (rest := []) (o := some (9, 43)) rfl (w_fitR hR248a rfl) (m_node (9) (3) (y5_1) (v249) hR248a (show 2 ≤ d by omega) ⟨by omega, by omega⟩ ⟨by omega, by omega⟩ ⟨by omega, by omega⟩ ⟨by omega, by omega⟩ (show (I248a 3393) = (I248a 3905) by first | assumption | omega) (show (I248a 3521) = (I248a 3905) by first | assumption | omega) (show (I248a 3649) = (I248a 3905) by first | assumption | omega) (show (I248a 3777) = (I248a 3905) by first | assumption | omega) (show (I248a 3905) < 65536 by first | assumption | omega)) (fun r305 M306 q307 => ?_)
                  rcases q307 with ⟨v308, I307a, A307a, B307a, C307a, e309, ⟨r310, r311⟩, hR307a, f312, f313⟩
                  rw [e309]
                  replace hR307a : w_Rep w_TM fr X u l I307a A307a B307a C307a M306 := hR307a
                  replace f312 : m_fx I248a A248a I307a A307a := f312
                  replace f313 : m_nd I248a A248a I307a A307a v308 9 3 y5_1 v249 := f313
                  obtain ⟨⟨n314, n315, n316, n317, n318, n319⟩, ⟨n320, n321, n322, n323, n324, n325, n326⟩⟩ : (v308 = (I248a 3905) ∧ (I307a 3905) = (I248a 3905) + 1 ∧ (I307a 3393) = (I248a 3393) + 1 ∧ (I307a 3521) = (I248a 3521) + 1 ∧ (I307a 3649) = (I248a 3649) + 1 ∧ (I307a 3777) = (I248a 3777) + 1) ∧ ((I307a 2774) = (I248a 2774) ∧ (I307a 2754) = (I248a 2754) ∧ (I307a 2775) = (I248a 2775) ∧ (I307a 4289) = (I248a 4289) ∧ (I307a 4033) = (I248a 4033) ∧ (I307a 4161) = (I248a 4161) ∧ (I307a 5889) = (I248a 5889)) := m_nd_num f313
                  have tk327 : m_TK I307a A307a := m_TK_fx f312 tk291
                  have sc328 : m_SC I307a A307a := m_SC_nd f313 f256
                  have tr329 : m_TR (t_up lo250 v308 (I 3905) (8 * (24 - (I 2775)) + (2))) I307a A307a := m_TR_nd (show m_TR lo250 I248a A248a from f257) f313 (show 0 ≤ (I 3905) by omega) (show (I 3905) ≤ v308 by omega) (m_cl_ST (show m_ST lo I A lo250 I248a A248a from s295) hTR (show 0 ≤ (I 3905) by omega)) (t_N_mk9 t_up_same (show 0 ≤ (I 3905) by omega) (show (I 3905) ≤ v308 by omega) (show 0 ≤ (8 * (24 - (I 2775)) + (2)) by omega) (m_hw2 (show m_RK lo250 (I 3905) v308 (8 * (24 - (I 2775)) + (2)) from fun q q1 q2 => (show m_RK lo250 (I 3905) (I248a 3905) (8 * (24 - (I 2775)) + (2)) from rk296) q (show (I 3905) ≤ q by omega) (show q < (I248a 3905) by omega)) (m_r8 (by decide))) ⟨m_ch f313 (show (I 3905) ≤ (I 3905) by omega) (show m_kd lo250 I248a A248a (I 3905) (8 * (24 - (I 2775)) + (2)) y5_1 t_E from k297), m_ch f313 (show (I 3905) ≤ (I_5 3905) by omega) (show m_kd lo250 I248a A248a (I_5 3905) (8 * (24 - (I_5 2775)) + 1) v249 t_E from k299), m_od f313 (show m_kd lo250 I248a A248a (I_5 3905) (8 * (24 - (I_5 2775)) + 1) v249 t_E from k299) (show y5_1 < (I_5 3905) by omega), (m_ork2 (p := (fun k => k = 9 ∨ k = 10)) f313 (show m_kd lo250 I248a A248a (I 3905) (8 * (24 - (I 2775)) + (2)) y5_1 t_E from k297) op298), (m_ork f313 (show m_kd lo250 I248a A248a (I_5 3905) (8 * (24 - (I_5 2775)) + 1) v249 t_E from k299) (show (8 * (24 - (I_5 2775)) + 1) < (8 * (24 - (I 2775)) + (2)) by omega))⟩)
                  have s330 : m_ST lo I A (t_up lo250 v308 (I 3905) (8 * (24 - (I 2775)) + (2))) I307a A307a := m_ST_nd (l := (I 3905)) (show m_ST lo I A lo250 I248a A248a from s295) f313 (show (I 3905) ≤ (I 3905) by omega) (show (I 3905) ≤ (I248a 3905) by omega)
                  have rk331 : m_RK (t_up lo250 v308 (I 3905) (8 * (24 - (I 2775)) + (2))) (I 3905) (I307a 3905) (8 * (24 - (I 2775)) + (2)) := fun q q1 q2 => m_RK_nd (show m_RK lo250 (I 3905) v308 (8 * (24 - (I 2775)) + (2)) from fun q q1 q2 => (show m_RK lo250 (I 3905) (I248a 3905) (8 * (24 - (I 2775)) + (2)) from rk296) q q1 (show q < (I248a 3905) by omega)) (m_r8 (by decide)) (m_r8 (by decide)) q q1 (show q < v308 + 1 by omega)
                  have k332 : m_kd (t_up lo250 v308 (I 3905) (8 * (24 - (I 2775)) + (2))) I307a A307a (I 3905) (8 * (24 - (I 2775)) + (2)) v308 (fun k => k = 9) := m_kd_new f313 (show 0 ≤ (I 3905) by omega) (show (I 3905) ≤ v308 by omega) rfl
                  have rt333 : m_rt (t_up lo250 v308 (I 3905) (8 * (24 - (I 2775)) + (2))) (I307a 3905) v308 := m_rt_new f313
                  have op334 : (fun k => k = 9 ∨ k = 10) ((A307a 53) (v308)) ∨ ((t_up lo250 v308 (I 3905) (8 * (24 - (I 2775)) + (2))) v308).2 < (8 * (24 - (I 2775)) + (2)) := Or.inl (by have q1 : (A307a 53) (v308) = 9 := k332.2; omega)
                  show w_W _ _ _ (82, [(2, .int (Int32.ofInt (3))), (0, .ref 43), (1, .int (Int32.ofInt (y5_1)))], [.int (Int32.ofInt (v308))], M306) _
                  refine w_adv (n := 2) (F' := (5, [(1, .int (Int32.ofInt (v308))), (2, .int (Int32.ofInt (3))), (0, .ref 43)], [], M306)) rfl ?_
                  refine w_ls (ls := [(0, .ref 43), (1, .int (Int32.ofInt (v308)))]) (show List.Nodup [0, 1] by decide) (show List.Nodup [1, 2, 0] by decide) (List.forall_mem_cons.mpr ⟨(List.Mem.tail _ (List.Mem.tail _ (List.Mem.head _))), (List.forall_mem_cons.mpr ⟨(List.Mem.head _), (fun _ h => by cases h)⟩)⟩) ?_
                  exact ih5 (t_up lo250 v308 (I 3905) (8 * (24 - (I 2775)) + (2))) (v308) I307a A307a B307a C307a M306 hR307a ⟨by omega, by omega⟩ (show ((0 ≤ (I307a 2774) ∧ (I307a 2774) < (I307a 2754) ∧ (I307a 2754) ≤ 1501 ∧ 0 ≤ (I307a 2775) ∧ (I307a 2775) ≤ 24) ∧ ((I307a 3393) = (I307a 3905) ∧ (I307a 3521) = (I307a 3905) ∧ (I307a 3649) = (I307a 3905) ∧ (I307a 3777) = (I307a 3905) ∧ 0 ≤ (I307a 3905) ∧ (I307a 3905) ≤ 3 * (I307a 2774)) ∧ ((I307a 4161) = (I307a 4033) ∧ 7 ≤ (I307a 4289) ∧ (I307a 4289) ≤ (I307a 4033) ∧ (I307a 4033) ≤ 7 + (I307a 2774)) ∧ 0 ≤ (I307a 5889) ∧ (I307a 5889) ≤ (I307a 2774)) ∧ ((I307a 2754) = (I 2754) ∧ (I 2774) + 1 ≤ (I307a 2774) ∧ (I307a 2775) = (I 2775) ∧ (I307a 4289) = (I 4289) + 0 ∧ (I307a 5889) = (I 5889)) ∧ ((I307a 3905) + 2 ≤ (I 3905) + 3 * ((I307a 2774) - (I 2774)) ∧ (I 3905) ≤ v308 ∧ v308 + 1 = (I307a 3905) ∧ (I 4033) ≤ (I307a 4033) ∧ (I307a 4033) ≤ (I 4033) + ((I307a 2774) - (I 2774))) by (repeat' apply And.intro) <;> first | assumption | omega) (show m_TK I307a A307a by exact tk327) (show m_SC I307a A307a by exact sc328) (show m_TR (t_up lo250 v308 (I 3905) (8 * (24 - (I 2775)) + (2))) I307a A307a by exact tr329) (show m_ST lo I A (t_up lo250 v308 (I 3905) (8 * (24 - (I 2775)) + (2))) I307a A307a by exact s330) (show m_fx I A I307a A307a by exact (m_fx_trans (m_fx_trans hi5_5 f254) f312)) (show m_kd (t_up lo250 v308 (I 3905) (8 * (24 - (I 2775)) + (2))) I307a A307a (I 3905) (8 * (24 - (I 2775)) + (2)) v308 t_E by exact m_kd_l (m_kd_K k332 (fun k h => by have h : k = 9 := h; unfold t_E; omega)) (by omega) (by omega) (by omega)) (show m_RK (t_up lo250 v308 (I 3905) (8 * (24 - (I 2775)) + (2))) (I 3905) (I307a 3905) (8 * (24 - (I 2775)) + (2)) by exact m_RK_le (show m_RK (t_up lo250 v308 (I 3905) (8 * (24 - (I 2775)) + (2))) (I 3905) (I307a 3905) (8 * (24 - (I 2775)) + (2)) from rk331) (show (8 * (24 - (I 2775)) + (2)) ≤ (8 * (24 - (I 2775)) + (2)) by omega)) (show (fun k => k = 9 ∨ k = 10) ((A307a 53) (v308)) ∨ ((t_up lo250 v308 (I 3905) (8 * (24 - (I 2775)) + (2))) v308).2 < (8 * (24 - (I 2775)) + (2)) by exact op334) (by omega)
                · rw [e262]
                  replace hR248b : w_Rep w_TM fr X u l I248b A248b B248b C248b M247 := hR248b
                  replace f263 : m_fx (w_up I_5 2774 ((I_5 2774) + 1)) A_5 I248b A248b := f263
                  exact Or.inr (⟨I248b, A248b, B248b, C248b, rfl, hR248b, (show m_fx I A I248b A248b by exact (m_fx_trans hi5_5 f263))⟩)
              · rw [e236, e237]
                replace f238 : ¬ ((A_5 45) ((I_5 2774)) = 5 ∧ (A_5 46) ((I_5 2774)) = 17) := f238
                exfalso; omega
          · rw [e213, e214]
            replace f215 : ¬ ((A_5 45) ((I_5 2774)) = 5 ∧ (A_5 46) ((I_5 2774)) = 17) := f215
            show w_W _ _ _ (20, [(0, .ref 43), (1, .int (Int32.ofInt (y5_1)))], [.int (Int32.ofInt (0))], M_5) _
            refine w_adv (n := 3) (F' := (26, [(0, .ref 43), (1, .int (Int32.ofInt (y5_1)))], [.int (Int32.ofInt (18)), .ref 43], M_5)) rfl ?_
            refine w_call (cm := 231) (as := [(0, .ref 43), (1, .int (Int32.ofInt (18)))]) (rest := []) (o := some (9, 43)) rfl (w_fitR hR_5 rfl) (m_isWord (18) hR_5 ⟨by omega, by omega⟩ (show 0 ≤ (I_5 2774) ∧ (I_5 2774) < 1501 by omega)) (fun r335 M336 q337 => ?_)
            rcases q337 with ⟨e338, e339, f340⟩ | ⟨e341, e342, f343⟩
            · rw [e338, e339]
              replace f340 : (A_5 45) ((I_5 2774)) = 5 ∧ (A_5 46) ((I_5 2774)) = 18 := f340
              obtain ⟨n344, n345⟩ := id f340
              clear f340
              have w346 : (I_5 2774) + 1 < (I_5 2754) := m_TK_lt hi5_1 (by omega) (by omega) (by omega)
              show w_W _ _ _ (29, [(0, .ref 43), (1, .int (Int32.ofInt (y5_1)))], [.int (Int32.ofInt (1))], M_5) _
              refine w_adv (n := 3) (F' := (35, [(0, .ref 43), (1, .int (Int32.ofInt (y5_1)))], [.int (Int32.ofInt (42)), .ref 43], M_5)) rfl ?_
              refine w_call (cm := 230) (as := [(0, .ref 43), (1, .int (Int32.ofInt (42)))]) (rest := []) (o := some (9, 43)) rfl (w_fitR hR_5 rfl) (m_isSign (42) hR_5 ⟨by omega, by omega⟩ (show 0 ≤ (I_5 2774) ∧ (I_5 2774) < 1501 by omega)) (fun r347 M348 q349 => ?_)
              rcases q349 with ⟨e350, e351, f352⟩ | ⟨e353, e354, f355⟩
              · rw [e350, e351]
                replace f352 : (A_5 45) ((I_5 2774)) = 6 ∧ (A_5 46) ((I_5 2774)) = 42 := f352
                obtain ⟨n356, n357⟩ := id f352
                clear f352
                exfalso; omega
              · rw [e353, e354]
                replace f355 : ¬ ((A_5 45) ((I_5 2774)) = 6 ∧ (A_5 46) ((I_5 2774)) = 42) := f355
                show w_W _ _ _ (38, [(0, .ref 43), (1, .int (Int32.ofInt (y5_1)))], [.int (Int32.ofInt (0))], M_5) _
                refine w_adv (n := 3) (F' := (48, [(0, .ref 43), (1, .int (Int32.ofInt (y5_1)))], [.int (Int32.ofInt (17)), .ref 43], M_5)) rfl ?_
                refine w_call (cm := 231) (as := [(0, .ref 43), (1, .int (Int32.ofInt (17)))]) (rest := []) (o := some (9, 43)) rfl (w_fitR hR_5 rfl) (m_isWord (17) hR_5 ⟨by omega, by omega⟩ (show 0 ≤ (I_5 2774) ∧ (I_5 2774) < 1501 by omega)) (fun r358 M359 q360 => ?_)
                rcases q360 with ⟨e361, e362, f363⟩ | ⟨e364, e365, f366⟩
                · rw [e361, e362]
                  replace f363 : (A_5 45) ((I_5 2774)) = 5 ∧ (A_5 46) ((I_5 2774)) = 17 := f363
                  obtain ⟨n367, n368⟩ := id f363
                  clear f363
                  exfalso; omega
                · rw [e364, e365]
                  replace f366 : ¬ ((A_5 45) ((I_5 2774)) = 5 ∧ (A_5 46) ((I_5 2774)) = 17) := f366
                  show w_W _ _ _ (51, [(0, .ref 43), (1, .int (Int32.ofInt (y5_1)))], [.int (Int32.ofInt (0))], M_5) _
                  refine w_adv (n := 5) (F' := (62, [(2, .int (Int32.ofInt (4))), (0, .ref 43), (1, .int (Int32.ofInt (y5_1)))], [.ref 43, .ref 43], M_5)) rfl ?_
                  refine w_gf (v := .int (Int32.ofInt ((I_5 2774)))) hR_5 rfl rfl rfl rfl ?_
                  obtain ⟨r369, r370⟩ : -2147483648 ≤ (I_5 2774) ∧ (I_5 2774) ≤ 2147483647 := hR_5.ri 2774
                  refine w_adv (n := 1) (F' := (66, [(2, .int (Int32.ofInt (4))), (0, .ref 43), (1, .int (Int32.ofInt (y5_1)))], [.int (Int32.ofInt (1)), .int (Int32.ofInt ((I_5 2774))), .ref 43], M_5)) rfl ?_
                  refine w_add rfl ?_
                  refine w_pf hR_5 rfl rfl rfl rfl (show w_in ((I_5 2774) + 1) from ⟨by omega, by omega⟩) (fun h => absurd h (by decide)) (fun M371 hR372 => ?_)
                  replace hR372 : w_Rep w_TM fr X u l (w_up I_5 2774 ((I_5 2774) + 1)) A_5 B_5 C_5 M371 := hR372
                  refine w_adv (n := 5) (F' := (76, [(2, .int (Int32.ofInt (4))), (0, .ref 43), (1, .int (Int32.ofInt (y5_1)))], [.ref 43, .int (Int32.ofInt (y5_1)), .int (Int32.ofInt (4)), .int (Int32.ofInt (9)), .ref 43], M371)) rfl ?_
                  refine w_call (cm := 249) (as := [(0, .ref 43)]) (rest := [.int (Int32.ofInt (y5_1)), .int (Int32.ofInt (4)), .int (Int32.ofInt (9)), .ref 43]) (o := some (9, 43)) rfl (w_fitR hR372 rfl) (m_part hA (lo_5) hR372 (show 20 * (24 - (I_5 2775)) + 13 ≤ (d : Int) by omega) (show m_TK (w_up I_5 2774 ((I_5 2774) + 1)) A_5 by exact hi5_1) (show (0 ≤ (I_5 2774) + 1 ∧ (I_5 2774) + 1 < (I_5 2754) ∧ (I_5 2754) ≤ 1501 ∧ 0 ≤ (I_5 2775) ∧ (I_5 2775) ≤ 24) ∧ ((I_5 3393) = (I_5 3905) ∧ (I_5 3521) = (I_5 3905) ∧ (I_5 3649) = (I_5 3905) ∧ (I_5 3777) = (I_5 3905) ∧ 0 ≤ (I_5 3905) ∧ (I_5 3905) ≤ 3 * ((I_5 2774) + 1)) ∧ ((I_5 4161) = (I_5 4033) ∧ 7 ≤ (I_5 4289) ∧ (I_5 4289) ≤ (I_5 4033) ∧ (I_5 4033) ≤ 7 + ((I_5 2774) + 1)) ∧ 0 ≤ (I_5 5889) ∧ (I_5 5889) ≤ (I_5 2774) + 1 by (repeat' apply And.intro) <;> first | assumption | omega) (show m_SC (w_up I_5 2774 ((I_5 2774) + 1)) A_5 by exact hi5_2) (show m_TR lo_5 (w_up I_5 2774 ((I_5 2774) + 1)) A_5 by exact hi5_3) (show (I_5 2754) - ((I_5 2774) + 1) ≤ N by first | assumption | omega)) (fun r373 M374 q375 => ?_)
                  rcases q375 with ⟨v376, lo377, I375a, A375a, B375a, C375a, e378, ⟨r379, r380⟩, hR375a, f381, f382, f383, f384, f385, f386, f387, f388⟩ | ⟨I375b, A375b, B375b, C375b, e389, hR375b, f390⟩
                  · rw [e378]
                    replace hR375a : w_Rep w_TM fr X u l I375a A375a B375a C375a M374 := hR375a
                    replace f381 : m_fx (w_up I_5 2774 ((I_5 2774) + 1)) A_5 I375a A375a := f381
                    replace f382 : ((0 ≤ (I375a 2774) ∧ (I375a 2774) < (I375a 2754) ∧ (I375a 2754) ≤ 1501 ∧ 0 ≤ (I375a 2775) ∧ (I375a 2775) ≤ 24) ∧ ((I375a 3393) = (I375a 3905) ∧ (I375a 3521) = (I375a 3905) ∧ (I375a 3649) = (I375a 3905) ∧ (I375a 3777) = (I375a 3905) ∧ 0 ≤ (I375a 3905) ∧ (I375a 3905) ≤ 3 * (I375a 2774)) ∧ ((I375a 4161) = (I375a 4033) ∧ 7 ≤ (I375a 4289) ∧ (I375a 4289) ≤ (I375a 4033) ∧ (I375a 4033) ≤ 7 + (I375a 2774)) ∧ 0 ≤ (I375a 5889) ∧ (I375a 5889) ≤ (I375a 2774)) ∧ ((I375a 2754) = (I_5 2754) ∧ ((I_5 2774) + 1) + 1 ≤ (I375a 2774) ∧ (I375a 2775) = (I_5 2775) ∧ (I375a 4289) = (I_5 4289) + 0 ∧ (I375a 5889) = (I_5 5889)) ∧ ((I375a 3905) + 2 ≤ (I_5 3905) + 3 * ((I375a 2774) - ((I_5 2774) + 1)) ∧ (I_5 3905) ≤ v376 ∧ v376 + 1 = (I375a 3905) ∧ (I_5 4033) ≤ (I375a 4033) ∧ (I375a 4033) ≤ (I_5 4033) + ((I375a 2774) - ((I_5 2774) + 1))) := f382
                    obtain ⟨⟨⟨n391, n392, n393, n394, n395⟩, ⟨n396, n397, n398, n399, n400, n401⟩, ⟨n402, n403, n404, n405⟩, n406, n407⟩, ⟨n408, n409, n410, n411, n412⟩, ⟨n413, n414, n415, n416, n417⟩⟩ := id f382
                    clear f382
                    replace f383 : m_SC I375a A375a := f383
                    replace f384 : m_TR lo377 I375a A375a := f384
                    replace f385 : m_ST lo_5 (w_up I_5 2774 ((I_5 2774) + 1)) A_5 lo377 I375a A375a := f385
                    replace f386 : t_E ((A375a 53) (v376)) := f386
                    replace f387 : m_rt lo377 (I375a 3905) v376 := f387
                    replace f388 : m_RK lo377 (I_5 3905) (I375a 3905) (8 * (24 - (I_5 2775)) + 1) := f388
                    have tk418 : m_TK I375a A375a := m_TK_fx f381 hi5_1
                    have nn419 : (I_5 3905) ≤ (I375a 3905) := by omega
                    have nz420 : 0 ≤ (I_5 3905) := by first | assumption | omega
                    have ho421 : (I_5 2775) = (I 2775) + (0) := by omega
                    have rk423 : m_RK lo377 (I 3905) (I375a 3905) (8 * (24 - (I 2775)) + (2)) := m_RK_app (I := (w_up I_5 2774 ((I_5 2774) + 1))) (I' := I375a) (R := (8 * (24 - (I 2775)) + (2))) (show m_RK lo_5 (I 3905) (I_5 3905) (8 * (24 - (I 2775)) + (2)) from hi5_7) f385 f388 (show 0 ≤ (I 3905) by first | assumption | omega) (m_r8 (by decide)) (m_r8o (k := 0) ho421 (by decide))
                    have s422 : m_ST lo I A lo377 I375a A375a := m_ST_trans (show m_ST lo I A lo_5 (w_up I_5 2774 ((I_5 2774) + 1)) A_5 from hi5_4) f385 (show 0 ≤ (I 3905) by first | assumption | omega) (show (I 3905) ≤ (I_5 3905) by first | assumption | omega) (show (I 4289) ≤ (I_5 4289) by first | assumption | omega) (show (I 5889) ≤ (I_5 5889) by first | assumption | omega)
                    have k424 : m_kd lo377 I375a A375a (I 3905) (8 * (24 - (I 2775)) + (2)) y5_1 t_E := m_kd_ST f385 nn419 hi5_6
                    have op425 := m_ork_ST (p := (fun k => k = 9 ∨ k = 10)) f385 hi5_6 hi5_8
                    have k426 : m_kd lo377 I375a A375a (I_5 3905) (8 * (24 - (I_5 2775)) + 1) v376 t_E := m_kd_of f385 f384 nz420 (show (I_5 3905) ≤ v376 by first | assumption | omega) (show v376 < (I375a 3905) by omega) f386 f388
                    obtain ⟨j427, j428, j429, j430, j431⟩ := k426.1
                    show w_W _ _ _ (79, [(2, .int (Int32.ofInt (4))), (0, .ref 43), (1, .int (Int32.ofInt (y5_1)))], [.int (Int32.ofInt (v376)), .int (Int32.ofInt (y5_1)), .int (Int32.ofInt (4)), .int (Int32.ofInt (9)), .ref 43], M374) _
                    refine w_call (cm := 239) (as := [(0, .ref 43), (1, .int (Int32.ofInt (9))), (2, .int (Int32.ofInt (4))), (3, .int (Int32.ofInt (y5_1))), (4, .int (Int32.ofInt (v376)))]) (rest := []) (o := some (9, 43)) rfl (w_fitR hR375a rfl) (m_node (9) (4) (y5_1) (v376) hR375a (show 2 ≤ d by omega) ⟨by omega, by omega⟩ ⟨by omega, by omega⟩ ⟨by omega, by omega⟩ ⟨by omega, by omega⟩ (show (I375a 3393) = (I375a 3905) by first | assumption | omega) (show (I375a 3521) = (I375a 3905) by first | assumption | omega) (show (I375a 3649) = (I375a 3905) by first | assumption | omega) (show (I375a 3777) = (I375a 3905) by first | assumption | omega) (show (I375a 3905) < 65536 by first | assumption | omega)) (fun r432 M433 q434 => ?_)
                    rcases q434 with ⟨v435, I434a, A434a, B434a, C434a, e436, ⟨r437, r438⟩, hR434a, f439, f440⟩
                    rw [e436]
                    replace hR434a : w_Rep w_TM fr X u l I434a A434a B434a C434a M433 := hR434a
                    replace f439 : m_fx I375a A375a I434a A434a := f439
                    replace f440 : m_nd I375a A375a I434a A434a v435 9 4 y5_1 v376 := f440
                    obtain ⟨⟨n441, n442, n443, n444, n445, n446⟩, ⟨n447, n448, n449, n450, n451, n452, n453⟩⟩ : (v435 = (I375a 3905) ∧ (I434a 3905) = (I375a 3905) + 1 ∧ (I434a 3393) = (I375a 3393) + 1 ∧ (I434a 3521) = (I375a 3521) + 1 ∧ (I434a 3649) = (I375a 3649) + 1 ∧ (I434a 3777) = (I375a 3777) + 1) ∧ ((I434a 2774) = (I375a 2774) ∧ (I434a 2754) = (I375a 2754) ∧ (I434a 2775) = (I375a 2775) ∧ (I434a 4289) = (I375a 4289) ∧ (I434a 4033) = (I375a 4033) ∧ (I434a 4161) = (I375a 4161) ∧ (I434a 5889) = (I375a 5889)) := m_nd_num f440
                    have tk454 : m_TK I434a A434a := m_TK_fx f439 tk418
                    have sc455 : m_SC I434a A434a := m_SC_nd f440 f383
                    have tr456 : m_TR (t_up lo377 v435 (I 3905) (8 * (24 - (I 2775)) + (2))) I434a A434a := m_TR_nd (show m_TR lo377 I375a A375a from f384) f440 (show 0 ≤ (I 3905) by omega) (show (I 3905) ≤ v435 by omega) (m_cl_ST (show m_ST lo I A lo377 I375a A375a from s422) hTR (show 0 ≤ (I 3905) by omega)) (t_N_mk9 t_up_same (show 0 ≤ (I 3905) by omega) (show (I 3905) ≤ v435 by omega) (show 0 ≤ (8 * (24 - (I 2775)) + (2)) by omega) (m_hw2 (show m_RK lo377 (I 3905) v435 (8 * (24 - (I 2775)) + (2)) from fun q q1 q2 => (show m_RK lo377 (I 3905) (I375a 3905) (8 * (24 - (I 2775)) + (2)) from rk423) q (show (I 3905) ≤ q by omega) (show q < (I375a 3905) by omega)) (m_r8 (by decide))) ⟨m_ch f440 (show (I 3905) ≤ (I 3905) by omega) (show m_kd lo377 I375a A375a (I 3905) (8 * (24 - (I 2775)) + (2)) y5_1 t_E from k424), m_ch f440 (show (I 3905) ≤ (I_5 3905) by omega) (show m_kd lo377 I375a A375a (I_5 3905) (8 * (24 - (I_5 2775)) + 1) v376 t_E from k426), m_od f440 (show m_kd lo377 I375a A375a (I_5 3905) (8 * (24 - (I_5 2775)) + 1) v376 t_E from k426) (show y5_1 < (I_5 3905) by omega), (m_ork2 (p := (fun k => k = 9 ∨ k = 10)) f440 (show m_kd lo377 I375a A375a (I 3905) (8 * (24 - (I 2775)) + (2)) y5_1 t_E from k424) op425), (m_ork f440 (show m_kd lo377 I375a A375a (I_5 3905) (8 * (24 - (I_5 2775)) + 1) v376 t_E from k426) (show (8 * (24 - (I_5 2775)) + 1) < (8 * (24 - (I 2775)) + (2)) by omega))⟩)
                    have s457 : m_ST lo I A (t_up lo377 v435 (I 3905) (8 * (24 - (I 2775)) + (2))) I434a A434a := m_ST_nd (l := (I 3905)) (show m_ST lo I A lo377 I375a A375a from s422) f440 (show (I 3905) ≤ (I 3905) by omega) (show (I 3905) ≤ (I375a 3905) by omega)
                    have rk458 : m_RK (t_up lo377 v435 (I 3905) (8 * (24 - (I 2775)) + (2))) (I 3905) (I434a 3905) (8 * (24 - (I 2775)) + (2)) := fun q q1 q2 => m_RK_nd (show m_RK lo377 (I 3905) v435 (8 * (24 - (I 2775)) + (2)) from fun q q1 q2 => (show m_RK lo377 (I 3905) (I375a 3905) (8 * (24 - (I 2775)) + (2)) from rk423) q q1 (show q < (I375a 3905) by omega)) (m_r8 (by decide)) (m_r8 (by decide)) q q1 (show q < v435 + 1 by omega)
                    have k459 : m_kd (t_up lo377 v435 (I 3905) (8 * (24 - (I 2775)) + (2))) I434a A434a (I 3905) (8 * (24 - (I 2775)) + (2)) v435 (fun k => k = 9) := m_kd_new f440 (show 0 ≤ (I 3905) by omega) (show (I 3905) ≤ v435 by omega) rfl
                    have rt460 : m_rt (t_up lo377 v435 (I 3905) (8 * (24 - (I 2775)) + (2))) (I434a 3905) v435 := m_rt_new f440
                    have op461 : (fun k => k = 9 ∨ k = 10) ((A434a 53) (v435)) ∨ ((t_up lo377 v435 (I 3905) (8 * (24 - (I 2775)) + (2))) v435).2 < (8 * (24 - (I 2775)) + (2)) := Or.inl (by have q1 : (A434a 53) (v435) = 9 := k459.2; omega)
                    show w_W _ _ _ (82, [(2, .int (Int32.ofInt (4))), (0, .ref 43), (1, .int (Int32.ofInt (y5_1)))], [.int (Int32.ofInt (v435))], M433) _
                    refine w_adv (n := 2) (F' := (5, [(1, .int (Int32.ofInt (v435))), (2, .int (Int32.ofInt (4))), (0, .ref 43)], [], M433)) rfl ?_
                    refine w_ls (ls := [(0, .ref 43), (1, .int (Int32.ofInt (v435)))]) (show List.Nodup [0, 1] by decide) (show List.Nodup [1, 2, 0] by decide) (List.forall_mem_cons.mpr ⟨(List.Mem.tail _ (List.Mem.tail _ (List.Mem.head _))), (List.forall_mem_cons.mpr ⟨(List.Mem.head _), (fun _ h => by cases h)⟩)⟩) ?_
                    exact ih5 (t_up lo377 v435 (I 3905) (8 * (24 - (I 2775)) + (2))) (v435) I434a A434a B434a C434a M433 hR434a ⟨by omega, by omega⟩ (show ((0 ≤ (I434a 2774) ∧ (I434a 2774) < (I434a 2754) ∧ (I434a 2754) ≤ 1501 ∧ 0 ≤ (I434a 2775) ∧ (I434a 2775) ≤ 24) ∧ ((I434a 3393) = (I434a 3905) ∧ (I434a 3521) = (I434a 3905) ∧ (I434a 3649) = (I434a 3905) ∧ (I434a 3777) = (I434a 3905) ∧ 0 ≤ (I434a 3905) ∧ (I434a 3905) ≤ 3 * (I434a 2774)) ∧ ((I434a 4161) = (I434a 4033) ∧ 7 ≤ (I434a 4289) ∧ (I434a 4289) ≤ (I434a 4033) ∧ (I434a 4033) ≤ 7 + (I434a 2774)) ∧ 0 ≤ (I434a 5889) ∧ (I434a 5889) ≤ (I434a 2774)) ∧ ((I434a 2754) = (I 2754) ∧ (I 2774) + 1 ≤ (I434a 2774) ∧ (I434a 2775) = (I 2775) ∧ (I434a 4289) = (I 4289) + 0 ∧ (I434a 5889) = (I 5889)) ∧ ((I434a 3905) + 2 ≤ (I 3905) + 3 * ((I434a 2774) - (I 2774)) ∧ (I 3905) ≤ v435 ∧ v435 + 1 = (I434a 3905) ∧ (I 4033) ≤ (I434a 4033) ∧ (I434a 4033) ≤ (I 4033) + ((I434a 2774) - (I 2774))) by (repeat' apply And.intro) <;> first | assumption | omega) (show m_TK I434a A434a by exact tk454) (show m_SC I434a A434a by exact sc455) (show m_TR (t_up lo377 v435 (I 3905) (8 * (24 - (I 2775)) + (2))) I434a A434a by exact tr456) (show m_ST lo I A (t_up lo377 v435 (I 3905) (8 * (24 - (I 2775)) + (2))) I434a A434a by exact s457) (show m_fx I A I434a A434a by exact (m_fx_trans (m_fx_trans hi5_5 f381) f439)) (show m_kd (t_up lo377 v435 (I 3905) (8 * (24 - (I 2775)) + (2))) I434a A434a (I 3905) (8 * (24 - (I 2775)) + (2)) v435 t_E by exact m_kd_l (m_kd_K k459 (fun k h => by have h : k = 9 := h; unfold t_E; omega)) (by omega) (by omega) (by omega)) (show m_RK (t_up lo377 v435 (I 3905) (8 * (24 - (I 2775)) + (2))) (I 3905) (I434a 3905) (8 * (24 - (I 2775)) + (2)) by exact m_RK_le (show m_RK (t_up lo377 v435 (I 3905) (8 * (24 - (I 2775)) + (2))) (I 3905) (I434a 3905) (8 * (24 - (I 2775)) + (2)) from rk458) (show (8 * (24 - (I 2775)) + (2)) ≤ (8 * (24 - (I 2775)) + (2)) by omega)) (show (fun k => k = 9 ∨ k = 10) ((A434a 53) (v435)) ∨ ((t_up lo377 v435 (I 3905) (8 * (24 - (I 2775)) + (2))) v435).2 < (8 * (24 - (I 2775)) + (2)) by exact op461) (by omega)
                  · rw [e389]
                    replace hR375b : w_Rep w_TM fr X u l I375b A375b B375b C375b M374 := hR375b
                    replace f390 : m_fx (w_up I_5 2774 ((I_5 2774) + 1)) A_5 I375b A375b := f390
                    exact Or.inr (⟨I375b, A375b, B375b, C375b, rfl, hR375b, (show m_fx I A I375b A375b by exact (m_fx_trans hi5_5 f390))⟩)
            · rw [e341, e342]
              replace f343 : ¬ ((A_5 45) ((I_5 2774)) = 5 ∧ (A_5 46) ((I_5 2774)) = 18) := f343
              show w_W _ _ _ (29, [(0, .ref 43), (1, .int (Int32.ofInt (y5_1)))], [.int (Int32.ofInt (0))], M_5) _
              refine w_adv (n := 2) (F' := (87, [(0, .ref 43), (1, .int (Int32.ofInt (y5_1)))], [.int (Int32.ofInt (y5_1))], M_5)) rfl ?_
              refine w_fin (r := .inl (some (y5_1))) (M' := M_5) rfl ?_
              exact Or.inl ⟨y5_1, lo_5, I_5, A_5, B_5, C_5, rfl, ⟨by omega, by omega⟩, hR_5, (show m_fx I A I_5 A_5 by exact hi5_5), (show ((0 ≤ (I_5 2774) ∧ (I_5 2774) < (I_5 2754) ∧ (I_5 2754) ≤ 1501 ∧ 0 ≤ (I_5 2775) ∧ (I_5 2775) ≤ 24) ∧ ((I_5 3393) = (I_5 3905) ∧ (I_5 3521) = (I_5 3905) ∧ (I_5 3649) = (I_5 3905) ∧ (I_5 3777) = (I_5 3905) ∧ 0 ≤ (I_5 3905) ∧ (I_5 3905) ≤ 3 * (I_5 2774)) ∧ ((I_5 4161) = (I_5 4033) ∧ 7 ≤ (I_5 4289) ∧ (I_5 4289) ≤ (I_5 4033) ∧ (I_5 4033) ≤ 7 + (I_5 2774)) ∧ 0 ≤ (I_5 5889) ∧ (I_5 5889) ≤ (I_5 2774)) ∧ ((I_5 2754) = (I 2754) ∧ (I 2774) + 1 ≤ (I_5 2774) ∧ (I_5 2775) = (I 2775) ∧ (I_5 4289) = (I 4289) + 0 ∧ (I_5 5889) = (I 5889)) ∧ ((I_5 3905) + 2 ≤ (I 3905) + 3 * ((I_5 2774) - (I 2774)) ∧ (I 3905) ≤ y5_1 ∧ y5_1 + 1 = (I_5 3905) ∧ (I 4033) ≤ (I_5 4033) ∧ (I_5 4033) ≤ (I 4033) + ((I_5 2774) - (I 2774))) by (repeat' apply And.intro) <;> first | assumption | omega), (show m_SC I_5 A_5 by exact hi5_2), (show m_TR lo_5 I_5 A_5 by exact hi5_3), (show m_ST lo I A lo_5 I_5 A_5 by exact hi5_4), (show t_E ((A_5 53) (y5_1)) by exact (hi5_6).2), (show m_rt lo_5 (I_5 3905) y5_1 by exact (fun q h1 h2 => by omega)), (show m_RK lo_5 (I 3905) (I_5 3905) (8 * (24 - (I 2775)) + 2) by exact m_RK_le (show m_RK lo_5 (I 3905) (I_5 3905) (8 * (24 - (I 2775)) + (2)) from hi5_7) (show (8 * (24 - (I 2775)) + (2)) ≤ 8 * (24 - (I 2775)) + 2 by omega))⟩
    refine w_ls (ls := [(0, .ref 43), (1, .int (Int32.ofInt (v4)))]) (show List.Nodup [0, 1] by decide) (show List.Nodup [1, 0] by decide) (List.forall_mem_cons.mpr ⟨(List.Mem.tail _ (List.Mem.head _)), (List.forall_mem_cons.mpr ⟨(List.Mem.head _), (fun _ h => by cases h)⟩)⟩) ?_
    exact lp5 (((I3a 2754) - (I3a 2774)).toNat + 1) lo5 (v4) I3a A3a B3a C3a M2 hR3a ⟨by omega, by omega⟩ (show ((0 ≤ (I3a 2774) ∧ (I3a 2774) < (I3a 2754) ∧ (I3a 2754) ≤ 1501 ∧ 0 ≤ (I3a 2775) ∧ (I3a 2775) ≤ 24) ∧ ((I3a 3393) = (I3a 3905) ∧ (I3a 3521) = (I3a 3905) ∧ (I3a 3649) = (I3a 3905) ∧ (I3a 3777) = (I3a 3905) ∧ 0 ≤ (I3a 3905) ∧ (I3a 3905) ≤ 3 * (I3a 2774)) ∧ ((I3a 4161) = (I3a 4033) ∧ 7 ≤ (I3a 4289) ∧ (I3a 4289) ≤ (I3a 4033) ∧ (I3a 4033) ≤ 7 + (I3a 2774)) ∧ 0 ≤ (I3a 5889) ∧ (I3a 5889) ≤ (I3a 2774)) ∧ ((I3a 2754) = (I 2754) ∧ (I 2774) + 1 ≤ (I3a 2774) ∧ (I3a 2775) = (I 2775) ∧ (I3a 4289) = (I 4289) + 0 ∧ (I3a 5889) = (I 5889)) ∧ ((I3a 3905) + 2 ≤ (I 3905) + 3 * ((I3a 2774) - (I 2774)) ∧ (I 3905) ≤ v4 ∧ v4 + 1 = (I3a 3905) ∧ (I 4033) ≤ (I3a 4033) ∧ (I3a 4033) ≤ (I 4033) + ((I3a 2774) - (I 2774))) by (repeat' apply And.intro) <;> first | assumption | omega) (show m_TK I3a A3a by exact tk46) (show m_SC I3a A3a by exact f11) (show m_TR lo5 I3a A3a by exact f12) (show m_ST lo I A lo5 I3a A3a by exact s50) (show m_fx I A I3a A3a by exact f9) (show m_kd lo5 I3a A3a (I 3905) (8 * (24 - (I 2775)) + (2)) v4 t_E by exact m_kd_l k52 (by omega) (by omega) (by omega)) (show m_RK lo5 (I 3905) (I3a 3905) (8 * (24 - (I 2775)) + (2)) by exact m_RK_le (show m_RK lo5 (I 3905) (I3a 3905) (8 * (24 - (I 2775)) + (1)) from rk51) (show (8 * (24 - (I 2775)) + (1)) ≤ (8 * (24 - (I 2775)) + (2)) by omega)) (show (fun k => k = 9 ∨ k = 10) ((A3a 53) (v4)) ∨ (lo5 v4).2 < (8 * (24 - (I 2775)) + (2)) by exact Or.inr (by have q := k52.1; omega)) (by omega)
  · rw [e17]
    replace hR3b : w_Rep w_TM fr X u l I3b A3b B3b C3b M2 := hR3b
    replace f18 : m_fx I A I3b A3b := f18
    exact Or.inr (⟨I3b, A3b, B3b, C3b, rfl, hR3b, (show m_fx I A I3b A3b by exact f18)⟩)
