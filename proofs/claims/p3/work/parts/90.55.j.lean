/-! m_body -/
set_option maxHeartbeats 100000000 in
set_option maxRecDepth 100000 in
theorem m_body {L : Nat} {xs : Nat → Int32} {d : Nat} {fr : Nat → Bool} {X : Nat → Option (q_C (Nat → Int32))} {u l : Nat} {I : Nat → Int} {A : Nat → Int → Int} {B C : Nat → Nat} {M : w_M} {N : Int} (hA : m_all L xs N) (lo : Int → Int × Int) (hR : w_Rep w_TM fr X u l I A B C M) (hd : 20 * (24 - (I 2775)) + 19 ≤ (d : Int)) (hTK : m_TK I A) (hNU : (0 ≤ (I 2774) ∧ (I 2774) < (I 2754) ∧ (I 2754) ≤ 1501 ∧ 0 ≤ (I 2775) ∧ (I 2775) ≤ 24) ∧ ((I 3393) = (I 3905) ∧ (I 3521) = (I 3905) ∧ (I 3649) = (I 3905) ∧ (I 3777) = (I 3905) ∧ 0 ≤ (I 3905) ∧ (I 3905) ≤ 3 * (I 2774)) ∧ ((I 4161) = (I 4033) ∧ 7 ≤ (I 4289) ∧ (I 4289) ≤ (I 4033) ∧ (I 4033) ≤ 7 + (I 2774)) ∧ 0 ≤ (I 5889) ∧ (I 5889) ≤ (I 2774)) (hSC : m_SC I A) (hTR : m_TR lo I A) (hm : (I 2754) - (I 2774) ≤ N) : w_W (z_P L xs) d 227 (0, [(0, .ref 43)], [], M) (m_body_Q fr X u l I A B C M lo) := by
  obtain ⟨d, rfl⟩ : ∃ d0, d = d0 + 1 := ⟨d - 1, by omega⟩
  refine w_adv (n := 1) (F' := (1, [(0, .ref 43)], [.ref 43], M)) rfl ?_
  refine w_call (cm := 228) (as := [(0, .ref 43)]) (rest := []) (o := some (9, 43)) rfl (w_fitR hR rfl) (m_beginsItem hR (show 4 ≤ d by omega) (show m_TK I A by exact hTK) (show (0 ≤ (I 2774) ∧ (I 2774) < (I 2754) ∧ (I 2754) ≤ 1501 ∧ 0 ≤ (I 2775) ∧ (I 2775) ≤ 24) ∧ ((I 3393) = (I 3905) ∧ (I 3521) = (I 3905) ∧ (I 3649) = (I 3905) ∧ (I 3777) = (I 3905) ∧ 0 ≤ (I 3905) ∧ (I 3905) ≤ 3 * (I 2774)) ∧ ((I 4161) = (I 4033) ∧ 7 ≤ (I 4289) ∧ (I 4289) ≤ (I 4033) ∧ (I 4033) ≤ 7 + (I 2774)) ∧ 0 ≤ (I 5889) ∧ (I 5889) ≤ (I 2774) by (repeat' apply And.intro) <;> first | assumption | omega)) (fun r1 M2 q3 => ?_)
  rcases q3 with ⟨e4, e5, f6, f7⟩ | ⟨e8, e9, f10⟩
  · rw [e4, e5]
    replace f6 : 1 ≤ (A 45) ((I 2774)) ∧ (A 45) ((I 2774)) ≤ 6 := f6
    obtain ⟨n11, n12⟩ := id f6
    clear f6
    replace f7 : m_bi ((A 45) ((I 2774))) ((A 46) ((I 2774))) := f7
    have w13 : (I 2774) + 1 < (I 2754) := m_TK_lt hTK (show (I 2774) < (I 2754) by omega) (show 1 ≤ (A 45) ((I 2774)) by omega) (show (A 45) ((I 2774)) ≤ 6 by omega)
    skip
    show w_W _ _ _ (4, [(0, .ref 43)], [.int (Int32.ofInt (1))], M) _
    refine w_adv (n := 5) (F' := (16, [(2, .int (Int32.ofInt ((-1)))), (1, .int (Int32.ofInt ((-1)))), (0, .ref 43)], [], M)) rfl ?_
    have lp16 : ∀ fu : Nat, ∀ (lo_16 : Int → Int × Int) (y16_1 : Int) (y16_2 : Int) (I_16 : Nat → Int) (A_16 : Nat → Int → Int) (B_16 C_16 : Nat → Nat) (M_16 : w_M) (hR_16 : w_Rep w_TM fr X u l I_16 A_16 B_16 C_16 M_16), w_in y16_1 → w_in y16_2 → (0 ≤ (I_16 2774) ∧ (I_16 2774) < (I_16 2754) ∧ (I_16 2754) ≤ 1501 ∧ 0 ≤ (I_16 2775) ∧ (I_16 2775) ≤ 24) ∧ ((I_16 3393) = (I_16 3905) ∧ (I_16 3521) = (I_16 3905) ∧ (I_16 3649) = (I_16 3905) ∧ (I_16 3777) = (I_16 3905) ∧ 0 ≤ (I_16 3905) ∧ (I_16 3905) ≤ 3 * (I_16 2774)) ∧ ((I_16 4161) = (I_16 4033) ∧ 7 ≤ (I_16 4289) ∧ (I_16 4289) ≤ (I_16 4033) ∧ (I_16 4033) ≤ 7 + (I_16 2774)) ∧ 0 ≤ (I_16 5889) ∧ (I_16 5889) ≤ (I_16 2774) → ((I_16 2754) = (I 2754) ∧ (I 2774) ≤ (I_16 2774) ∧ (I_16 2775) = (I 2775) ∧ (I_16 4289) = (I 4289) + 0 ∧ (I_16 5889) = (I 5889)) ∧ ((I_16 3905) + 0 ≤ (I 3905) + 3 * ((I_16 2774) - (I 2774)) ∧ (I 3905) ≤ (I_16 3905) ∧ (I 4033) ≤ (I_16 4033) ∧ (I_16 4033) ≤ (I 4033) + ((I_16 2774) - (I 2774))) → m_TK I_16 A_16 → m_SC I_16 A_16 → m_TR lo_16 I_16 A_16 → m_ST lo I A lo_16 I_16 A_16 → m_fx I A I_16 A_16 → m_LK lo_16 I_16 A_16 (I 3905) (8 * (24 - (I 2775)) + (6)) (I_16 3905) y16_1 y16_2 t_I → m_RK lo_16 (I 3905) (I_16 3905) (8 * (24 - (I 2775)) + (6)) → (y16_1 = -1 ∧ (I_16 2774) = (I 2774)) ∨ (0 ≤ y16_1 ∧ (I_16 3905) + 2 ≤ (I 3905) + 3 * ((I_16 2774) - (I 2774)) ∧ (I 2774) + 1 ≤ (I_16 2774)) → (I_16 2754) - (I_16 2774) < (fu : Int) → w_W (z_P L xs) (d + 1) 227 (16, [(0, .ref 43), (1, .int (Int32.ofInt (y16_1))), (2, .int (Int32.ofInt (y16_2)))], [], M_16) (m_body_Q fr X u l I A B C M lo) := by
      intro fu
      induction fu with
      | zero =>
        intro lo_16 y16_1 y16_2 I_16 A_16 B_16 C_16 M_16 hR_16 ⟨ra_y16_1, rb_y16_1⟩ ⟨ra_y16_2, rb_y16_2⟩ hi16_0 hi16_1 hi16_2 hi16_3 hi16_4 hi16_5 hi16_6 hi16_7 hi16_8 hi16_9 hn16
        exfalso
        omega
      | succ fu ih16 =>
        intro lo_16 y16_1 y16_2 I_16 A_16 B_16 C_16 M_16 hR_16 ⟨ra_y16_1, rb_y16_1⟩ ⟨ra_y16_2, rb_y16_2⟩ hi16_0 hi16_1 hi16_2 hi16_3 hi16_4 hi16_5 hi16_6 hi16_7 hi16_8 hi16_9 hn16
        obtain ⟨⟨n14, n15, n16, n17, n18⟩, ⟨n19, n20, n21, n22, n23, n24⟩, ⟨n25, n26, n27, n28⟩, n29, n30⟩ := hi16_0
        obtain ⟨⟨n31, n32, n33, n34, n35⟩, ⟨n36, n37, n38, n39⟩⟩ := hi16_1
        have b40 : -1 ≤ y16_1 ∧ y16_1 < (I_16 3905) ∧ -1 ≤ y16_2 ∧ y16_2 < (I_16 3905) ∧ (y16_1 < 0 ∨ 0 ≤ y16_2) := Or.elim hi16_7 (fun q => by omega) (fun q => by have := q.2.2.1.1; have := q.2.2.2.1.1; omega)
        refine w_adv (n := 1) (F' := (17, [(0, .ref 43), (1, .int (Int32.ofInt (y16_1))), (2, .int (Int32.ofInt (y16_2)))], [.ref 43], M_16)) rfl ?_
        refine w_call (cm := 228) (as := [(0, .ref 43)]) (rest := []) (o := some (9, 43)) rfl (w_fitR hR_16 rfl) (m_beginsItem hR_16 (show 4 ≤ d by omega) (show m_TK I_16 A_16 by exact hi16_2) (show (0 ≤ (I_16 2774) ∧ (I_16 2774) < (I_16 2754) ∧ (I_16 2754) ≤ 1501 ∧ 0 ≤ (I_16 2775) ∧ (I_16 2775) ≤ 24) ∧ ((I_16 3393) = (I_16 3905) ∧ (I_16 3521) = (I_16 3905) ∧ (I_16 3649) = (I_16 3905) ∧ (I_16 3777) = (I_16 3905) ∧ 0 ≤ (I_16 3905) ∧ (I_16 3905) ≤ 3 * (I_16 2774)) ∧ ((I_16 4161) = (I_16 4033) ∧ 7 ≤ (I_16 4289) ∧ (I_16 4289) ≤ (I_16 4033) ∧ (I_16 4033) ≤ 7 + (I_16 2774)) ∧ 0 ≤ (I_16 5889) ∧ (I_16 5889) ≤ (I_16 2774) by (repeat' apply And.intro) <;> first | assumption | omega)) (fun r41 M42 q43 => ?_)
        rcases q43 with ⟨e44, e45, f46, f47⟩ | ⟨e48, e49, f50⟩
        · rw [e44, e45]
          replace f46 : 1 ≤ (A_16 45) ((I_16 2774)) ∧ (A_16 45) ((I_16 2774)) ≤ 6 := f46
          obtain ⟨n51, n52⟩ := id f46
          clear f46
          replace f47 : m_bi ((A_16 45) ((I_16 2774))) ((A_16 46) ((I_16 2774))) := f47
          have w53 : (I_16 2774) + 1 < (I_16 2754) := m_TK_lt hi16_2 (show (I_16 2774) < (I_16 2754) by omega) (show 1 ≤ (A_16 45) ((I_16 2774)) by omega) (show (A_16 45) ((I_16 2774)) ≤ 6 by omega)
          skip
          show w_W _ _ _ (20, [(0, .ref 43), (1, .int (Int32.ofInt (y16_1))), (2, .int (Int32.ofInt (y16_2)))], [.int (Int32.ofInt (1))], M_16) _
          refine w_adv (n := 2) (F' := (24, [(0, .ref 43), (1, .int (Int32.ofInt (y16_1))), (2, .int (Int32.ofInt (y16_2)))], [.ref 43], M_16)) rfl ?_
          refine w_call (cm := 233) (as := [(0, .ref 43)]) (rest := []) (o := some (9, 43)) rfl (w_fitR hR_16 rfl) (m_item hA (lo_16) hR_16 (show 20 * (24 - (I_16 2775)) + 18 ≤ (d : Int) by omega) (show m_TK I_16 A_16 by exact hi16_2) (show (0 ≤ (I_16 2774) ∧ (I_16 2774) < (I_16 2754) ∧ (I_16 2754) ≤ 1501 ∧ 0 ≤ (I_16 2775) ∧ (I_16 2775) ≤ 24) ∧ ((I_16 3393) = (I_16 3905) ∧ (I_16 3521) = (I_16 3905) ∧ (I_16 3649) = (I_16 3905) ∧ (I_16 3777) = (I_16 3905) ∧ 0 ≤ (I_16 3905) ∧ (I_16 3905) ≤ 3 * (I_16 2774)) ∧ ((I_16 4161) = (I_16 4033) ∧ 7 ≤ (I_16 4289) ∧ (I_16 4289) ≤ (I_16 4033) ∧ (I_16 4033) ≤ 7 + (I_16 2774)) ∧ 0 ≤ (I_16 5889) ∧ (I_16 5889) ≤ (I_16 2774) by (repeat' apply And.intro) <;> first | assumption | omega) (show m_SC I_16 A_16 by exact hi16_3) (show m_TR lo_16 I_16 A_16 by exact hi16_4) (show (I_16 2754) - (I_16 2774) ≤ N by first | assumption | omega)) (fun r54 M55 q56 => ?_)
          rcases q56 with ⟨v57, lo58, I56a, A56a, B56a, C56a, e59, ⟨r60, r61⟩, hR56a, f62, f63, f64, f65, f66, f67, f68, f69⟩ | ⟨I56b, A56b, B56b, C56b, e70, hR56b, f71⟩
          · rw [e59]
            replace hR56a : w_Rep w_TM fr X u l I56a A56a B56a C56a M55 := hR56a
            replace f62 : m_fx I_16 A_16 I56a A56a := f62
            replace f63 : ((0 ≤ (I56a 2774) ∧ (I56a 2774) < (I56a 2754) ∧ (I56a 2754) ≤ 1501 ∧ 0 ≤ (I56a 2775) ∧ (I56a 2775) ≤ 24) ∧ ((I56a 3393) = (I56a 3905) ∧ (I56a 3521) = (I56a 3905) ∧ (I56a 3649) = (I56a 3905) ∧ (I56a 3777) = (I56a 3905) ∧ 0 ≤ (I56a 3905) ∧ (I56a 3905) ≤ 3 * (I56a 2774)) ∧ ((I56a 4161) = (I56a 4033) ∧ 7 ≤ (I56a 4289) ∧ (I56a 4289) ≤ (I56a 4033) ∧ (I56a 4033) ≤ 7 + (I56a 2774)) ∧ 0 ≤ (I56a 5889) ∧ (I56a 5889) ≤ (I56a 2774)) ∧ ((I56a 2754) = (I_16 2754) ∧ (I_16 2774) + 1 ≤ (I56a 2774) ∧ (I56a 2775) = (I_16 2775) ∧ (I56a 4289) = (I_16 4289) + 0 ∧ (I56a 5889) = (I_16 5889)) ∧ ((I56a 3905) + 2 ≤ (I_16 3905) + 3 * ((I56a 2774) - (I_16 2774)) ∧ (I_16 3905) ≤ v57 ∧ v57 + 1 = (I56a 3905) ∧ (I_16 4033) ≤ (I56a 4033) ∧ (I56a 4033) ≤ (I_16 4033) + ((I56a 2774) - (I_16 2774))) := f63
            obtain ⟨⟨⟨n72, n73, n74, n75, n76⟩, ⟨n77, n78, n79, n80, n81, n82⟩, ⟨n83, n84, n85, n86⟩, n87, n88⟩, ⟨n89, n90, n91, n92, n93⟩, ⟨n94, n95, n96, n97, n98⟩⟩ := id f63
            clear f63
            replace f64 : m_SC I56a A56a := f64
            replace f65 : m_TR lo58 I56a A56a := f65
            replace f66 : m_ST lo_16 I_16 A_16 lo58 I56a A56a := f66
            replace f67 : t_I ((A56a 53) (v57)) := f67
            replace f68 : m_rt lo58 (I56a 3905) v57 := f68
            replace f69 : m_RK lo58 (I_16 3905) (I56a 3905) (8 * (24 - (I_16 2775)) + 6) := f69
            have tk99 : m_TK I56a A56a := m_TK_fx f62 hi16_2
            have nn100 : (I_16 3905) ≤ (I56a 3905) := by omega
            have nz101 : 0 ≤ (I_16 3905) := by first | assumption | omega
            have ho102 : (I_16 2775) = (I 2775) + (0) := by omega
            have rk104 : m_RK lo58 (I 3905) (I56a 3905) (8 * (24 - (I 2775)) + (6)) := m_RK_app (I := I_16) (I' := I56a) (R := (8 * (24 - (I 2775)) + (6))) (show m_RK lo_16 (I 3905) (I_16 3905) (8 * (24 - (I 2775)) + (6)) from hi16_8) f66 f69 (show 0 ≤ (I 3905) by first | assumption | omega) (m_r8 (by decide)) (m_r8o (k := 0) ho102 (by decide))
            have s103 : m_ST lo I A lo58 I56a A56a := m_ST_trans (show m_ST lo I A lo_16 I_16 A_16 from hi16_5) f66 (show 0 ≤ (I 3905) by first | assumption | omega) (show (I 3905) ≤ (I_16 3905) by first | assumption | omega) (show (I 4289) ≤ (I_16 4289) by first | assumption | omega) (show (I 5889) ≤ (I_16 5889) by first | assumption | omega)
            have rk106 : m_RK lo58 (I_16 3905) (I56a 3905) (8 * (24 - (I 2775)) + (6)) := m_RK_app (I := I_16) (I' := I56a) (R := (8 * (24 - (I 2775)) + (6))) (show m_RK lo_16 (I_16 3905) (I_16 3905) (8 * (24 - (I 2775)) + (6)) from fun q q1 q2 => by omega) f66 f69 (show 0 ≤ (I_16 3905) by first | assumption | omega) (m_r8 (by decide)) (m_r8o (k := 0) ho102 (by decide))
            have s105 : m_ST lo_16 I_16 A_16 lo58 I56a A56a := f66
            have lk107 : m_LK lo58 I56a A56a (I 3905) (8 * (24 - (I 2775)) + (6)) (I_16 3905) y16_1 y16_2 t_I := m_LK_ST f66 nn100 hi16_7
            have k108 : m_kd lo58 I56a A56a (I_16 3905) (8 * (24 - (I_16 2775)) + 6) v57 t_I := m_kd_of (I := I_16) f66 f65 nz101 (show (I_16 3905) ≤ v57 by first | assumption | omega) (show v57 < (I56a 3905) by omega) f67 f69
            obtain ⟨j109, j110, j111, j112, j113⟩ := k108.1
            show w_W _ _ _ (27, [(0, .ref 43), (1, .int (Int32.ofInt (y16_1))), (2, .int (Int32.ofInt (y16_2)))], [.int (Int32.ofInt (v57))], M55) _
            refine w_adv (n := 5) (F' := (32, [(3, .int (Int32.ofInt (v57))), (0, .ref 43), (1, .int (Int32.ofInt (y16_1))), (2, .int (Int32.ofInt (y16_2)))], [.int (Int32.ofInt (v57)), .int (Int32.ofInt (y16_2)), .int (Int32.ofInt (y16_1)), .ref 43], M55)) rfl ?_
            refine w_call (cm := 240) (as := [(0, .ref 43), (1, .int (Int32.ofInt (y16_1))), (2, .int (Int32.ofInt (y16_2))), (3, .int (Int32.ofInt (v57)))]) (rest := []) (o := some (9, 43)) rfl (w_fitR hR56a rfl) (m_linkK (y16_1) (y16_2) (v57) (lo58) ((I 3905)) ((8 * (24 - (I 2775)) + (6))) ((I_16 3905)) ((I_16 3905)) ((8 * (24 - (I_16 2775)) + 6)) (t_I) hR56a ⟨by omega, by omega⟩ ⟨by omega, by omega⟩ ⟨by omega, by omega⟩ (show m_LK lo58 I56a A56a (I 3905) ((8 * (24 - (I 2775)) + (6))) (I_16 3905) y16_1 y16_2 t_I by exact lk107) (show m_kd lo58 I56a A56a (I_16 3905) ((8 * (24 - (I_16 2775)) + 6)) v57 t_I by exact k108) (show m_rt lo58 (I56a 3905) v57 by exact f68) (show m_TR lo58 I56a A56a by exact f65) (show 0 ≤ (I 3905) ∧ (I 3905) ≤ (I_16 3905) ∧ (I_16 3905) ≤ (I_16 3905) ∧ (8 * (24 - (I_16 2775)) + 6) ≤ (8 * (24 - (I 2775)) + (6)) by refine ⟨by omega, by omega, by omega, by omega⟩) (show ∀ k k', t_I k → t_I k' → t_L k k' by exact fun k k' h1 h2 => Or.inr ⟨h1, h2⟩)) (fun r114 M115 q116 => ?_)
            rcases q116 with ⟨v117, g61118, e119, ⟨r120, r121⟩, hR116a, f122, f123, f124, f125⟩
            rw [e119]
            replace hR116a : w_Rep w_TM fr X u l I56a (w_upF A56a 61 g61118) B56a C56a M115 := hR116a
            replace f122 : m_TR lo58 I56a (w_upF A56a 61 g61118) := f122
            replace f123 : m_LK lo58 I56a (w_upF A56a 61 g61118) (I 3905) ((8 * (24 - (I 2775)) + (6))) (I56a 3905) v117 v57 t_I := f123
            replace f124 : ∀ (lo0 : Int → Int × Int) (I0 : Nat → Int) (A0 : Nat → Int → Int), m_ST lo0 I0 A0 lo58 I56a A56a → I0 3905 ≤ (I 3905) → m_ST lo0 I0 A0 lo58 I56a (w_upF A56a 61 g61118) := f124
            replace f125 : 0 ≤ v117 ∧ v117 < (I56a 3905) := f125
            obtain ⟨n126, n127⟩ := id f125
            clear f125
            have s128 : m_ST lo I A lo58 I56a (w_upF A56a 61 g61118) := f124 _ _ _ (show m_ST lo I A lo58 I56a A56a from s103) (show (I 3905) ≤ (I 3905) by omega)
            obtain ⟨g129, g130, g131, g132, g133, g134⟩ := f123.resolve_left (fun q => by omega)
            obtain ⟨j135, j136, j137, j138, j139⟩ := g131.1
            obtain ⟨j140, j141, j142, j143, j144⟩ := g132.1
            show w_W _ _ _ (35, [(3, .int (Int32.ofInt (v57))), (0, .ref 43), (1, .int (Int32.ofInt (y16_1))), (2, .int (Int32.ofInt (y16_2)))], [.int (Int32.ofInt (v117))], M115) _
            refine w_adv (n := 4) (F' := (16, [(2, .int (Int32.ofInt (v57))), (1, .int (Int32.ofInt (v117))), (3, .int (Int32.ofInt (v57))), (0, .ref 43)], [], M115)) rfl ?_
            refine w_ls (ls := [(0, .ref 43), (1, .int (Int32.ofInt (v117))), (2, .int (Int32.ofInt (v57)))]) (show List.Nodup [0, 1, 2] by decide) (show List.Nodup [2, 1, 3, 0] by decide) (List.forall_mem_cons.mpr ⟨(List.Mem.tail _ (List.Mem.tail _ (List.Mem.tail _ (List.Mem.head _)))), (List.forall_mem_cons.mpr ⟨(List.Mem.tail _ (List.Mem.head _)), (List.forall_mem_cons.mpr ⟨(List.Mem.head _), (fun _ h => by cases h)⟩)⟩)⟩) ?_
            exact ih16 lo58 (v117) (v57) I56a (w_upF A56a 61 g61118) B56a C56a M115 hR116a ⟨by omega, by omega⟩ ⟨by omega, by omega⟩ (show (0 ≤ (I56a 2774) ∧ (I56a 2774) < (I56a 2754) ∧ (I56a 2754) ≤ 1501 ∧ 0 ≤ (I56a 2775) ∧ (I56a 2775) ≤ 24) ∧ ((I56a 3393) = (I56a 3905) ∧ (I56a 3521) = (I56a 3905) ∧ (I56a 3649) = (I56a 3905) ∧ (I56a 3777) = (I56a 3905) ∧ 0 ≤ (I56a 3905) ∧ (I56a 3905) ≤ 3 * (I56a 2774)) ∧ ((I56a 4161) = (I56a 4033) ∧ 7 ≤ (I56a 4289) ∧ (I56a 4289) ≤ (I56a 4033) ∧ (I56a 4033) ≤ 7 + (I56a 2774)) ∧ 0 ≤ (I56a 5889) ∧ (I56a 5889) ≤ (I56a 2774) by (repeat' apply And.intro) <;> first | assumption | omega) (show ((I56a 2754) = (I 2754) ∧ (I 2774) ≤ (I56a 2774) ∧ (I56a 2775) = (I 2775) ∧ (I56a 4289) = (I 4289) + 0 ∧ (I56a 5889) = (I 5889)) ∧ ((I56a 3905) + 0 ≤ (I 3905) + 3 * ((I56a 2774) - (I 2774)) ∧ (I 3905) ≤ (I56a 3905) ∧ (I 4033) ≤ (I56a 4033) ∧ (I56a 4033) ≤ (I 4033) + ((I56a 2774) - (I 2774))) by (repeat' apply And.intro) <;> first | assumption | omega) (show m_TK I56a (w_upF A56a 61 g61118) by exact (show m_TK I56a (w_upF A56a 61 g61118) from tk99)) (show m_SC I56a (w_upF A56a 61 g61118) by exact (show m_SC I56a (w_upF A56a 61 g61118) from f64)) (show m_TR lo58 I56a (w_upF A56a 61 g61118) by exact f122) (show m_ST lo I A lo58 I56a (w_upF A56a 61 g61118) by exact s128) (show m_fx I A I56a (w_upF A56a 61 g61118) by exact (show m_fx I A I56a (w_upF A56a 61 g61118) from (m_fx_trans hi16_6 f62))) (show m_LK lo58 I56a (w_upF A56a 61 g61118) (I 3905) (8 * (24 - (I 2775)) + (6)) (I56a 3905) v117 v57 t_I by exact f123) (show m_RK lo58 (I 3905) (I56a 3905) (8 * (24 - (I 2775)) + (6)) by exact m_RK_le (show m_RK lo58 (I 3905) (I56a 3905) (8 * (24 - (I 2775)) + (6)) from rk104) (show (8 * (24 - (I 2775)) + (6)) ≤ (8 * (24 - (I 2775)) + (6)) by omega)) (show (v117 = -1 ∧ (I56a 2774) = (I 2774)) ∨ (0 ≤ v117 ∧ (I56a 3905) + 2 ≤ (I 3905) + 3 * ((I56a 2774) - (I 2774)) ∧ (I 2774) + 1 ≤ (I56a 2774)) by omega) (show (I56a 2754) - (I56a 2774) < (fu : Int) by omega)
          · rw [e70]
            replace hR56b : w_Rep w_TM fr X u l I56b A56b B56b C56b M55 := hR56b
            replace f71 : m_fx I_16 A_16 I56b A56b := f71
            exact Or.inr (⟨I56b, A56b, B56b, C56b, rfl, hR56b, (show m_fx I A I56b A56b by exact (m_fx_trans hi16_6 f71))⟩)
        · rw [e48, e49]
          replace f50 : ¬ m_bi ((A_16 45) ((I_16 2774))) ((A_16 46) ((I_16 2774))) := f50
          have hf0 : 0 ≤ y16_1 := by
            rcases hi16_9 with ⟨q1, q2⟩ | q
            · exact absurd f7 (by have q1 := hi16_6.2.2.1; have q2 := hi16_6.2.2.2.1; have q3 : (I_16 2774) = (I 2774) := (by omega); have q4 := f50; rw [q1, q2, q3] at q4; exact q4)
            · exact q.1
          obtain ⟨bk1, bk2, bk3, bk4, bk5, bk6⟩ := hi16_7.resolve_left (fun q => by omega)
          obtain ⟨bj1, bj2, bj3, bj4, bj5⟩ := bk3.1
          show w_W _ _ _ (20, [(0, .ref 43), (1, .int (Int32.ofInt (y16_1))), (2, .int (Int32.ofInt (y16_2)))], [.int (Int32.ofInt (0))], M_16) _
          refine w_adv (n := 6) (F' := (47, [(0, .ref 43), (1, .int (Int32.ofInt (y16_1))), (2, .int (Int32.ofInt (y16_2)))], [.int (Int32.ofInt (0)), .int (Int32.ofInt (0)), .int (Int32.ofInt (y16_1)), .int (Int32.ofInt (25)), .ref 43], M_16)) rfl ?_
          refine w_call (cm := 239) (as := [(0, .ref 43), (1, .int (Int32.ofInt (25))), (2, .int (Int32.ofInt (y16_1))), (3, .int (Int32.ofInt (0))), (4, .int (Int32.ofInt (0)))]) (rest := []) (o := some (9, 43)) rfl (w_fitR hR_16 rfl) (m_node (25) (y16_1) (0) (0) hR_16 (show 2 ≤ d by omega) ⟨by omega, by omega⟩ ⟨by omega, by omega⟩ ⟨by omega, by omega⟩ ⟨by omega, by omega⟩ (show (I_16 3393) = (I_16 3905) by first | assumption | omega) (show (I_16 3521) = (I_16 3905) by first | assumption | omega) (show (I_16 3649) = (I_16 3905) by first | assumption | omega) (show (I_16 3777) = (I_16 3905) by first | assumption | omega) (show (I_16 3905) < 65536 by first | assumption | omega)) (fun r145 M146 q147 => ?_)
          rcases q147 with ⟨v148, I147a, A147a, B147a, C147a, e149, ⟨r150, r151⟩, hR147a, f152, f153⟩
          rw [e149]
          replace hR147a : w_Rep w_TM fr X u l I147a A147a B147a C147a M146 := hR147a
          replace f152 : m_fx I_16 A_16 I147a A147a := f152
          replace f153 : m_nd I_16 A_16 I147a A147a v148 25 y16_1 0 0 := f153
          obtain ⟨⟨n154, n155, n156, n157, n158, n159⟩, ⟨n160, n161, n162, n163, n164, n165, n166⟩⟩ : (v148 = (I_16 3905) ∧ (I147a 3905) = (I_16 3905) + 1 ∧ (I147a 3393) = (I_16 3393) + 1 ∧ (I147a 3521) = (I_16 3521) + 1 ∧ (I147a 3649) = (I_16 3649) + 1 ∧ (I147a 3777) = (I_16 3777) + 1) ∧ ((I147a 2774) = (I_16 2774) ∧ (I147a 2754) = (I_16 2754) ∧ (I147a 2775) = (I_16 2775) ∧ (I147a 4289) = (I_16 4289) ∧ (I147a 4033) = (I_16 4033) ∧ (I147a 4161) = (I_16 4161) ∧ (I147a 5889) = (I_16 5889)) := m_nd_num f153
          have tk167 : m_TK I147a A147a := m_TK_fx f152 hi16_2
          have sc168 : m_SC I147a A147a := m_SC_nd f153 hi16_3
          have tr169 : m_TR (t_up lo_16 v148 (I 3905) (8 * (24 - (I 2775)) + (7))) I147a A147a := m_TR_nd (show m_TR lo_16 I_16 A_16 from hi16_4) f153 (show 0 ≤ (I 3905) by omega) (show (I 3905) ≤ v148 by omega) (m_cl_ST (I1 := I) (show m_ST lo I A lo_16 I_16 A_16 from hi16_5) (show m_TR lo I A from hTR) (show 0 ≤ (I 3905) by omega)) (t_N_mk25 t_up_same (show 0 ≤ (I 3905) by omega) (show (I 3905) ≤ v148 by omega) (show 0 ≤ (8 * (24 - (I 2775)) + (7)) by omega) (m_hw (show m_RK lo_16 (I 3905) v148 (8 * (24 - (I 2775)) + (6)) from fun q q1 q2 => (show m_RK lo_16 (I 3905) (I_16 3905) (8 * (24 - (I 2775)) + (6)) from hi16_8) q (show (I 3905) ≤ q by omega) (show q < (I_16 3905) by omega)) (m_r8l (by decide))) (m_ch f153 (show (I 3905) ≤ (I 3905) by omega) (show m_kd lo_16 I_16 A_16 (I 3905) (8 * (24 - (I 2775)) + (6)) y16_1 t_I from bk3)))
          have s170 : m_ST lo I A (t_up lo_16 v148 (I 3905) (8 * (24 - (I 2775)) + (7))) I147a A147a := m_ST_nd (l := (I 3905)) (show m_ST lo I A lo_16 I_16 A_16 from hi16_5) f153 (show (I 3905) ≤ (I 3905) by omega) (show (I 3905) ≤ (I_16 3905) by omega)
          have rk171 : m_RK (t_up lo_16 v148 (I 3905) (8 * (24 - (I 2775)) + (7))) (I 3905) (I147a 3905) (8 * (24 - (I 2775)) + (7)) := fun q q1 q2 => m_RK_nd (show m_RK lo_16 (I 3905) v148 (8 * (24 - (I 2775)) + (6)) from fun q q1 q2 => (show m_RK lo_16 (I 3905) (I_16 3905) (8 * (24 - (I 2775)) + (6)) from hi16_8) q q1 (show q < (I_16 3905) by omega)) (m_r8 (by decide)) (m_r8 (by decide)) q q1 (show q < v148 + 1 by omega)
          have k172 : m_kd (t_up lo_16 v148 (I 3905) (8 * (24 - (I 2775)) + (7))) I147a A147a (I 3905) (8 * (24 - (I 2775)) + (7)) v148 (fun k => k = 25) := m_kd_new f153 (show 0 ≤ (I 3905) by omega) (show (I 3905) ≤ v148 by omega) rfl
          have rt173 : m_rt (t_up lo_16 v148 (I 3905) (8 * (24 - (I 2775)) + (7))) (I147a 3905) v148 := m_rt_new f153
          show w_W _ _ _ (50, [(0, .ref 43), (1, .int (Int32.ofInt (y16_1))), (2, .int (Int32.ofInt (y16_2)))], [.int (Int32.ofInt (v148))], M146) _
          refine w_fin (r := .inl (some (v148))) (M' := M146) rfl ?_
          exact Or.inl ⟨v148, (t_up lo_16 v148 (I 3905) (8 * (24 - (I 2775)) + (7))), I147a, A147a, B147a, C147a, rfl, ⟨by omega, by omega⟩, hR147a, (show m_fx I A I147a A147a by exact (m_fx_trans hi16_6 f152)), (show ((0 ≤ (I147a 2774) ∧ (I147a 2774) < (I147a 2754) ∧ (I147a 2754) ≤ 1501 ∧ 0 ≤ (I147a 2775) ∧ (I147a 2775) ≤ 24) ∧ ((I147a 3393) = (I147a 3905) ∧ (I147a 3521) = (I147a 3905) ∧ (I147a 3649) = (I147a 3905) ∧ (I147a 3777) = (I147a 3905) ∧ 0 ≤ (I147a 3905) ∧ (I147a 3905) ≤ 3 * (I147a 2774)) ∧ ((I147a 4161) = (I147a 4033) ∧ 7 ≤ (I147a 4289) ∧ (I147a 4289) ≤ (I147a 4033) ∧ (I147a 4033) ≤ 7 + (I147a 2774)) ∧ 0 ≤ (I147a 5889) ∧ (I147a 5889) ≤ (I147a 2774)) ∧ ((I147a 2754) = (I 2754) ∧ (I 2774) + 1 ≤ (I147a 2774) ∧ (I147a 2775) = (I 2775) ∧ (I147a 4289) = (I 4289) + 0 ∧ (I147a 5889) = (I 5889)) ∧ ((I147a 3905) + 1 ≤ (I 3905) + 3 * ((I147a 2774) - (I 2774)) ∧ (I 3905) ≤ v148 ∧ v148 + 1 = (I147a 3905) ∧ (I 4033) ≤ (I147a 4033) ∧ (I147a 4033) ≤ (I 4033) + ((I147a 2774) - (I 2774))) by (repeat' apply And.intro) <;> first | assumption | omega), (show m_SC I147a A147a by exact sc168), (show m_TR (t_up lo_16 v148 (I 3905) (8 * (24 - (I 2775)) + (7))) I147a A147a by exact tr169), (show m_ST lo I A (t_up lo_16 v148 (I 3905) (8 * (24 - (I 2775)) + (7))) I147a A147a by exact s170), (show (fun k => k = 25) ((A147a 53) (v148)) by exact (k172).2), (show m_rt (t_up lo_16 v148 (I 3905) (8 * (24 - (I 2775)) + (7))) (I147a 3905) v148 by exact rt173), (show m_RK (t_up lo_16 v148 (I 3905) (8 * (24 - (I 2775)) + (7))) (I 3905) (I147a 3905) (8 * (24 - (I 2775)) + 7) by exact m_RK_le (show m_RK (t_up lo_16 v148 (I 3905) (8 * (24 - (I 2775)) + (7))) (I 3905) (I147a 3905) (8 * (24 - (I 2775)) + (7)) from rk171) (show (8 * (24 - (I 2775)) + (7)) ≤ 8 * (24 - (I 2775)) + 7 by omega))⟩
    refine w_ls (ls := [(0, .ref 43), (1, .int (Int32.ofInt ((-1)))), (2, .int (Int32.ofInt ((-1))))]) (show List.Nodup [0, 1, 2] by decide) (show List.Nodup [2, 1, 0] by decide) (List.forall_mem_cons.mpr ⟨(List.Mem.tail _ (List.Mem.tail _ (List.Mem.head _))), (List.forall_mem_cons.mpr ⟨(List.Mem.tail _ (List.Mem.head _)), (List.forall_mem_cons.mpr ⟨(List.Mem.head _), (fun _ h => by cases h)⟩)⟩)⟩) ?_
    exact lp16 (((I 2754) - (I 2774)).toNat + 1) lo ((-1)) ((-1)) I A B C M hR ⟨by omega, by omega⟩ ⟨by omega, by omega⟩ (show (0 ≤ (I 2774) ∧ (I 2774) < (I 2754) ∧ (I 2754) ≤ 1501 ∧ 0 ≤ (I 2775) ∧ (I 2775) ≤ 24) ∧ ((I 3393) = (I 3905) ∧ (I 3521) = (I 3905) ∧ (I 3649) = (I 3905) ∧ (I 3777) = (I 3905) ∧ 0 ≤ (I 3905) ∧ (I 3905) ≤ 3 * (I 2774)) ∧ ((I 4161) = (I 4033) ∧ 7 ≤ (I 4289) ∧ (I 4289) ≤ (I 4033) ∧ (I 4033) ≤ 7 + (I 2774)) ∧ 0 ≤ (I 5889) ∧ (I 5889) ≤ (I 2774) by (repeat' apply And.intro) <;> first | assumption | omega) (show ((I 2754) = (I 2754) ∧ (I 2774) ≤ (I 2774) ∧ (I 2775) = (I 2775) ∧ (I 4289) = (I 4289) + 0 ∧ (I 5889) = (I 5889)) ∧ ((I 3905) + 0 ≤ (I 3905) + 3 * ((I 2774) - (I 2774)) ∧ (I 3905) ≤ (I 3905) ∧ (I 4033) ≤ (I 4033) ∧ (I 4033) ≤ (I 4033) + ((I 2774) - (I 2774))) by (repeat' apply And.intro) <;> first | assumption | omega) (show m_TK I A by exact hTK) (show m_SC I A by exact hSC) (show m_TR lo I A by exact hTR) (show m_ST lo I A lo I A by exact m_ST_refl) (show m_fx I A I A by exact m_fx_refl) (show m_LK lo I A (I 3905) (8 * (24 - (I 2775)) + (6)) (I 3905) (-1) (-1) t_I by exact Or.inl ⟨rfl, rfl⟩) (show m_RK lo (I 3905) (I 3905) (8 * (24 - (I 2775)) + (6)) by exact (fun q q1 q2 => by omega)) (show ((-1) = -1 ∧ (I 2774) = (I 2774)) ∨ (0 ≤ (-1) ∧ (I 3905) + 2 ≤ (I 3905) + 3 * ((I 2774) - (I 2774)) ∧ (I 2774) + 1 ≤ (I 2774)) by omega) (show (I 2754) - (I 2774) < ((((I 2754) - (I 2774)).toNat + 1 : Nat) : Int) by omega)
  · rw [e8, e9]
    replace f10 : ¬ m_bi ((A 45) ((I 2774))) ((A 46) ((I 2774))) := f10
    skip
    show w_W _ _ _ (4, [(0, .ref 43)], [.int (Int32.ofInt (0))], M) _
    refine w_adv (n := 3) (F' := (9, [(0, .ref 43)], [.int (Int32.ofInt (1)), .ref 43], M)) rfl ?_
    refine w_call (cm := 232) (as := [(0, .ref 43), (1, .int (Int32.ofInt (1)))]) (rest := []) (o := some (9, 43)) rfl (w_fitR hR rfl) (m_fail (1) hR ⟨by omega, by omega⟩ (show 0 ≤ (I 2774) ∧ (I 2774) < 1501 by omega) (show 1 ≤ 1 ∧ 1 ≤ 7 by first | assumption | omega)) (fun r174 M175 q176 => ?_)
    rcases q176 with ⟨I176a, A176a, B176a, C176a, e177, hR176a, f178⟩
    rw [e177]
    replace hR176a : w_Rep w_TM fr X u l I176a A176a B176a C176a M175 := hR176a
    replace f178 : m_fx I A I176a A176a := f178
    exact Or.inr (⟨I176a, A176a, B176a, C176a, rfl, hR176a, (show m_fx I A I176a A176a by exact f178)⟩)
