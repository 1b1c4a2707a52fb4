def m_compared_Q (fr : Nat → Bool) (X : Nat → Option (q_C (Nat → Int32))) (u l : Nat) (I : Nat → Int) (A : Nat → Int → Int) (B C : Nat → Nat) (M : w_M) (lo : Int → Int × Int) : w_X → w_M → Prop := fun r M' => (∃ v : Int, ∃ lo' : Int → Int × Int, ∃ (I' : Nat → Int) (A' : Nat → Int → Int) (B' C' : Nat → Nat), (r = .inl (some v)) ∧ (w_in v) ∧ (w_Rep w_TM fr X u l I' A' B' C' M') ∧ (m_fx I A I' A') ∧ (((0 ≤ (I' 2774) ∧ (I' 2774) < (I' 2754) ∧ (I' 2754) ≤ 1501 ∧ 0 ≤ (I' 2775) ∧ (I' 2775) ≤ 24) ∧ ((I' 3393) = (I' 3905) ∧ (I' 3521) = (I' 3905) ∧ (I' 3649) = (I' 3905) ∧ (I' 3777) = (I' 3905) ∧ 0 ≤ (I' 3905) ∧ (I' 3905) ≤ 3 * (I' 2774)) ∧ ((I' 4161) = (I' 4033) ∧ 7 ≤ (I' 4289) ∧ (I' 4289) ≤ (I' 4033) ∧ (I' 4033) ≤ 7 + (I' 2774)) ∧ 0 ≤ (I' 5889) ∧ (I' 5889) ≤ (I' 2774)) ∧ ((I' 2754) = (I 2754) ∧ (I 2774) + 1 ≤ (I' 2774) ∧ (I' 2775) = (I 2775) ∧ (I' 4289) = (I 4289) + 0 ∧ (I' 5889) = (I 5889)) ∧ ((I' 3905) + 2 ≤ (I 3905) + 3 * ((I' 2774) - (I 2774)) ∧ (I 3905) ≤ v ∧ v + 1 = (I' 3905) ∧ (I 4033) ≤ (I' 4033) ∧ (I' 4033) ≤ (I 4033) + ((I' 2774) - (I 2774)))) ∧ (m_SC I' A') ∧ (m_TR lo' I' A') ∧ (m_ST lo I A lo' I' A') ∧ (t_E ((A' 53) (v))) ∧ (m_rt lo' (I' 3905) v) ∧ (m_RK lo' (I 3905) (I' 3905) (8 * (24 - (I 2775)) + 4))) ∨ (∃ (I' : Nat → Int) (A' : Nat → Int → Int) (B' C' : Nat → Nat), (r = .inr 69) ∧ (w_Rep w_TM fr X u l I' A' B' C' M') ∧ (m_fx I A I' A'))
set_option maxHeartbeats 100000000 in
set_option maxRecDepth 100000 in
theorem m_compared {L : Nat} {xs : Nat → Int32} {d : Nat} {fr : Nat → Bool} {X : Nat → Option (q_C (Nat → Int32))} {u l : Nat} {I : Nat → Int} {A : Nat → Int → Int} {B C : Nat → Nat} {M : w_M} {N : Int} (hA : m_all L xs N) (lo : Int → Int × Int) (hR : w_Rep w_TM fr X u l I A B C M) (hd : 20 * (24 - (I 2775)) + 16 ≤ (d : Int)) (hTK : m_TK I A) (hNU : (0 ≤ (I 2774) ∧ (I 2774) < (I 2754) ∧ (I 2754) ≤ 1501 ∧ 0 ≤ (I 2775) ∧ (I 2775) ≤ 24) ∧ ((I 3393) = (I 3905) ∧ (I 3521) = (I 3905) ∧ (I 3649) = (I 3905) ∧ (I 3777) = (I 3905) ∧ 0 ≤ (I 3905) ∧ (I 3905) ≤ 3 * (I 2774)) ∧ ((I 4161) = (I 4033) ∧ 7 ≤ (I 4289) ∧ (I 4289) ≤ (I 4033) ∧ (I 4033) ≤ 7 + (I 2774)) ∧ 0 ≤ (I 5889) ∧ (I 5889) ≤ (I 2774)) (hSC : m_SC I A) (hTR : m_TR lo I A) (hm : (I 2754) - (I 2774) ≤ N) : w_W (z_P L xs) d 246 (0, [(0, .ref 43)], [], M) (m_compared_Q fr X u l I A B C M lo) := by
  obtain ⟨d, rfl⟩ : ∃ d0, d = d0 + 1 := ⟨d - 1, by omega⟩
  refine w_adv (n := 1) (F' := (1, [(0, .ref 43)], [.ref 43], M)) rfl ?_
  refine w_call (cm := 247) (as := [(0, .ref 43)]) (rest := []) (o := some (9, 43)) rfl (w_fitR hR rfl) (m_sum hA (lo) hR (show 20 * (24 - (I 2775)) + 15 ≤ (d : Int) by omega) (show m_TK I A by exact hTK) (show (0 ≤ (I 2774) ∧ (I 2774) < (I 2754) ∧ (I 2754) ≤ 1501 ∧ 0 ≤ (I 2775) ∧ (I 2775) ≤ 24) ∧ ((I 3393) = (I 3905) ∧ (I 3521) = (I 3905) ∧ (I 3649) = (I 3905) ∧ (I 3777) = (I 3905) ∧ 0 ≤ (I 3905) ∧ (I 3905) ≤ 3 * (I 2774)) ∧ ((I 4161) = (I 4033) ∧ 7 ≤ (I 4289) ∧ (I 4289) ≤ (I 4033) ∧ (I 4033) ≤ 7 + (I 2774)) ∧ 0 ≤ (I 5889) ∧ (I 5889) ≤ (I 2774) by (repeat' apply And.intro) <;> first | assumption | omega) (show m_SC I A by exact hSC) (show m_TR lo I A by exact hTR) (show (I 2754) - (I 2774) ≤ N by first | assumption | omega)) (fun r1 M2 q3 => ?_)
  rcases q3 with ⟨v4, lo5, I3a, A3a, B3a, C3a, e6, ⟨r7, r8⟩, hR3a, f9, f10, f11, f12, f13, f14, f15, f16⟩ | ⟨I3b, A3b, B3b, C3b, e17, hR3b, f18⟩
  · rw [e6]
    replace hR3a : w_Rep w_TM fr X u l I3a A3a B3a C3a M2 := hR3a
    replace f9 : m_fx I A I3a A3a := f9
    replace f10 : ((0 ≤ (I3a 2774) ∧ (I3a 2774) < (I3a 2754) ∧ (I3a 2754) ≤ 1501 ∧ 0 ≤ (I3a 2775) ∧ (I3a 2775) ≤ 24) ∧ ((I3a 3393) = (I3a 3905) ∧ (I3a 3521) = (I3a 3905) ∧ (I3a 3649) = (I3a 3905) ∧ (I3a 3777) = (I3a 3905) ∧ 0 ≤ (I3a 3905) ∧ (I3a 3905) ≤ 3 * (I3a 2774)) ∧ ((I3a 4161) = (I3a 4033) ∧ 7 ≤ (I3a 4289) ∧ (I3a 4289) ≤ (I3a 4033) ∧ (I3a 4033) ≤ 7 + (I3a 2774)) ∧ 0 ≤ (I3a 5889) ∧ (I3a 5889) ≤ (I3a 2774)) ∧ ((I3a 2754) = (I 2754) ∧ (I 2774) + 1 ≤ (I3a 2774) ∧ (I3a 2775) = (I 2775) ∧ (I3a 4289) = (I 4289) + 0 ∧ (I3a 5889) = (I 5889)) ∧ ((I3a 3905) + 2 ≤ (I 3905) + 3 * ((I3a 2774) - (I 2774)) ∧ (I 3905) ≤ v4 ∧ v4 + 1 = (I3a 3905) ∧ (I 4033) ≤ (I3a 4033) ∧ (I3a 4033) ≤ (I 4033) + ((I3a 2774) - (I 2774))) := f10
    obtain ⟨⟨⟨n19, n20, n21, n22, n23⟩, ⟨n24, n25, n26, n27, n28, n29⟩, ⟨n30, n31, n32, n33⟩, n34, n35⟩, ⟨n36, n37, n38, n39, n40⟩, ⟨n41, n42, n43, n44, n45⟩⟩ := id f10
    clear f10
    replace f11 : m_SC I3a A3a := f11
    replace f12 : m_TR lo5 I3a A3a := f12
    replace f13 : m_ST lo I A lo5 I3a A3a := f13
    replace f14 : t_E ((A3a 53) (v4)) := f14
    replace f15 : m_rt lo5 (I3a 3905) v4 := f15
    replace f16 : m_RK lo5 (I 3905) (I3a 3905) (8 * (24 - (I 2775)) + 3) := f16
    have tk46 : m_TK I3a A3a := m_TK_fx f9 hTK
    have nn47 : (I 3905) ≤ (I3a 3905) := by omega
    have nz48 : 0 ≤ (I 3905) := by first | assumption | omega
    have ho49 : (I 2775) = (I 2775) + (0) := by omega
    have rk51 : m_RK lo5 (I 3905) (I3a 3905) (8 * (24 - (I 2775)) + (3)) := m_RK_app (I := I) (I' := I3a) (R := (8 * (24 - (I 2775)) + (3))) (show m_RK lo (I 3905) (I 3905) (8 * (24 - (I 2775)) + (3)) from fun q q1 q2 => by omega) f13 f16 (show 0 ≤ (I 3905) by first | assumption | omega) (m_r8 (by decide)) (m_r8o (k := 0) ho49 (by decide))
    have s50 : m_ST lo I A lo5 I3a A3a := f13
    have k52 : m_kd lo5 I3a A3a (I 3905) (8 * (24 - (I 2775)) + 3) v4 t_E := m_kd_of (I := I) f13 f12 nz48 (show (I 3905) ≤ v4 by first | assumption | omega) (show v4 < (I3a 3905) by omega) f14 f16
    obtain ⟨j53, j54, j55, j56, j57⟩ := k52.1
    show w_W _ _ _ (4, [(0, .ref 43)], [.int (Int32.ofInt (v4))], M2) _
    refine w_adv (n := 1) (F' := (5, [(1, .int (Int32.ofInt (v4))), (0, .ref 43)], [], M2)) rfl ?_
    have jn49 : ∀ (k49_0 : Int), w_in k49_0 → (k49_0 = -1 ∨ (0 ≤ k49_0 ∧ k49_0 ≤ 8 ∧ (I3a 2774) + 1 < (I3a 2754))) → w_W (z_P L xs) (d + 1) 246 (49, [(0, .ref 43), (1, .int (Int32.ofInt (v4)))], [.int (Int32.ofInt (k49_0))], M2) (m_compared_Q fr X u l I A B C M lo) := by
      intro k49_0 ⟨ra_k49_0, rb_k49_0⟩ hj49_0
      refine w_adv (n := 2) (F' := (51, [(2, .int (Int32.ofInt (k49_0))), (0, .ref 43), (1, .int (Int32.ofInt (v4)))], [.int (Int32.ofInt (k49_0))], M2)) rfl ?_
      refine w_br1 (a := k49_0) rfl rfl ⟨by omega, by omega⟩ (fun h58 => ?_) (fun h58 => ?_)
      · have h58 : k49_0 ≥ 0 := h58
        show w_W _ _ _ (56, [(2, .int (Int32.ofInt (k49_0))), (0, .ref 43), (1, .int (Int32.ofInt (v4)))], [], M2) _
        refine w_adv (n := 2) (F' := (58, [(2, .int (Int32.ofInt (k49_0))), (0, .ref 43), (1, .int (Int32.ofInt (v4)))], [.ref 43, .ref 43], M2)) rfl ?_
        refine w_gf (v := .int (Int32.ofInt ((I3a 2774)))) hR3a rfl rfl rfl rfl ?_
        obtain ⟨r59, r60⟩ : -2147483648 ≤ (I3a 2774) ∧ (I3a 2774) ≤ 2147483647 := hR3a.ri 2774
        refine w_adv (n := 1) (F' := (62, [(2, .int (Int32.ofInt (k49_0))), (0, .ref 43), (1, .int (Int32.ofInt (v4)))], [.int (Int32.ofInt (1)), .int (Int32.ofInt ((I3a 2774))), .ref 43], M2)) rfl ?_
        refine w_add rfl ?_
        refine w_pf hR3a rfl rfl rfl rfl (show w_in ((I3a 2774) + 1) from ⟨by omega, by omega⟩) (fun h => absurd h (by decide)) (fun M61 hR62 => ?_)
        replace hR62 : w_Rep w_TM fr X u l (w_up I3a 2774 ((I3a 2774) + 1)) A3a B3a C3a M61 := hR62
        refine w_adv (n := 5) (F' := (72, [(2, .int (Int32.ofInt (k49_0))), (0, .ref 43), (1, .int (Int32.ofInt (v4)))], [.ref 43, .int (Int32.ofInt (v4)), .int (Int32.ofInt (k49_0)), .int (Int32.ofInt (9)), .ref 43], M61)) rfl ?_
        refine w_call (cm := 247) (as := [(0, .ref 43)]) (rest := [.int (Int32.ofInt (v4)), .int (Int32.ofInt (k49_0)), .int (Int32.ofInt (9)), .ref 43]) (o := some (9, 43)) rfl (w_fitR hR62 rfl) (m_sum hA (lo5) hR62 (show 20 * (24 - (I3a 2775)) + 15 ≤ (d : Int) by omega) (show m_TK (w_up I3a 2774 ((I3a 2774) + 1)) A3a by exact tk46) (show (0 ≤ (I3a 2774) + 1 ∧ (I3a 2774) + 1 < (I3a 2754) ∧ (I3a 2754) ≤ 1501 ∧ 0 ≤ (I3a 2775) ∧ (I3a 2775) ≤ 24) ∧ ((I3a 3393) = (I3a 3905) ∧ (I3a 3521) = (I3a 3905) ∧ (I3a 3649) = (I3a 3905) ∧ (I3a 3777) = (I3a 3905) ∧ 0 ≤ (I3a 3905) ∧ (I3a 3905) ≤ 3 * ((I3a 2774) + 1)) ∧ ((I3a 4161) = (I3a 4033) ∧ 7 ≤ (I3a 4289) ∧ (I3a 4289) ≤ (I3a 4033) ∧ (I3a 4033) ≤ 7 + ((I3a 2774) + 1)) ∧ 0 ≤ (I3a 5889) ∧ (I3a 5889) ≤ (I3a 2774) + 1 by (repeat' apply And.intro) <;> first | assumption | omega) (show m_SC (w_up I3a 2774 ((I3a 2774) + 1)) A3a by exact f11) (show m_TR lo5 (w_up I3a 2774 ((I3a 2774) + 1)) A3a by exact f12) (show (I3a 2754) - ((I3a 2774) + 1) ≤ N by first | assumption | omega)) (fun r63 M64 q65 => ?_)
        rcases q65 with ⟨v66, lo67, I65a, A65a, B65a, C65a, e68, ⟨r69, r70⟩, hR65a, f71, f72, f73, f74, f75, f76, f77, f78⟩ | ⟨I65b, A65b, B65b, C65b, e79, hR65b, f80⟩
        · rw [e68]
          replace hR65a : w_Rep w_TM fr X u l I65a A65a B65a C65a M64 := hR65a
          replace f71 : m_fx (w_up I3a 2774 ((I3a 2774) + 1)) A3a I65a A65a := f71
          replace f72 : ((0 ≤ (I65a 2774) ∧ (I65a 2774) < (I65a 2754) ∧ (I65a 2754) ≤ 1501 ∧ 0 ≤ (I65a 2775) ∧ (I65a 2775) ≤ 24) ∧ ((I65a 3393) = (I65a 3905) ∧ (I65a 3521) = (I65a 3905) ∧ (I65a 3649) = (I65a 3905) ∧ (I65a 3777) = (I65a 3905) ∧ 0 ≤ (I65a 3905) ∧ (I65a 3905) ≤ 3 * (I65a 2774)) ∧ ((I65a 4161) = (I65a 4033) ∧ 7 ≤ (I65a 4289) ∧ (I65a 4289) ≤ (I65a 4033) ∧ (I65a 4033) ≤ 7 + (I65a 2774)) ∧ 0 ≤ (I65a 5889) ∧ (I65a 5889) ≤ (I65a 2774)) ∧ ((I65a 2754) = (I3a 2754) ∧ ((I3a 2774) + 1) + 1 ≤ (I65a 2774) ∧ (I65a 2775) = (I3a 2775) ∧ (I65a 4289) = (I3a 4289) + 0 ∧ (I65a 5889) = (I3a 5889)) ∧ ((I65a 3905) + 2 ≤ (I3a 3905) + 3 * ((I65a 2774) - ((I3a 2774) + 1)) ∧ (I3a 3905) ≤ v66 ∧ v66 + 1 = (I65a 3905) ∧ (I3a 4033) ≤ (I65a 4033) ∧ (I65a 4033) ≤ (I3a 4033) + ((I65a 2774) - ((I3a 2774) + 1))) := f72
          obtain ⟨⟨⟨n81, n82, n83, n84, n85⟩, ⟨n86, n87, n88, n89, n90, n91⟩, ⟨n92, n93, n94, n95⟩, n96, n97⟩, ⟨n98, n99, n100, n101, n102⟩, ⟨n103, n104, n105, n106, n107⟩⟩ := id f72
          clear f72
          replace f73 : m_SC I65a A65a := f73
          replace f74 : m_TR lo67 I65a A65a := f74
          replace f75 : m_ST lo5 (w_up I3a 2774 ((I3a 2774) + 1)) A3a lo67 I65a A65a := f75
          replace f76 : t_E ((A65a 53) (v66)) := f76
          replace f77 : m_rt lo67 (I65a 3905) v66 := f77
          replace f78 : m_RK lo67 (I3a 3905) (I65a 3905) (8 * (24 - (I3a 2775)) + 3) := f78
          have tk108 : m_TK I65a A65a := m_TK_fx f71 tk46
          have nn109 : (I3a 3905) ≤ (I65a 3905) := by omega
          have nz110 : 0 ≤ (I3a 3905) := by first | assumption | omega
          have ho111 : (I3a 2775) = (I 2775) + (0) := by omega
          have rk113 : m_RK lo67 (I 3905) (I65a 3905) (8 * (24 - (I 2775)) + (3)) := m_RK_app (I := (w_up I3a 2774 ((I3a 2774) + 1))) (I' := I65a) (R := (8 * (24 - (I 2775)) + (3))) (show m_RK lo5 (I 3905) (I3a 3905) (8 * (24 - (I 2775)) + (3)) from rk51) f75 f78 (show 0 ≤ (I 3905) by first | assumption | omega) (m_r8 (by decide)) (m_r8o (k := 0) ho111 (by decide))
          have s112 : m_ST lo I A lo67 I65a A65a := m_ST_trans (show m_ST lo I A lo5 (w_up I3a 2774 ((I3a 2774) + 1)) A3a from s50) f75 (show 0 ≤ (I 3905) by first | assumption | omega) (show (I 3905) ≤ (I3a 3905) by first | assumption | omega) (show (I 4289) ≤ (I3a 4289) by first | assumption | omega) (show (I 5889) ≤ (I3a 5889) by first | assumption | omega)
          have k114 : m_kd lo67 I65a A65a (I 3905) (8 * (24 - (I 2775)) + 3) v4 t_E := m_kd_ST f75 nn109 k52
          have rt115 := m_rt_ST f75 (show 0 ≤ v4 by omega) (show v4 < (I3a 3905) by omega) f15
          have k116 : m_kd lo67 I65a A65a (I3a 3905) (8 * (24 - (I3a 2775)) + 3) v66 t_E := m_kd_of (I := (w_up I3a 2774 ((I3a 2774) + 1))) f75 f74 nz110 (show (I3a 3905) ≤ v66 by first | assumption | omega) (show v66 < (I65a 3905) by omega) f76 f78
          obtain ⟨j117, j118, j119, j120, j121⟩ := k116.1
          show w_W _ _ _ (75, [(2, .int (Int32.ofInt (k49_0))), (0, .ref 43), (1, .int (Int32.ofInt (v4)))], [.int (Int32.ofInt (v66)), .int (Int32.ofInt (v4)), .int (Int32.ofInt (k49_0)), .int (Int32.ofInt (9)), .ref 43], M64) _
          refine w_call (cm := 239) (as := [(0, .ref 43), (1, .int (Int32.ofInt (9))), (2, .int (Int32.ofInt (k49_0))), (3, .int (Int32.ofInt (v4))), (4, .int (Int32.ofInt (v66)))]) (rest := []) (o := some (9, 43)) rfl (w_fitR hR65a rfl) (m_node (9) (k49_0) (v4) (v66) hR65a (show 2 ≤ d by omega) ⟨by omega, by omega⟩ ⟨by omega, by omega⟩ ⟨by omega, by omega⟩ ⟨by omega, by omega⟩ (show (I65a 3393) = (I65a 3905) by first | assumption | omega) (show (I65a 3521) = (I65a 3905) by first | assumption | omega) (show (I65a 3649) = (I65a 3905) by first | assumption | omega) (show (I65a 3777) = (I65a 3905) by first | assumption | omega) (show (I65a 3905) < 65536 by first | assumption | omega)) (fun r122 M123 q124 => ?_)
          rcases q124 with ⟨v125, I124a, A124a, B124a, C124a, e126, ⟨r127, r128⟩, hR124a, f129, f130⟩
          rw [e126]
          replace hR124a : w_Rep w_TM fr X u l I124a A124a B124a C124a M123 := hR124a
          replace f129 : m_fx I65a A65a I124a A124a := f129
          replace f130 : m_nd I65a A65a I124a A124a v125 9 k49_0 v4 v66 := f130
          obtain ⟨⟨n131, n132, n133, n134, n135, n136⟩, ⟨n137, n138, n139, n140, n141, n142, n143⟩⟩ : (v125 = (I65a 3905) ∧ (I124a 3905) = (I65a 3905) + 1 ∧ (I124a 3393) = (I65a 3393) + 1 ∧ (I124a 3521) = (I65a 3521) + 1 ∧ (I124a 3649) = (I65a 3649) + 1 ∧ (I124a 3777) = (I65a 3777) + 1) ∧ ((I124a 2774) = (I65a 2774) ∧ (I124a 2754) = (I65a 2754) ∧ (I124a 2775) = (I65a 2775) ∧ (I124a 4289) = (I65a 4289) ∧ (I124a 4033) = (I65a 4033) ∧ (I124a 4161) = (I65a 4161) ∧ (I124a 5889) = (I65a 5889)) := m_nd_num f130
          have tk144 : m_TK I124a A124a := m_TK_fx f129 tk108
          have sc145 : m_SC I124a A124a := m_SC_nd f130 f73
          have tr146 : m_TR (t_up lo67 v125 (I 3905) (8 * (24 - (I 2775)) + (4))) I124a A124a := m_TR_nd (show m_TR lo67 I65a A65a from f74) f130 (show 0 ≤ (I 3905) by omega) (show (I 3905) ≤ v125 by omega) (m_cl_ST (I1 := I) (show m_ST lo I A lo67 I65a A65a from s112) (show m_TR lo I A from hTR) (show 0 ≤ (I 3905) by omega)) (t_N_mk9 t_up_same (show 0 ≤ (I 3905) by omega) (show (I 3905) ≤ v125 by omega) (show 0 ≤ (8 * (24 - (I 2775)) + (4)) by omega) (m_hw2 (show m_RK lo67 (I 3905) v125 (8 * (24 - (I 2775)) + (3)) from fun q q1 q2 => (show m_RK lo67 (I 3905) (I65a 3905) (8 * (24 - (I 2775)) + (3)) from rk113) q (show (I 3905) ≤ q by omega) (show q < (I65a 3905) by omega)) (m_r8 (by decide))) ⟨m_ch f130 (show (I 3905) ≤ (I 3905) by omega) (show m_kd lo67 I65a A65a (I 3905) (8 * (24 - (I 2775)) + 3) v4 t_E from k114), m_ch f130 (show (I 3905) ≤ (I3a 3905) by omega) (show m_kd lo67 I65a A65a (I3a 3905) (8 * (24 - (I3a 2775)) + 3) v66 t_E from k116), m_od f130 (show m_kd lo67 I65a A65a (I3a 3905) (8 * (24 - (I3a 2775)) + 3) v66 t_E from k116) (show v4 < (I3a 3905) by omega), (Or.inr (m_ork f130 (show m_kd lo67 I65a A65a (I 3905) (8 * (24 - (I 2775)) + 3) v4 t_E from k114) (show (8 * (24 - (I 2775)) + 3) < (8 * (24 - (I 2775)) + (4)) by omega))), (m_ork f130 (show m_kd lo67 I65a A65a (I3a 3905) (8 * (24 - (I3a 2775)) + 3) v66 t_E from k116) (show (8 * (24 - (I3a 2775)) + 3) < (8 * (24 - (I 2775)) + (4)) by omega))⟩)
          have s147 : m_ST lo I A (t_up lo67 v125 (I 3905) (8 * (24 - (I 2775)) + (4))) I124a A124a := m_ST_nd (l := (I 3905)) (show m_ST lo I A lo67 I65a A65a from s112) f130 (show (I 3905) ≤ (I 3905) by omega) (show (I 3905) ≤ (I65a 3905) by omega)
          have rk148 : m_RK (t_up lo67 v125 (I 3905) (8 * (24 - (I 2775)) + (4))) (I 3905) (I124a 3905) (8 * (24 - (I 2775)) + (4)) := fun q q1 q2 => m_RK_nd (show m_RK lo67 (I 3905) v125 (8 * (24 - (I 2775)) + (3)) from fun q q1 q2 => (show m_RK lo67 (I 3905) (I65a 3905) (8 * (24 - (I 2775)) + (3)) from rk113) q q1 (show q < (I65a 3905) by omega)) (m_r8 (by decide)) (m_r8 (by decide)) q q1 (show q < v125 + 1 by omega)
          have k149 : m_kd (t_up lo67 v125 (I 3905) (8 * (24 - (I 2775)) + (4))) I124a A124a (I 3905) (8 * (24 - (I 2775)) + (4)) v125 (fun k => k = 9) := m_kd_new f130 (show 0 ≤ (I 3905) by omega) (show (I 3905) ≤ v125 by omega) rfl
          have rt150 : m_rt (t_up lo67 v125 (I 3905) (8 * (24 - (I 2775)) + (4))) (I124a 3905) v125 := m_rt_new f130
          have op151 : (fun k => k = 9 ∨ k = 10) ((A124a 53) (v125)) ∨ ((t_up lo67 v125 (I 3905) (8 * (24 - (I 2775)) + (4))) v125).2 < (8 * (24 - (I 2775)) + (4)) := Or.inl (by have q1 : (A124a 53) (v125) = 9 := k149.2; omega)
          show w_W _ _ _ (78, [(2, .int (Int32.ofInt (k49_0))), (0, .ref 43), (1, .int (Int32.ofInt (v4)))], [.int (Int32.ofInt (v125))], M123) _
          refine w_fin (r := .inl (some (v125))) (M' := M123) rfl ?_
          exact Or.inl ⟨v125, (t_up lo67 v125 (I 3905) (8 * (24 - (I 2775)) + (4))), I124a, A124a, B124a, C124a, rfl, ⟨by omega, by omega⟩, hR124a, (show m_fx I A I124a A124a by exact (m_fx_trans (m_fx_trans f9 f71) f129)), (show ((0 ≤ (I124a 2774) ∧ (I124a 2774) < (I124a 2754) ∧ (I124a 2754) ≤ 1501 ∧ 0 ≤ (I124a 2775) ∧ (I124a 2775) ≤ 24) ∧ ((I124a 3393) = (I124a 3905) ∧ (I124a 3521) = (I124a 3905) ∧ (I124a 3649) = (I124a 3905) ∧ (I124a 3777) = (I124a 3905) ∧ 0 ≤ (I124a 3905) ∧ (I124a 3905) ≤ 3 * (I124a 2774)) ∧ ((I124a 4161) = (I124a 4033) ∧ 7 ≤ (I124a 4289) ∧ (I124a 4289) ≤ (I124a 4033) ∧ (I124a 4033) ≤ 7 + (I124a 2774)) ∧ 0 ≤ (I124a 5889) ∧ (I124a 5889) ≤ (I124a 2774)) ∧ ((I124a 2754) = (I 2754) ∧ (I 2774) + 1 ≤ (I124a 2774) ∧ (I124a 2775) = (I 2775) ∧ (I124a 4289) = (I 4289) + 0 ∧ (I124a 5889) = (I 5889)) ∧ ((I124a 3905) + 2 ≤ (I 3905) + 3 * ((I124a 2774) - (I 2774)) ∧ (I 3905) ≤ v125 ∧ v125 + 1 = (I124a 3905) ∧ (I 4033) ≤ (I124a 4033) ∧ (I124a 4033) ≤ (I 4033) + ((I124a 2774) - (I 2774))) by (repeat' apply And.intro) <;> first | assumption | omega), (show m_SC I124a A124a by exact sc145), (show m_TR (t_up lo67 v125 (I 3905) (8 * (24 - (I 2775)) + (4))) I124a A124a by exact tr146), (show m_ST lo I A (t_up lo67 v125 (I 3905) (8 * (24 - (I 2775)) + (4))) I124a A124a by exact s147), (show t_E ((A124a 53) (v125)) by exact ((m_kd_K k149 (fun k h => by have h : k = 9 := h; unfold t_E; omega))).2), (show m_rt (t_up lo67 v125 (I 3905) (8 * (24 - (I 2775)) + (4))) (I124a 3905) v125 by exact rt150), (show m_RK (t_up lo67 v125 (I 3905) (8 * (24 - (I 2775)) + (4))) (I 3905) (I124a 3905) (8 * (24 - (I 2775)) + 4) by exact m_RK_le (show m_RK (t_up lo67 v125 (I 3905) (8 * (24 - (I 2775)) + (4))) (I 3905) (I124a 3905) (8 * (24 - (I 2775)) + (4)) from rk148) (show (8 * (24 - (I 2775)) + (4)) ≤ 8 * (24 - (I 2775)) + 4 by omega))⟩
        · rw [e79]
          replace hR65b : w_Rep w_TM fr X u l I65b A65b B65b C65b M64 := hR65b
          replace f80 : m_fx (w_up I3a 2774 ((I3a 2774) + 1)) A3a I65b A65b := f80
          exact Or.inr (⟨I65b, A65b, B65b, C65b, rfl, hR65b, (show m_fx I A I65b A65b by exact (m_fx_trans f9 f80))⟩)
      · have h58 : ¬ (k49_0 ≥ 0) := h58
        show w_W _ _ _ (54, [(2, .int (Int32.ofInt (k49_0))), (0, .ref 43), (1, .int (Int32.ofInt (v4)))], [], M2) _
        refine w_adv (n := 1) (F' := (55, [(2, .int (Int32.ofInt (k49_0))), (0, .ref 43), (1, .int (Int32.ofInt (v4)))], [.int (Int32.ofInt (v4))], M2)) rfl ?_
        refine w_fin (r := .inl (some (v4))) (M' := M2) rfl ?_
        exact Or.inl ⟨v4, lo5, I3a, A3a, B3a, C3a, rfl, ⟨by omega, by omega⟩, hR3a, (show m_fx I A I3a A3a by exact f9), (show ((0 ≤ (I3a 2774) ∧ (I3a 2774) < (I3a 2754) ∧ (I3a 2754) ≤ 1501 ∧ 0 ≤ (I3a 2775) ∧ (I3a 2775) ≤ 24) ∧ ((I3a 3393) = (I3a 3905) ∧ (I3a 3521) = (I3a 3905) ∧ (I3a 3649) = (I3a 3905) ∧ (I3a 3777) = (I3a 3905) ∧ 0 ≤ (I3a 3905) ∧ (I3a 3905) ≤ 3 * (I3a 2774)) ∧ ((I3a 4161) = (I3a 4033) ∧ 7 ≤ (I3a 4289) ∧ (I3a 4289) ≤ (I3a 4033) ∧ (I3a 4033) ≤ 7 + (I3a 2774)) ∧ 0 ≤ (I3a 5889) ∧ (I3a 5889) ≤ (I3a 2774)) ∧ ((I3a 2754) = (I 2754) ∧ (I 2774) + 1 ≤ (I3a 2774) ∧ (I3a 2775) = (I 2775) ∧ (I3a 4289) = (I 4289) + 0 ∧ (I3a 5889) = (I 5889)) ∧ ((I3a 3905) + 2 ≤ (I 3905) + 3 * ((I3a 2774) - (I 2774)) ∧ (I 3905) ≤ v4 ∧ v4 + 1 = (I3a 3905) ∧ (I 4033) ≤ (I3a 4033) ∧ (I3a 4033) ≤ (I 4033) + ((I3a 2774) - (I 2774))) by (repeat' apply And.intro) <;> first | assumption | omega), (show m_SC I3a A3a by exact f11), (show m_TR lo5 I3a A3a by exact f12), (show m_ST lo I A lo5 I3a A3a by exact s50), (show t_E ((A3a 53) (v4)) by exact (k52).2), (show m_rt lo5 (I3a 3905) v4 by exact f15), (show m_RK lo5 (I 3905) (I3a 3905) (8 * (24 - (I 2775)) + 4) by exact m_RK_le (show m_RK lo5 (I 3905) (I3a 3905) (8 * (24 - (I 2775)) + (3)) from rk51) (show (8 * (24 - (I 2775)) + (3)) ≤ 8 * (24 - (I 2775)) + 4 by omega))⟩
    refine w_adv (n := 2) (F' := (9, [(1, .int (Int32.ofInt (v4))), (0, .ref 43)], [.int (Int32.ofInt (256)), .ref 43], M2)) rfl ?_
    refine w_call (cm := 230) (as := [(0, .ref 43), (1, .int (Int32.ofInt (256)))]) (rest := []) (o := some (9, 43)) rfl (w_fitR hR3a rfl) (m_isSign (256) hR3a ⟨by omega, by omega⟩ (show 0 ≤ (I3a 2774) ∧ (I3a 2774) < 1501 by omega)) (fun r152 M153 q154 => ?_)
    rcases q154 with ⟨e155, e156, f157⟩ | ⟨e158, e159, f160⟩
    · rw [e155, e156]
      replace f157 : (A3a 45) ((I3a 2774)) = 6 ∧ (A3a 46) ((I3a 2774)) = 256 := f157
      obtain ⟨n161, n162⟩ := id f157
      clear f157
      have w163 : (I3a 2774) + 1 < (I3a 2754) := m_TK_lt tk46 (show (I3a 2774) < (I3a 2754) by omega) (show 1 ≤ (A3a 45) ((I3a 2774)) by omega) (show (A3a 45) ((I3a 2774)) ≤ 6 by omega)
      show w_W _ _ _ (12, [(1, .int (Int32.ofInt (v4))), (0, .ref 43)], [.int (Int32.ofInt (1))], M2) _
      refine w_adv (n := 3) (F' := (49, [(1, .int (Int32.ofInt (v4))), (0, .ref 43)], [.int (Int32.ofInt (8))], M2)) rfl ?_
      refine w_ls (ls := [(0, .ref 43), (1, .int (Int32.ofInt (v4)))]) (show List.Nodup [0, 1] by decide) (show List.Nodup [1, 0] by decide) (List.forall_mem_cons.mpr ⟨(List.Mem.tail _ (List.Mem.head _)), (List.forall_mem_cons.mpr ⟨(List.Mem.head _), (fun _ h => by cases h)⟩)⟩) ?_
      exact jn49 (8) ⟨by omega, by omega⟩ (show 8 = -1 ∨ (0 ≤ 8 ∧ 8 ≤ 8 ∧ (I3a 2774) + 1 < (I3a 2754)) by first | assumption | omega)
    · rw [e158, e159]
      replace f160 : ¬ ((A3a 45) ((I3a 2774)) = 6 ∧ (A3a 46) ((I3a 2774)) = 256) := f160
      show w_W _ _ _ (12, [(1, .int (Int32.ofInt (v4))), (0, .ref 43)], [.int (Int32.ofInt (0))], M2) _
      refine w_adv (n := 3) (F' := (23, [(1, .int (Int32.ofInt (v4))), (0, .ref 43)], [.int (Int32.ofInt (60)), .ref 43], M2)) rfl ?_
      refine w_call (cm := 230) (as := [(0, .ref 43), (1, .int (Int32.ofInt (60)))]) (rest := []) (o := some (9, 43)) rfl (w_fitR hR3a rfl) (m_isSign (60) hR3a ⟨by omega, by omega⟩ (show 0 ≤ (I3a 2774) ∧ (I3a 2774) < 1501 by omega)) (fun r164 M165 q166 => ?_)
      rcases q166 with ⟨e167, e168, f169⟩ | ⟨e170, e171, f172⟩
      · rw [e167, e168]
        replace f169 : (A3a 45) ((I3a 2774)) = 6 ∧ (A3a 46) ((I3a 2774)) = 60 := f169
        obtain ⟨n173, n174⟩ := id f169
        clear f169
        have w175 : (I3a 2774) + 1 < (I3a 2754) := m_TK_lt tk46 (show (I3a 2774) < (I3a 2754) by omega) (show 1 ≤ (A3a 45) ((I3a 2774)) by omega) (show (A3a 45) ((I3a 2774)) ≤ 6 by omega)
        show w_W _ _ _ (26, [(1, .int (Int32.ofInt (v4))), (0, .ref 43)], [.int (Int32.ofInt (1))], M2) _
        refine w_adv (n := 3) (F' := (49, [(1, .int (Int32.ofInt (v4))), (0, .ref 43)], [.int (Int32.ofInt (5))], M2)) rfl ?_
        refine w_ls (ls := [(0, .ref 43), (1, .int (Int32.ofInt (v4)))]) (show List.Nodup [0, 1] by decide) (show List.Nodup [1, 0] by decide) (List.forall_mem_cons.mpr ⟨(List.Mem.tail _ (List.Mem.head _)), (List.forall_mem_cons.mpr ⟨(List.Mem.head _), (fun _ h => by cases h)⟩)⟩) ?_
        exact jn49 (5) ⟨by omega, by omega⟩ (show 5 = -1 ∨ (0 ≤ 5 ∧ 5 ≤ 8 ∧ (I3a 2774) + 1 < (I3a 2754)) by first | assumption | omega)
      · rw [e170, e171]
        replace f172 : ¬ ((A3a 45) ((I3a 2774)) = 6 ∧ (A3a 46) ((I3a 2774)) = 60) := f172
        show w_W _ _ _ (26, [(1, .int (Int32.ofInt (v4))), (0, .ref 43)], [.int (Int32.ofInt (0))], M2) _
        refine w_adv (n := 3) (F' := (37, [(1, .int (Int32.ofInt (v4))), (0, .ref 43)], [.int (Int32.ofInt (257)), .ref 43], M2)) rfl ?_
        refine w_call (cm := 230) (as := [(0, .ref 43), (1, .int (Int32.ofInt (257)))]) (rest := []) (o := some (9, 43)) rfl (w_fitR hR3a rfl) (m_isSign (257) hR3a ⟨by omega, by omega⟩ (show 0 ≤ (I3a 2774) ∧ (I3a 2774) < 1501 by omega)) (fun r176 M177 q178 => ?_)
        rcases q178 with ⟨e179, e180, f181⟩ | ⟨e182, e183, f184⟩
        · rw [e179, e180]
          replace f181 : (A3a 45) ((I3a 2774)) = 6 ∧ (A3a 46) ((I3a 2774)) = 257 := f181
          obtain ⟨n185, n186⟩ := id f181
          clear f181
          have w187 : (I3a 2774) + 1 < (I3a 2754) := m_TK_lt tk46 (show (I3a 2774) < (I3a 2754) by omega) (show 1 ≤ (A3a 45) ((I3a 2774)) by omega) (show (A3a 45) ((I3a 2774)) ≤ 6 by omega)
          show w_W _ _ _ (40, [(1, .int (Int32.ofInt (v4))), (0, .ref 43)], [.int (Int32.ofInt (1))], M2) _
          refine w_adv (n := 3) (F' := (49, [(1, .int (Int32.ofInt (v4))), (0, .ref 43)], [.int (Int32.ofInt (6))], M2)) rfl ?_
          refine w_ls (ls := [(0, .ref 43), (1, .int (Int32.ofInt (v4)))]) (show List.Nodup [0, 1] by decide) (show List.Nodup [1, 0] by decide) (List.forall_mem_cons.mpr ⟨(List.Mem.tail _ (List.Mem.head _)), (List.forall_mem_cons.mpr ⟨(List.Mem.head _), (fun _ h => by cases h)⟩)⟩) ?_
          exact jn49 (6) ⟨by omega, by omega⟩ (show 6 = -1 ∨ (0 ≤ 6 ∧ 6 ≤ 8 ∧ (I3a 2774) + 1 < (I3a 2754)) by first | assumption | omega)
        · rw [e182, e183]
          replace f184 : ¬ ((A3a 45) ((I3a 2774)) = 6 ∧ (A3a 46) ((I3a 2774)) = 257) := f184
          show w_W _ _ _ (40, [(1, .int (Int32.ofInt (v4))), (0, .ref 43)], [.int (Int32.ofInt (0))], M2) _
          refine w_adv (n := 2) (F' := (49, [(1, .int (Int32.ofInt (v4))), (0, .ref 43)], [.int (Int32.ofInt ((-1)))], M2)) rfl ?_
          refine w_ls (ls := [(0, .ref 43), (1, .int (Int32.ofInt (v4)))]) (show List.Nodup [0, 1] by decide) (show List.Nodup [1, 0] by decide) (List.forall_mem_cons.mpr ⟨(List.Mem.tail _ (List.Mem.head _)), (List.forall_mem_cons.mpr ⟨(List.Mem.head _), (fun _ h => by cases h)⟩)⟩) ?_
          exact jn49 ((-1)) ⟨by omega, by omega⟩ (show (-1) = -1 ∨ (0 ≤ (-1) ∧ (-1) ≤ 8 ∧ (I3a 2774) + 1 < (I3a 2754)) by first | assumption | omega)
  · rw [e17]
    replace hR3b : w_Rep w_TM fr X u l I3b A3b B3b C3b M2 := hR3b
    replace f18 : m_fx I A I3b A3b := f18
    exact Or.inr (⟨I3b, A3b, B3b, C3b, rfl, hR3b, (show m_fx I A I3b A3b by exact f18)⟩)
