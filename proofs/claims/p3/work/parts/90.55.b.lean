def m_applied_Q (fr : Nat → Bool) (X : Nat → Option (q_C (Nat → Int32))) (u l : Nat) (I : Nat → Int) (A : Nat → Int → Int) (B C : Nat → Nat) (M : w_M) (lo : Int → Int × Int) : w_X → w_M → Prop := fun r M' => (∃ v : Int, ∃ lo' : Int → Int × Int, ∃ (I' : Nat → Int) (A' : Nat → Int → Int) (B' C' : Nat → Nat), (r = .inl (some v)) ∧ (w_in v) ∧ (w_Rep w_TM fr X u l I' A' B' C' M') ∧ (m_fx I A I' A') ∧ (((0 ≤ (I' 2774) ∧ (I' 2774) < (I' 2754) ∧ (I' 2754) ≤ 1501 ∧ 0 ≤ (I' 2775) ∧ (I' 2775) ≤ 24) ∧ ((I' 3393) = (I' 3905) ∧ (I' 3521) = (I' 3905) ∧ (I' 3649) = (I' 3905) ∧ (I' 3777) = (I' 3905) ∧ 0 ≤ (I' 3905) ∧ (I' 3905) ≤ 3 * (I' 2774)) ∧ ((I' 4161) = (I' 4033) ∧ 7 ≤ (I' 4289) ∧ (I' 4289) ≤ (I' 4033) ∧ (I' 4033) ≤ 7 + (I' 2774)) ∧ 0 ≤ (I' 5889) ∧ (I' 5889) ≤ (I' 2774)) ∧ ((I' 2754) = (I 2754) ∧ (I 2774) + 1 ≤ (I' 2774) ∧ (I' 2775) = (I 2775) ∧ (I' 4289) = (I 4289) + 0 ∧ (I' 5889) = (I 5889)) ∧ ((I' 3905) + 2 ≤ (I 3905) + 3 * ((I' 2774) - (I 2774)) ∧ (I 3905) ≤ v ∧ v + 1 = (I' 3905) ∧ (I 4033) ≤ (I' 4033) ∧ (I' 4033) ≤ (I 4033) + ((I' 2774) - (I 2774)))) ∧ (m_SC I' A') ∧ (m_TR lo' I' A') ∧ (m_ST lo I A lo' I' A') ∧ ((fun k => k = 11) ((A' 53) (v))) ∧ (m_rt lo' (I' 3905) v) ∧ (m_RK lo' (I 3905) (I' 3905) (8 * (24 - (I 2775)) + 0))) ∨ (∃ (I' : Nat → Int) (A' : Nat → Int → Int) (B' C' : Nat → Nat), (r = .inr 69) ∧ (w_Rep w_TM fr X u l I' A' B' C' M') ∧ (m_fx I A I' A'))
set_option maxHeartbeats 100000000 in
set_option maxRecDepth 100000 in
theorem m_applied {L : Nat} {xs : Nat → Int32} {d : Nat} {fr : Nat → Bool} {X : Nat → Option (q_C (Nat → Int32))} {u l : Nat} {I : Nat → Int} {A : Nat → Int → Int} {B C : Nat → Nat} {M : w_M} {N : Int} (hA : m_all L xs N) (lo : Int → Int × Int) (hR : w_Rep w_TM fr X u l I A B C M) (hd : 20 * (24 - (I 2775)) + 11 ≤ (d : Int)) (hTK : m_TK I A) (hNU : (0 ≤ (I 2774) ∧ (I 2774) < (I 2754) ∧ (I 2754) ≤ 1501 ∧ 0 ≤ (I 2775) ∧ (I 2775) ≤ 24) ∧ ((I 3393) = (I 3905) ∧ (I 3521) = (I 3905) ∧ (I 3649) = (I 3905) ∧ (I 3777) = (I 3905) ∧ 0 ≤ (I 3905) ∧ (I 3905) ≤ 3 * (I 2774)) ∧ ((I 4161) = (I 4033) ∧ 7 ≤ (I 4289) ∧ (I 4289) ≤ (I 4033) ∧ (I 4033) ≤ 7 + (I 2774)) ∧ 0 ≤ (I 5889) ∧ (I 5889) ≤ (I 2774)) (hSC : m_SC I A) (hTR : m_TR lo I A) (hk : 1 ≤ (A 45) ((I 2774)) ∧ (A 45) ((I 2774)) ≤ 6) (hm : (I 2754) - (I 2774) ≤ N) : w_W (z_P L xs) d 266 (0, [(0, .ref 43)], [], M) (m_applied_Q fr X u l I A B C M lo) := by
  obtain ⟨d, rfl⟩ : ∃ d0, d = d0 + 1 := ⟨d - 1, by omega⟩
  have wl : (I 2774) + 1 < (I 2754) := m_TK_lt hTK (by omega) (by omega) (by omega)
  refine w_adv (n := 1) (F' := (1, [(0, .ref 43)], [.ref 43], M)) rfl ?_
  refine w_call (cm := 235) (as := [(0, .ref 43)]) (rest := []) (o := some (9, 43)) rfl (w_fitR hR rfl) (m_enter hR (show 2 ≤ d by omega) (show 0 ≤ (I 2774) ∧ (I 2774) < 1501 by omega) (show 0 ≤ (I 2775) ∧ (I 2775) ≤ 24 by first | assumption | omega)) (fun r1 M2 q3 => ?_)
  rcases q3 with ⟨e4, hR3a, f5⟩ | ⟨I3b, A3b, B3b, C3b, e6, hR3b, f7⟩
  · rw [e4]
    replace hR3a : w_Rep w_TM fr X u l (w_up (w_up I 2775 ((I 2775) + 1)) 2774 ((I 2774) + 1)) A B C M2 := hR3a
    replace f5 : (I 2775) < 24 := f5
    have w8 : (I 2774) + 1 < (I 2754) := m_TK_lt hTK (show (I 2774) < (I 2754) by omega) (show 1 ≤ (A 45) ((I 2774)) by omega) (show (A 45) ((I 2774)) ≤ 6 by omega)
    show w_W _ _ _ (4, [(0, .ref 43)], [], M2) _
    refine w_adv (n := 1) (F' := (5, [(0, .ref 43)], [.ref 43], M2)) rfl ?_
    refine w_call (cm := 229) (as := [(0, .ref 43)]) (rest := []) (o := some (9, 43)) rfl (w_fitR hR3a rfl) (m_beginsExp hR3a (show 3 ≤ d by omega) (show m_TK (w_up (w_up I 2775 ((I 2775) + 1)) 2774 ((I 2774) + 1)) A by exact hTK) (show (0 ≤ (I 2774) + 1 ∧ (I 2774) + 1 < (I 2754) ∧ (I 2754) ≤ 1501 ∧ 0 ≤ (I 2775) + 1 ∧ (I 2775) + 1 ≤ 24) ∧ ((I 3393) = (I 3905) ∧ (I 3521) = (I 3905) ∧ (I 3649) = (I 3905) ∧ (I 3777) = (I 3905) ∧ 0 ≤ (I 3905) ∧ (I 3905) ≤ 3 * ((I 2774) + 1)) ∧ ((I 4161) = (I 4033) ∧ 7 ≤ (I 4289) ∧ (I 4289) ≤ (I 4033) ∧ (I 4033) ≤ 7 + ((I 2774) + 1)) ∧ 0 ≤ (I 5889) ∧ (I 5889) ≤ (I 2774) + 1 by (repeat' apply And.intro) <;> first | assumption | omega)) (fun r9 M10 q11 => ?_)
    rcases q11 with ⟨e12, e13, f14, f15⟩ | ⟨e16, e17, f18⟩
    · rw [e12, e13]
      replace f14 : 1 ≤ (A 45) ((I 2774) + 1) ∧ (A 45) ((I 2774) + 1) ≤ 6 := f14
      obtain ⟨n19, n20⟩ := id f14
      clear f14
      replace f15 : m_be ((A 45) ((I 2774) + 1)) ((A 46) ((I 2774) + 1)) := f15
      have w21 : ((I 2774) + 1) + 1 < (I 2754) := m_TK_lt hTK (by omega) (by omega) (by omega)
      show w_W _ _ _ (8, [(0, .ref 43)], [.int (Int32.ofInt (1))], M2) _
      refine w_adv (n := 4) (F' := (20, [(0, .ref 43)], [.ref 43, .int (Int32.ofInt (29)), .ref 43], M2)) rfl ?_
      refine w_call (cm := 245) (as := [(0, .ref 43)]) (rest := [.int (Int32.ofInt (29)), .ref 43]) (o := some (9, 43)) rfl (w_fitR hR3a rfl) (hA.1 (lo) hR3a (show 20 * (24 - ((I 2775) + 1)) + 17 ≤ (d : Int) by omega) (show m_TK (w_up (w_up I 2775 ((I 2775) + 1)) 2774 ((I 2774) + 1)) A by exact hTK) (show (0 ≤ (I 2774) + 1 ∧ (I 2774) + 1 < (I 2754) ∧ (I 2754) ≤ 1501 ∧ 0 ≤ (I 2775) + 1 ∧ (I 2775) + 1 ≤ 24) ∧ ((I 3393) = (I 3905) ∧ (I 3521) = (I 3905) ∧ (I 3649) = (I 3905) ∧ (I 3777) = (I 3905) ∧ 0 ≤ (I 3905) ∧ (I 3905) ≤ 3 * ((I 2774) + 1)) ∧ ((I 4161) = (I 4033) ∧ 7 ≤ (I 4289) ∧ (I 4289) ≤ (I 4033) ∧ (I 4033) ≤ 7 + ((I 2774) + 1)) ∧ 0 ≤ (I 5889) ∧ (I 5889) ≤ (I 2774) + 1 by (repeat' apply And.intro) <;> first | assumption | omega) (show m_SC (w_up (w_up I 2775 ((I 2775) + 1)) 2774 ((I 2774) + 1)) A by exact hSC) (show m_TR lo (w_up (w_up I 2775 ((I 2775) + 1)) 2774 ((I 2774) + 1)) A by exact hTR) (show (I 2754) - ((I 2774) + 1) < N by first | assumption | omega)) (fun r22 M23 q24 => ?_)
      rcases q24 with ⟨v25, lo26, I24a, A24a, B24a, C24a, e27, ⟨r28, r29⟩, hR24a, f30, f31, f32, f33, f34, f35, f36, f37⟩ | ⟨I24b, A24b, B24b, C24b, e38, hR24b, f39⟩
      · rw [e27]
        replace hR24a : w_Rep w_TM fr X u l I24a A24a B24a C24a M23 := hR24a
        replace f30 : m_fx (w_up (w_up I 2775 ((I 2775) + 1)) 2774 ((I 2774) + 1)) A I24a A24a := f30
        replace f31 : ((0 ≤ (I24a 2774) ∧ (I24a 2774) < (I24a 2754) ∧ (I24a 2754) ≤ 1501 ∧ 0 ≤ (I24a 2775) ∧ (I24a 2775) ≤ 24) ∧ ((I24a 3393) = (I24a 3905) ∧ (I24a 3521) = (I24a 3905) ∧ (I24a 3649) = (I24a 3905) ∧ (I24a 3777) = (I24a 3905) ∧ 0 ≤ (I24a 3905) ∧ (I24a 3905) ≤ 3 * (I24a 2774)) ∧ ((I24a 4161) = (I24a 4033) ∧ 7 ≤ (I24a 4289) ∧ (I24a 4289) ≤ (I24a 4033) ∧ (I24a 4033) ≤ 7 + (I24a 2774)) ∧ 0 ≤ (I24a 5889) ∧ (I24a 5889) ≤ (I24a 2774)) ∧ ((I24a 2754) = (I 2754) ∧ ((I 2774) + 1) + 1 ≤ (I24a 2774) ∧ (I24a 2775) = (I 2775) + 1 ∧ (I24a 4289) = (I 4289) + 0 ∧ (I24a 5889) = (I 5889)) ∧ ((I24a 3905) + 2 ≤ (I 3905) + 3 * ((I24a 2774) - ((I 2774) + 1)) ∧ (I 3905) ≤ v25 ∧ v25 + 1 = (I24a 3905) ∧ (I 4033) ≤ (I24a 4033) ∧ (I24a 4033) ≤ (I 4033) + ((I24a 2774) - ((I 2774) + 1))) := f31
        obtain ⟨⟨⟨n40, n41, n42, n43, n44⟩, ⟨n45, n46, n47, n48, n49, n50⟩, ⟨n51, n52, n53, n54⟩, n55, n56⟩, ⟨n57, n58, n59, n60, n61⟩, ⟨n62, n63, n64, n65, n66⟩⟩ := id f31
        clear f31
        replace f32 : m_SC I24a A24a := f32
        replace f33 : m_TR lo26 I24a A24a := f33
        replace f34 : m_ST lo (w_up (w_up I 2775 ((I 2775) + 1)) 2774 ((I 2774) + 1)) A lo26 I24a A24a := f34
        replace f35 : t_E ((A24a 53) (v25)) := f35
        replace f36 : m_rt lo26 (I24a 3905) v25 := f36
        replace f37 : m_RK lo26 (I 3905) (I24a 3905) (8 * (24 - ((I 2775) + 1)) + 5) := f37
        have tk67 : m_TK I24a A24a := m_TK_fx f30 hTK
        have nn68 : (I 3905) ≤ (I24a 3905) := by omega
        have nz69 : 0 ≤ (I 3905) := by first | assumption | omega
        have ho70 : (I 2775) + 1 = (I 2775) + (1) := by omega
        have rk72 : m_RK lo26 (I 3905) (I24a 3905) (8 * (24 - (I 2775)) + (-3)) := m_RK_app (I := (w_up (w_up I 2775 ((I 2775) + 1)) 2774 ((I 2774) + 1))) (I' := I24a) (R := (8 * (24 - (I 2775)) + (-3))) (show m_RK lo (I 3905) (I 3905) (8 * (24 - (I 2775)) + (-3)) from fun q q1 q2 => by omega) f34 f37 (show 0 ≤ (I 3905) by first | assumption | omega) (m_r8 (by decide)) (m_r8o (k := 1) ho70 (by decide))
        have s71 : m_ST lo I A lo26 I24a A24a := f34
        have k73 : m_kd lo26 I24a A24a (I 3905) (8 * (24 - ((I 2775) + 1)) + 5) v25 t_E := m_kd_of f34 f33 nz69 (show (I 3905) ≤ v25 by first | assumption | omega) (show v25 < (I24a 3905) by omega) f35 f37
        obtain ⟨j74, j75, j76, j77, j78⟩ := k73.1
        show w_W _ _ _ (23, [(0, .ref 43)], [.int (Int32.ofInt (v25)), .int (Int32.ofInt (29)), .ref 43], M23) _
        refine w_adv (n := 2) (F' := (25, [(0, .ref 43)], [.int (Int32.ofInt (0)), .int (Int32.ofInt (0)), .int (Int32.ofInt (v25)), .int (Int32.ofInt (29)), .ref 43], M23)) rfl ?_
        refine w_call (cm := 239) (as := [(0, .ref 43), (1, .int (Int32.ofInt (29))), (2, .int (Int32.ofInt (v25))), (3, .int (Int32.ofInt (0))), (4, .int (Int32.ofInt (0)))]) (rest := []) (o := some (9, 43)) rfl (w_fitR hR24a rfl) (m_node (29) (v25) (0) (0) hR24a (show 2 ≤ d by omega) ⟨by omega, by omega⟩ ⟨by omega, by omega⟩ ⟨by omega, by omega⟩ ⟨by omega, by omega⟩ (show (I24a 3393) = (I24a 3905) by first | assumption | omega) (show (I24a 3521) = (I24a 3905) by first | assumption | omega) (show (I24a 3649) = (I24a 3905) by first | assumption | omega) (show (I24a 3777) = (I24a 3905) by first | assumption | omega) (show (I24a 3905) < 65536 by first | assumption | omega)) (fun r79 M80 q81 => ?_)
        rcases q81 with ⟨v82, I81a, A81a, B81a, C81a, e83, ⟨r84, r85⟩, hR81a, f86, f87⟩
        rw [e83]
        replace hR81a : w_Rep w_TM fr X u l I81a A81a B81a C81a M80 := hR81a
        replace f86 : m_fx I24a A24a I81a A81a := f86
        replace f87 : m_nd I24a A24a I81a A81a v82 29 v25 0 0 := f87
        obtain ⟨⟨n88, n89, n90, n91, n92, n93⟩, ⟨n94, n95, n96, n97, n98, n99, n100⟩⟩ : (v82 = (I24a 3905) ∧ (I81a 3905) = (I24a 3905) + 1 ∧ (I81a 3393) = (I24a 3393) + 1 ∧ (I81a 3521) = (I24a 3521) + 1 ∧ (I81a 3649) = (I24a 3649) + 1 ∧ (I81a 3777) = (I24a 3777) + 1) ∧ ((I81a 2774) = (I24a 2774) ∧ (I81a 2754) = (I24a 2754) ∧ (I81a 2775) = (I24a 2775) ∧ (I81a 4289) = (I24a 4289) ∧ (I81a 4033) = (I24a 4033) ∧ (I81a 4161) = (I24a 4161) ∧ (I81a 5889) = (I24a 5889)) := m_nd_num f87
        have tk101 : m_TK I81a A81a := m_TK_fx f86 tk67
        have sc102 : m_SC I81a A81a := m_SC_nd f87 f32
        have tr103 : m_TR (t_up lo26 v82 (I 3905) (8 * (24 - (I 2775)) + (-2))) I81a A81a := m_TR_nd (show m_TR lo26 I24a A24a from f33) f87 (show 0 ≤ (I 3905) by omega) (show (I 3905) ≤ v82 by omega) (m_cl_ST (show m_ST lo I A lo26 I24a A24a from s71) hTR (show 0 ≤ (I 3905) by omega)) (t_N_mk29 t_up_same (show 0 ≤ (I 3905) by omega) (show (I 3905) ≤ v82 by omega) (show 0 ≤ (8 * (24 - (I 2775)) + (-2)) by omega) (m_hw (show m_RK lo26 (I 3905) v82 (8 * (24 - (I 2775)) + (-3)) from fun q q1 q2 => (show m_RK lo26 (I 3905) (I24a 3905) (8 * (24 - (I 2775)) + (-3)) from rk72) q (show (I 3905) ≤ q by omega) (show q < (I24a 3905) by omega)) (m_r8l (by decide))) (m_ch f87 (show (I 3905) ≤ (I 3905) by omega) (show m_kd lo26 I24a A24a (I 3905) (8 * (24 - ((I 2775) + 1)) + 5) v25 t_E from k73)))
        have s104 : m_ST lo I A (t_up lo26 v82 (I 3905) (8 * (24 - (I 2775)) + (-2))) I81a A81a := m_ST_nd (l := (I 3905)) (show m_ST lo I A lo26 I24a A24a from s71) f87 (show (I 3905) ≤ (I 3905) by omega) (show (I 3905) ≤ (I24a 3905) by omega)
        have rk105 : m_RK (t_up lo26 v82 (I 3905) (8 * (24 - (I 2775)) + (-2))) (I 3905) (I81a 3905) (8 * (24 - (I 2775)) + (-2)) := fun q q1 q2 => m_RK_nd (show m_RK lo26 (I 3905) v82 (8 * (24 - (I 2775)) + (-3)) from fun q q1 q2 => (show m_RK lo26 (I 3905) (I24a 3905) (8 * (24 - (I 2775)) + (-3)) from rk72) q q1 (show q < (I24a 3905) by omega)) (m_r8 (by decide)) (m_r8 (by decide)) q q1 (show q < v82 + 1 by omega)
        have k106 : m_kd (t_up lo26 v82 (I 3905) (8 * (24 - (I 2775)) + (-2))) I81a A81a (I 3905) (8 * (24 - (I 2775)) + (-2)) v82 (fun k => k = 29) := m_kd_new f87 (show 0 ≤ (I 3905) by omega) (show (I 3905) ≤ v82 by omega) rfl
        have rt107 : m_rt (t_up lo26 v82 (I 3905) (8 * (24 - (I 2775)) + (-2))) (I81a 3905) v82 := m_rt_new f87
        show w_W _ _ _ (28, [(0, .ref 43)], [.int (Int32.ofInt (v82))], M80) _
        refine w_adv (n := 3) (F' := (31, [(1, .int (Int32.ofInt (v82))), (0, .ref 43)], [.int (Int32.ofInt (1)), .ref 43], M80)) rfl ?_
        refine w_call (cm := 265) (as := [(0, .ref 43), (1, .int (Int32.ofInt (1)))]) (rest := []) (o := some (9, 43)) rfl (w_fitR hR81a rfl) (m_elements hA (1) ((t_up lo26 v82 (I 3905) (8 * (24 - (I 2775)) + (-2)))) hR81a (show 20 * (24 - (I81a 2775)) + 22 ≤ (d : Int) by omega) ⟨by omega, by omega⟩ (show m_TK I81a A81a by exact tk101) (show (0 ≤ (I81a 2774) ∧ (I81a 2774) < (I81a 2754) ∧ (I81a 2754) ≤ 1501 ∧ 0 ≤ (I81a 2775) ∧ (I81a 2775) ≤ 24) ∧ ((I81a 3393) = (I81a 3905) ∧ (I81a 3521) = (I81a 3905) ∧ (I81a 3649) = (I81a 3905) ∧ (I81a 3777) = (I81a 3905) ∧ 0 ≤ (I81a 3905) ∧ (I81a 3905) ≤ 3 * (I81a 2774)) ∧ ((I81a 4161) = (I81a 4033) ∧ 7 ≤ (I81a 4289) ∧ (I81a 4289) ≤ (I81a 4033) ∧ (I81a 4033) ≤ 7 + (I81a 2774)) ∧ 0 ≤ (I81a 5889) ∧ (I81a 5889) ≤ (I81a 2774) by (repeat' apply And.intro) <;> first | assumption | omega) (show m_SC I81a A81a by exact sc102) (show m_TR (t_up lo26 v82 (I 3905) (8 * (24 - (I 2775)) + (-2))) I81a A81a by exact tr103) (show (I81a 2754) - (I81a 2774) < N by first | assumption | omega)) (fun r108 M109 q110 => ?_)
        rcases q110 with ⟨v111, lo112, I110a, A110a, B110a, C110a, e113, ⟨r114, r115⟩, hR110a, f116, f117, f118, f119, f120, f121, f122, f123⟩ | ⟨I110b, A110b, B110b, C110b, e124, hR110b, f125⟩
        · rw [e113]
          replace hR110a : w_Rep w_TM fr X u l I110a A110a B110a C110a M109 := hR110a
          replace f116 : m_fx I81a A81a I110a A110a := f116
          replace f117 : ((0 ≤ (I110a 2774) ∧ (I110a 2774) < (I110a 2754) ∧ (I110a 2754) ≤ 1501 ∧ 0 ≤ (I110a 2775) ∧ (I110a 2775) ≤ 24) ∧ ((I110a 3393) = (I110a 3905) ∧ (I110a 3521) = (I110a 3905) ∧ (I110a 3649) = (I110a 3905) ∧ (I110a 3777) = (I110a 3905) ∧ 0 ≤ (I110a 3905) ∧ (I110a 3905) ≤ 3 * (I110a 2774)) ∧ ((I110a 4161) = (I110a 4033) ∧ 7 ≤ (I110a 4289) ∧ (I110a 4289) ≤ (I110a 4033) ∧ (I110a 4033) ≤ 7 + (I110a 2774)) ∧ 0 ≤ (I110a 5889) ∧ (I110a 5889) ≤ (I110a 2774)) ∧ ((I110a 2754) = (I81a 2754) ∧ (I81a 2774) + 0 ≤ (I110a 2774) ∧ (I110a 2775) = (I81a 2775) ∧ (I110a 4289) = (I81a 4289) + 0 ∧ (I110a 5889) = (I81a 5889)) ∧ ((I110a 3905) + 0 ≤ (I81a 3905) + 3 * ((I110a 2774) - (I81a 2774)) ∧ (I81a 3905) ≤ (I110a 3905) ∧ -1 ≤ v111 ∧ v111 < (I110a 3905) ∧ (I81a 4033) ≤ (I110a 4033) ∧ (I110a 4033) ≤ (I81a 4033) + ((I110a 2774) - (I81a 2774))) := f117
          obtain ⟨⟨⟨n126, n127, n128, n129, n130⟩, ⟨n131, n132, n133, n134, n135, n136⟩, ⟨n137, n138, n139, n140⟩, n141, n142⟩, ⟨n143, n144, n145, n146, n147⟩, ⟨n148, n149, n150, n151, n152, n153⟩⟩ := id f117
          clear f117
          replace f118 : m_SC I110a A110a := f118
          replace f119 : m_TR lo112 I110a A110a := f119
          replace f120 : m_ST (t_up lo26 v82 (I 3905) (8 * (24 - (I 2775)) + (-2))) I81a A81a lo112 I110a A110a := f120
          replace f121 : v111 = -1 ∨ m_kd lo112 I110a A110a (I81a 3905) (8 * (24 - (I81a 2775)) + 6) v111 (fun k => k = 29) := f121
          replace f122 : v111 = -1 ∨ m_rt lo112 (I110a 3905) v111 := f122
          replace f123 : m_RK lo112 (I81a 3905) (I110a 3905) (8 * (24 - (I81a 2775)) + 6) := f123
          have tk154 : m_TK I110a A110a := m_TK_fx f116 tk101
          have nn155 : (I81a 3905) ≤ (I110a 3905) := by omega
          have nz156 : 0 ≤ (I81a 3905) := by first | assumption | omega
          have ho157 : (I81a 2775) = (I 2775) + (1) := by omega
          have rk159 : m_RK lo112 (I 3905) (I110a 3905) (8 * (24 - (I 2775)) + (-2)) := m_RK_app (I := I81a) (I' := I110a) (R := (8 * (24 - (I 2775)) + (-2))) (show m_RK (t_up lo26 v82 (I 3905) (8 * (24 - (I 2775)) + (-2))) (I 3905) (I81a 3905) (8 * (24 - (I 2775)) + (-2)) from rk105) f120 f123 (show 0 ≤ (I 3905) by first | assumption | omega) (m_r8 (by decide)) (m_r8o (k := 1) ho157 (by decide))
          have s158 : m_ST lo I A lo112 I110a A110a := m_ST_trans (show m_ST lo I A (t_up lo26 v82 (I 3905) (8 * (24 - (I 2775)) + (-2))) I81a A81a from s104) f120 (show 0 ≤ (I 3905) by first | assumption | omega) (show (I 3905) ≤ (I81a 3905) by first | assumption | omega) (show (I 4289) ≤ (I81a 4289) by first | assumption | omega) (show (I 5889) ≤ (I81a 5889) by first | assumption | omega)
          have k160 : m_kd lo112 I110a A110a (I 3905) (8 * (24 - (I 2775)) + (-2)) v82 (fun k => k = 29) := m_kd_ST f120 nn155 k106
          have rt161 := m_rt_ST f120 (show 0 ≤ v82 by omega) (show v82 < (I81a 3905) by omega) rt107
          show w_W _ _ _ (34, [(1, .int (Int32.ofInt (v82))), (0, .ref 43)], [.int (Int32.ofInt (v111))], M109) _
          refine w_adv (n := 2) (F' := (36, [(2, .int (Int32.ofInt (v111))), (1, .int (Int32.ofInt (v82))), (0, .ref 43)], [.ref 43], M109)) rfl ?_
          refine w_gf (v := .ref 61) hR110a rfl rfl rfl rfl ?_
          refine w_gf (v := .ref (B110a 61)) hR110a rfl rfl rfl rfl ?_
          refine w_adv (n := 2) (F' := (44, [(2, .int (Int32.ofInt (v111))), (1, .int (Int32.ofInt (v82))), (0, .ref 43)], [.int (Int32.ofInt (v111)), .int (Int32.ofInt (v82)), .ref (B110a 61)], M109)) rfl ?_
          obtain ⟨r164a, r164b, r164c⟩ : 0 ≤ (I110a 3905) ∧ (I110a 3905) ≤ (C110a 61 : Int) ∧ (C110a 61 : Int) ≤ 131072 := hR110a.sz (show 61 ∈ w_TM.2.2 by decide)
          refine w_sr hR110a rfl (by decide) (show 0 ≤ v82 by omega) (show v82 < (C110a 61 : Int) by omega) (show w_in (v111) from ⟨by omega, by omega⟩) (fun M162 hR163 => ?_)
          replace hR163 : w_Rep w_TM fr X u l I110a (w_upF A110a 61 (w_upA (A110a 61) (v82) (v111))) B110a C110a M162 := hR163
          have t165 : v111 = -1 ∨ t_L ((A110a 53) (v82)) ((A110a 53) (v111)) := (show v111 = -1 ∨ m_kd lo112 I110a A110a (I81a 3905) (8 * (24 - (I81a 2775)) + 6) v111 (fun k => k = 29) from f121).imp_right (fun q => Or.inl ⟨by have q1 : (A110a 53) (v82) = 29 := k160.2; have q2 : (A110a 53) (v111) = 29 := q.2; omega, by have q1 : (A110a 53) (v82) = 29 := k160.2; omega⟩)
          have tr166 : m_TR lo112 I110a (w_upF A110a 61 (w_upA (A110a 61) (v82) (v111))) := m_TR_link2 (l := (I81a 3905)) (R := (8 * (24 - (I81a 2775)) + 6)) (K := (fun k => k = 29)) (show m_TR lo112 I110a A110a from f119) rfl rfl rfl rfl rfl (show 0 ≤ v82 by omega) rt161 (f121) (f122) (show v82 < (I81a 3905) by omega) t165
          have s167 : m_ST lo I A lo112 I110a (w_upF A110a 61 (w_upA (A110a 61) (v82) (v111))) := m_ST_link (show m_ST lo I A lo112 I110a A110a from s158) (show (I 3905) ≤ v82 by omega) rfl rfl rfl rfl rfl rfl rfl
          refine w_adv (n := 2) (F' := (48, [(2, .int (Int32.ofInt (v111))), (1, .int (Int32.ofInt (v82))), (0, .ref 43)], [.int (Int32.ofInt (125)), .ref 43], M162)) rfl ?_
          refine w_call (cm := 264) (as := [(0, .ref 43), (1, .int (Int32.ofInt (125)))]) (rest := []) (o := some (9, 43)) rfl (w_fitR hR163 rfl) (m_closeSign (125) hR163 (show 3 ≤ d by omega) ⟨by omega, by omega⟩ (show 0 ≤ (I110a 2774) ∧ (I110a 2774) < 1501 by omega) (show 1 ≤ (I110a 2775) ∧ (I110a 2775) ≤ 24 by first | assumption | omega)) (fun r168 M169 q170 => ?_)
          rcases q170 with ⟨e171, hR170a, f172⟩ | ⟨I170b, A170b, B170b, C170b, e173, hR170b, f174⟩
          · rw [e171]
            replace hR170a : w_Rep w_TM fr X u l (w_up (w_up I110a 2774 ((I110a 2774) + 1)) 2775 ((I110a 2775) - 1)) (w_upF A110a 61 (w_upA (A110a 61) (v82) (v111))) B110a C110a M169 := hR170a
            replace f172 : (A110a 45) ((I110a 2774)) = 6 ∧ (A110a 46) ((I110a 2774)) = 125 := f172
            obtain ⟨n175, n176⟩ := id f172
            clear f172
            have w177 : (I110a 2774) + 1 < (I110a 2754) := m_TK_lt tk154 (show (I110a 2774) < (I110a 2754) by omega) (show 1 ≤ (A110a 45) ((I110a 2774)) by omega) (show (A110a 45) ((I110a 2774)) ≤ 6 by omega)
            show w_W _ _ _ (51, [(2, .int (Int32.ofInt (v111))), (1, .int (Int32.ofInt (v82))), (0, .ref 43)], [], M169) _
            refine w_adv (n := 5) (F' := (57, [(2, .int (Int32.ofInt (v111))), (1, .int (Int32.ofInt (v82))), (0, .ref 43)], [.int (Int32.ofInt (0)), .int (Int32.ofInt (0)), .int (Int32.ofInt (v82)), .int (Int32.ofInt (11)), .ref 43], M169)) rfl ?_
            refine w_call (cm := 239) (as := [(0, .ref 43), (1, .int (Int32.ofInt (11))), (2, .int (Int32.ofInt (v82))), (3, .int (Int32.ofInt (0))), (4, .int (Int32.ofInt (0)))]) (rest := []) (o := some (9, 43)) rfl (w_fitR hR170a rfl) (m_node (11) (v82) (0) (0) hR170a (show 2 ≤ d by omega) ⟨by omega, by omega⟩ ⟨by omega, by omega⟩ ⟨by omega, by omega⟩ ⟨by omega, by omega⟩ (show (I110a 3393) = (I110a 3905) by first | assumption | omega) (show (I110a 3521) = (I110a 3905) by first | assumption | omega) (show (I110a 3649) = (I110a 3905) by first | assumption | omega) (show (I110a 3777) = (I110a 3905) by first | assumption | omega) (show (I110a 3905) < 65536 by first | assumption | omega)) (fun r178 M179 q180 => ?_)
            rcases q180 with ⟨v181, I180a, A180a, B180a, C180a, e182, ⟨r183, r184⟩, hR180a, f185, f186⟩
            rw [e182]
            replace hR180a : w_Rep w_TM fr X u l I180a A180a B180a C180a M179 := hR180a
            replace f185 : m_fx (w_up (w_up I110a 2774 ((I110a 2774) + 1)) 2775 ((I110a 2775) - 1)) (w_upF A110a 61 (w_upA (A110a 61) (v82) (v111))) I180a A180a := f185
            replace f186 : m_nd (w_up (w_up I110a 2774 ((I110a 2774) + 1)) 2775 ((I110a 2775) - 1)) (w_upF A110a 61 (w_upA (A110a 61) (v82) (v111))) I180a A180a v181 11 v82 0 0 := f186
            obtain ⟨⟨n187, n188, n189, n190, n191, n192⟩, ⟨n193, n194, n195, n196, n197, n198, n199⟩⟩ : (v181 = (I110a 3905) ∧ (I180a 3905) = (I110a 3905) + 1 ∧ (I180a 3393) = (I110a 3393) + 1 ∧ (I180a 3521) = (I110a 3521) + 1 ∧ (I180a 3649) = (I110a 3649) + 1 ∧ (I180a 3777) = (I110a 3777) + 1) ∧ ((I180a 2774) = (I110a 2774) + 1 ∧ (I180a 2754) = (I110a 2754) ∧ (I180a 2775) = (I110a 2775) - 1 ∧ (I180a 4289) = (I110a 4289) ∧ (I180a 4033) = (I110a 4033) ∧ (I180a 4161) = (I110a 4161) ∧ (I180a 5889) = (I110a 5889)) := m_nd_num f186
            have tk200 : m_TK I180a A180a := m_TK_fx f185 tk154
            have sc201 : m_SC I180a A180a := m_SC_nd f186 f118
            have tr202 : m_TR (t_up lo112 v181 (I 3905) (8 * (24 - (I 2775)) + (-1))) I180a A180a := m_TR_nd (show m_TR lo112 (w_up (w_up I110a 2774 ((I110a 2774) + 1)) 2775 ((I110a 2775) - 1)) (w_upF A110a 61 (w_upA (A110a 61) (v82) (v111))) from tr166) f186 (show 0 ≤ (I 3905) by omega) (show (I 3905) ≤ v181 by omega) (m_cl_ST (show m_ST lo I A lo112 (w_up (w_up I110a 2774 ((I110a 2774) + 1)) 2775 ((I110a 2775) - 1)) (w_upF A110a 61 (w_upA (A110a 61) (v82) (v111))) from s167) hTR (show 0 ≤ (I 3905) by omega)) (t_N_mk11 t_up_same (show 0 ≤ (I 3905) by omega) (show (I 3905) ≤ v181 by omega) (show 0 ≤ (8 * (24 - (I 2775)) + (-1)) by omega) (m_hw (show m_RK lo112 (I 3905) v181 (8 * (24 - (I 2775)) + (-2)) from fun q q1 q2 => (show m_RK lo112 (I 3905) (I110a 3905) (8 * (24 - (I 2775)) + (-2)) from rk159) q (show (I 3905) ≤ q by omega) (show q < (I110a 3905) by omega)) (m_r8l (by decide))) (m_ch f186 (show (I 3905) ≤ (I 3905) by omega) (show m_kd lo112 (w_up (w_up I110a 2774 ((I110a 2774) + 1)) 2775 ((I110a 2775) - 1)) (w_upF A110a 61 (w_upA (A110a 61) (v82) (v111))) (I 3905) (8 * (24 - (I 2775)) + (-2)) v82 (fun k => k = 29) from k160)))
            have s203 : m_ST lo I A (t_up lo112 v181 (I 3905) (8 * (24 - (I 2775)) + (-1))) I180a A180a := m_ST_nd (l := (I 3905)) (show m_ST lo I A lo112 (w_up (w_up I110a 2774 ((I110a 2774) + 1)) 2775 ((I110a 2775) - 1)) (w_upF A110a 61 (w_upA (A110a 61) (v82) (v111))) from s167) f186 (show (I 3905) ≤ (I 3905) by omega) (show (I 3905) ≤ (I110a 3905) by omega)
            have rk204 : m_RK (t_up lo112 v181 (I 3905) (8 * (24 - (I 2775)) + (-1))) (I 3905) (I180a 3905) (8 * (24 - (I 2775)) + (-1)) := fun q q1 q2 => m_RK_nd (show m_RK lo112 (I 3905) v181 (8 * (24 - (I 2775)) + (-2)) from fun q q1 q2 => (show m_RK lo112 (I 3905) (I110a 3905) (8 * (24 - (I 2775)) + (-2)) from rk159) q q1 (show q < (I110a 3905) by omega)) (m_r8 (by decide)) (m_r8 (by decide)) q q1 (show q < v181 + 1 by omega)
            have k205 : m_kd (t_up lo112 v181 (I 3905) (8 * (24 - (I 2775)) + (-1))) I180a A180a (I 3905) (8 * (24 - (I 2775)) + (-1)) v181 (fun k => k = 11) := m_kd_new f186 (show 0 ≤ (I 3905) by omega) (show (I 3905) ≤ v181 by omega) rfl
            have rt206 : m_rt (t_up lo112 v181 (I 3905) (8 * (24 - (I 2775)) + (-1))) (I180a 3905) v181 := m_rt_new f186
            show w_W _ _ _ (60, [(2, .int (Int32.ofInt (v111))), (1, .int (Int32.ofInt (v82))), (0, .ref 43)], [.int (Int32.ofInt (v181))], M179) _
            refine w_fin (r := .inl (some (v181))) (M' := M179) rfl ?_
            exact Or.inl ⟨v181, (t_up lo112 v181 (I 3905) (8 * (24 - (I 2775)) + (-1))), I180a, A180a, B180a, C180a, rfl, ⟨by omega, by omega⟩, hR180a, (show m_fx I A I180a A180a by exact (m_fx_trans (m_fx_trans (m_fx_trans f30 f86) f116) f185)), (show ((0 ≤ (I180a 2774) ∧ (I180a 2774) < (I180a 2754) ∧ (I180a 2754) ≤ 1501 ∧ 0 ≤ (I180a 2775) ∧ (I180a 2775) ≤ 24) ∧ ((I180a 3393) = (I180a 3905) ∧ (I180a 3521) = (I180a 3905) ∧ (I180a 3649) = (I180a 3905) ∧ (I180a 3777) = (I180a 3905) ∧ 0 ≤ (I180a 3905) ∧ (I180a 3905) ≤ 3 * (I180a 2774)) ∧ ((I180a 4161) = (I180a 4033) ∧ 7 ≤ (I180a 4289) ∧ (I180a 4289) ≤ (I180a 4033) ∧ (I180a 4033) ≤ 7 + (I180a 2774)) ∧ 0 ≤ (I180a 5889) ∧ (I180a 5889) ≤ (I180a 2774)) ∧ ((I180a 2754) = (I 2754) ∧ (I 2774) + 1 ≤ (I180a 2774) ∧ (I180a 2775) = (I 2775) ∧ (I180a 4289) = (I 4289) + 0 ∧ (I180a 5889) = (I 5889)) ∧ ((I180a 3905) + 2 ≤ (I 3905) + 3 * ((I180a 2774) - (I 2774)) ∧ (I 3905) ≤ v181 ∧ v181 + 1 = (I180a 3905) ∧ (I 4033) ≤ (I180a 4033) ∧ (I180a 4033) ≤ (I 4033) + ((I180a 2774) - (I 2774))) by (repeat' apply And.intro) <;> first | assumption | omega), (show m_SC I180a A180a by exact sc201), (show m_TR (t_up lo112 v181 (I 3905) (8 * (24 - (I 2775)) + (-1))) I180a A180a by exact tr202), (show m_ST lo I A (t_up lo112 v181 (I 3905) (8 * (24 - (I 2775)) + (-1))) I180a A180a by exact s203), (show (fun k => k = 11) ((A180a 53) (v181)) by exact (k205).2), (show m_rt (t_up lo112 v181 (I 3905) (8 * (24 - (I 2775)) + (-1))) (I180a 3905) v181 by exact rt206), (show m_RK (t_up lo112 v181 (I 3905) (8 * (24 - (I 2775)) + (-1))) (I 3905) (I180a 3905) (8 * (24 - (I 2775)) + 0) by exact m_RK_le (show m_RK (t_up lo112 v181 (I 3905) (8 * (24 - (I 2775)) + (-1))) (I 3905) (I180a 3905) (8 * (24 - (I 2775)) + (-1)) from rk204) (show (8 * (24 - (I 2775)) + (-1)) ≤ 8 * (24 - (I 2775)) + 0 by omega))⟩
          · rw [e173]
            replace hR170b : w_Rep w_TM fr X u l I170b A170b B170b C170b M169 := hR170b
            replace f174 : m_fx I110a (w_upF A110a 61 (w_upA (A110a 61) (v82) (v111))) I170b A170b := f174
            exact Or.inr (⟨I170b, A170b, B170b, C170b, rfl, hR170b, (show m_fx I A I170b A170b by exact (m_fx_trans (m_fx_trans (m_fx_trans f30 f86) f116) f174))⟩)
        · rw [e124]
          replace hR110b : w_Rep w_TM fr X u l I110b A110b B110b C110b M109 := hR110b
          replace f125 : m_fx I81a A81a I110b A110b := f125
          exact Or.inr (⟨I110b, A110b, B110b, C110b, rfl, hR110b, (show m_fx I A I110b A110b by exact (m_fx_trans (m_fx_trans f30 f86) f125))⟩)
      · rw [e38]
        replace hR24b : w_Rep w_TM fr X u l I24b A24b B24b C24b M23 := hR24b
        replace f39 : m_fx (w_up (w_up I 2775 ((I 2775) + 1)) 2774 ((I 2774) + 1)) A I24b A24b := f39
        exact Or.inr (⟨I24b, A24b, B24b, C24b, rfl, hR24b, (show m_fx I A I24b A24b by exact f39)⟩)
    · rw [e16, e17]
      replace f18 : ¬ m_be ((A 45) ((I 2774) + 1)) ((A 46) ((I 2774) + 1)) := f18
      show w_W _ _ _ (8, [(0, .ref 43)], [.int (Int32.ofInt (0))], M2) _
      refine w_adv (n := 3) (F' := (13, [(0, .ref 43)], [.int (Int32.ofInt (1)), .ref 43], M2)) rfl ?_
      refine w_call (cm := 232) (as := [(0, .ref 43), (1, .int (Int32.ofInt (1)))]) (rest := []) (o := some (9, 43)) rfl (w_fitR hR3a rfl) (m_fail (1) hR3a ⟨by omega, by omega⟩ (show 0 ≤ (I 2774) + 1 ∧ (I 2774) + 1 < 1501 by omega) (show 1 ≤ 1 ∧ 1 ≤ 7 by first | assumption | omega)) (fun r207 M208 q209 => ?_)
      rcases q209 with ⟨I209a, A209a, B209a, C209a, e210, hR209a, f211⟩
      rw [e210]
      replace hR209a : w_Rep w_TM fr X u l I209a A209a B209a C209a M208 := hR209a
      replace f211 : m_fx (w_up (w_up I 2775 ((I 2775) + 1)) 2774 ((I 2774) + 1)) A I209a A209a := f211
      exact Or.inr (⟨I209a, A209a, B209a, C209a, rfl, hR209a, (show m_fx I A I209a A209a by exact f211)⟩)
  · rw [e6]
    replace hR3b : w_Rep w_TM fr X u l I3b A3b B3b C3b M2 := hR3b
    replace f7 : m_fx I A I3b A3b := f7
    exact Or.inr (⟨I3b, A3b, B3b, C3b, rfl, hR3b, (show m_fx I A I3b A3b by exact f7)⟩)
