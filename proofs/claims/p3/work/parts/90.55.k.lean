/-! m_value -/
set_option maxHeartbeats 100000000 in
set_option maxRecDepth 100000 in
theorem m_value {L : Nat} {xs : Nat → Int32} {d : Nat} {fr : Nat → Bool} {X : Nat → Option (q_C (Nat → Int32))} {u l : Nat} {I : Nat → Int} {A : Nat → Int → Int} {B C : Nat → Nat} {M : w_M} {N : Int} (hA : m_all L xs N) (lo : Int → Int × Int) (hR : w_Rep w_TM fr X u l I A B C M) (hd : 20 * (24 - (I 2775)) + 20 ≤ (d : Int)) (hTK : m_TK I A) (hNU : (0 ≤ (I 2774) ∧ (I 2774) < (I 2754) ∧ (I 2754) ≤ 1501 ∧ 0 ≤ (I 2775) ∧ (I 2775) ≤ 24) ∧ ((I 3393) = (I 3905) ∧ (I 3521) = (I 3905) ∧ (I 3649) = (I 3905) ∧ (I 3777) = (I 3905) ∧ 0 ≤ (I 3905) ∧ (I 3905) ≤ 3 * (I 2774)) ∧ ((I 4161) = (I 4033) ∧ 7 ≤ (I 4289) ∧ (I 4289) ≤ (I 4033) ∧ (I 4033) ≤ 7 + (I 2774)) ∧ 0 ≤ (I 5889) ∧ (I 5889) ≤ (I 2774)) (hSC : m_SC I A) (hTR : m_TR lo I A) (hm : (I 2754) - (I 2774) ≤ N) : w_W (z_P L xs) d 243 (0, [(0, .ref 43)], [], M) (m_value_Q fr X u l I A B C M lo) := by
  obtain ⟨d, rfl⟩ : ∃ d0, d = d0 + 1 := ⟨d - 1, by omega⟩
  refine w_adv (n := 4) (F' := (5, [(1, .int (Int32.ofInt ((-1)))), (0, .ref 43)], [.int (Int32.ofInt (9)), .ref 43], M)) rfl ?_
  refine w_call (cm := 231) (as := [(0, .ref 43), (1, .int (Int32.ofInt (9)))]) (rest := []) (o := some (9, 43)) rfl (w_fitR hR rfl) (m_isWord (9) hR ⟨by omega, by omega⟩ (show 0 ≤ (I 2774) ∧ (I 2774) < 1501 by omega)) (fun r1 M2 q3 => ?_)
  rcases q3 with ⟨e4, e5, f6⟩ | ⟨e7, e8, f9⟩
  · rw [e4, e5]
    replace f6 : (A 45) ((I 2774)) = 5 ∧ (A 46) ((I 2774)) = 9 := f6
    obtain ⟨n10, n11⟩ := id f6
    clear f6
    have w12 : (I 2774) + 1 < (I 2754) := m_TK_lt hTK (show (I 2774) < (I 2754) by omega) (show 1 ≤ (A 45) ((I 2774)) by omega) (show (A 45) ((I 2774)) ≤ 6 by omega)
    show w_W _ _ _ (8, [(1, .int (Int32.ofInt ((-1)))), (0, .ref 43)], [.int (Int32.ofInt (1))], M) _
    refine w_adv (n := 2) (F' := (12, [(1, .int (Int32.ofInt ((-1)))), (0, .ref 43)], [.ref 43], M)) rfl ?_
    refine w_call (cm := 235) (as := [(0, .ref 43)]) (rest := []) (o := some (9, 43)) rfl (w_fitR hR rfl) (m_enter hR (show 2 ≤ d by omega) (show 0 ≤ (I 2774) ∧ (I 2774) < 1501 by omega) (show 0 ≤ (I 2775) ∧ (I 2775) ≤ 24 by first | assumption | omega)) (fun r13 M14 q15 => ?_)
    rcases q15 with ⟨e16, hR15a, f17⟩ | ⟨I15b, A15b, B15b, C15b, e18, hR15b, f19⟩
    · rw [e16]
      replace hR15a : w_Rep w_TM fr X u l (w_up (w_up I 2775 ((I 2775) + 1)) 2774 ((I 2774) + 1)) A B C M14 := hR15a
      replace f17 : (I 2775) < 24 := f17
      have w20 : (I 2774) + 1 < (I 2754) := m_TK_lt hTK (show (I 2774) < (I 2754) by omega) (show 1 ≤ (A 45) ((I 2774)) by omega) (show (A 45) ((I 2774)) ≤ 6 by omega)
      show w_W _ _ _ (15, [(1, .int (Int32.ofInt ((-1)))), (0, .ref 43)], [], M14) _
      refine w_adv (n := 1) (F' := (16, [(1, .int (Int32.ofInt ((-1)))), (0, .ref 43)], [.ref 43], M14)) rfl ?_
      refine w_call (cm := 227) (as := [(0, .ref 43)]) (rest := []) (o := some (9, 43)) rfl (w_fitR hR15a rfl) (m_body hA (lo) hR15a (show 20 * (24 - ((I 2775) + 1)) + 19 ≤ (d : Int) by omega) (show m_TK (w_up (w_up I 2775 ((I 2775) + 1)) 2774 ((I 2774) + 1)) A by exact hTK) (show (0 ≤ (I 2774) + 1 ∧ (I 2774) + 1 < (I 2754) ∧ (I 2754) ≤ 1501 ∧ 0 ≤ (I 2775) + 1 ∧ (I 2775) + 1 ≤ 24) ∧ ((I 3393) = (I 3905) ∧ (I 3521) = (I 3905) ∧ (I 3649) = (I 3905) ∧ (I 3777) = (I 3905) ∧ 0 ≤ (I 3905) ∧ (I 3905) ≤ 3 * ((I 2774) + 1)) ∧ ((I 4161) = (I 4033) ∧ 7 ≤ (I 4289) ∧ (I 4289) ≤ (I 4033) ∧ (I 4033) ≤ 7 + ((I 2774) + 1)) ∧ 0 ≤ (I 5889) ∧ (I 5889) ≤ (I 2774) + 1 by (repeat' apply And.intro) <;> first | assumption | omega) (show m_SC (w_up (w_up I 2775 ((I 2775) + 1)) 2774 ((I 2774) + 1)) A by exact hSC) (show m_TR lo (w_up (w_up I 2775 ((I 2775) + 1)) 2774 ((I 2774) + 1)) A by exact hTR) (show (I 2754) - ((I 2774) + 1) ≤ N by first | assumption | omega)) (fun r21 M22 q23 => ?_)
      rcases q23 with ⟨v24, lo25, I23a, A23a, B23a, C23a, e26, ⟨r27, r28⟩, hR23a, f29, f30, f31, f32, f33, f34, f35, f36⟩ | ⟨I23b, A23b, B23b, C23b, e37, hR23b, f38⟩
      · rw [e26]
        replace hR23a : w_Rep w_TM fr X u l I23a A23a B23a C23a M22 := hR23a
        replace f29 : m_fx (w_up (w_up I 2775 ((I 2775) + 1)) 2774 ((I 2774) + 1)) A I23a A23a := f29
        replace f30 : ((0 ≤ (I23a 2774) ∧ (I23a 2774) < (I23a 2754) ∧ (I23a 2754) ≤ 1501 ∧ 0 ≤ (I23a 2775) ∧ (I23a 2775) ≤ 24) ∧ ((I23a 3393) = (I23a 3905) ∧ (I23a 3521) = (I23a 3905) ∧ (I23a 3649) = (I23a 3905) ∧ (I23a 3777) = (I23a 3905) ∧ 0 ≤ (I23a 3905) ∧ (I23a 3905) ≤ 3 * (I23a 2774)) ∧ ((I23a 4161) = (I23a 4033) ∧ 7 ≤ (I23a 4289) ∧ (I23a 4289) ≤ (I23a 4033) ∧ (I23a 4033) ≤ 7 + (I23a 2774)) ∧ 0 ≤ (I23a 5889) ∧ (I23a 5889) ≤ (I23a 2774)) ∧ ((I23a 2754) = (I 2754) ∧ ((I 2774) + 1) + 1 ≤ (I23a 2774) ∧ (I23a 2775) = (I 2775) + 1 ∧ (I23a 4289) = (I 4289) + 0 ∧ (I23a 5889) = (I 5889)) ∧ ((I23a 3905) + 1 ≤ (I 3905) + 3 * ((I23a 2774) - ((I 2774) + 1)) ∧ (I 3905) ≤ v24 ∧ v24 + 1 = (I23a 3905) ∧ (I 4033) ≤ (I23a 4033) ∧ (I23a 4033) ≤ (I 4033) + ((I23a 2774) - ((I 2774) + 1))) := f30
        obtain ⟨⟨⟨n39, n40, n41, n42, n43⟩, ⟨n44, n45, n46, n47, n48, n49⟩, ⟨n50, n51, n52, n53⟩, n54, n55⟩, ⟨n56, n57, n58, n59, n60⟩, ⟨n61, n62, n63, n64, n65⟩⟩ := id f30
        clear f30
        replace f31 : m_SC I23a A23a := f31
        replace f32 : m_TR lo25 I23a A23a := f32
        replace f33 : m_ST lo (w_up (w_up I 2775 ((I 2775) + 1)) 2774 ((I 2774) + 1)) A lo25 I23a A23a := f33
        replace f34 : (fun k => k = 25) ((A23a 53) (v24)) := f34
        replace f35 : m_rt lo25 (I23a 3905) v24 := f35
        replace f36 : m_RK lo25 (I 3905) (I23a 3905) (8 * (24 - ((I 2775) + 1)) + 7) := f36
        have tk66 : m_TK I23a A23a := m_TK_fx f29 hTK
        have nn67 : (I 3905) ≤ (I23a 3905) := by omega
        have nz68 : 0 ≤ (I 3905) := by first | assumption | omega
        have ho69 : (I 2775) + 1 = (I 2775) + (1) := by omega
        have rk71 : m_RK lo25 (I 3905) (I23a 3905) (8 * (24 - (I 2775)) + (-1)) := m_RK_app (I := (w_up (w_up I 2775 ((I 2775) + 1)) 2774 ((I 2774) + 1))) (I' := I23a) (R := (8 * (24 - (I 2775)) + (-1))) (show m_RK lo (I 3905) (I 3905) (8 * (24 - (I 2775)) + (-1)) from fun q q1 q2 => by omega) f33 f36 (show 0 ≤ (I 3905) by first | assumption | omega) (m_r8 (by decide)) (m_r8o (k := 1) ho69 (by decide))
        have s70 : m_ST lo I A lo25 I23a A23a := f33
        have k72 : m_kd lo25 I23a A23a (I 3905) (8 * (24 - ((I 2775) + 1)) + 7) v24 (fun k => k = 25) := m_kd_of (I := (w_up (w_up I 2775 ((I 2775) + 1)) 2774 ((I 2774) + 1))) f33 f32 nz68 (show (I 3905) ≤ v24 by first | assumption | omega) (show v24 < (I23a 3905) by omega) f34 f36
        obtain ⟨j73, j74, j75, j76, j77⟩ := k72.1
        show w_W _ _ _ (19, [(1, .int (Int32.ofInt ((-1)))), (0, .ref 43)], [.int (Int32.ofInt (v24))], M22) _
        refine w_adv (n := 3) (F' := (22, [(1, .int (Int32.ofInt (v24))), (0, .ref 43)], [.int (Int32.ofInt (2)), .ref 43], M22)) rfl ?_
        refine w_call (cm := 244) (as := [(0, .ref 43), (1, .int (Int32.ofInt (2)))]) (rest := []) (o := some (9, 43)) rfl (w_fitR hR23a rfl) (m_closeWord (2) hR23a (show 3 ≤ d by omega) ⟨by omega, by omega⟩ (show 0 ≤ (I23a 2774) ∧ (I23a 2774) < 1501 by omega) (show 1 ≤ (I23a 2775) ∧ (I23a 2775) ≤ 24 by first | assumption | omega)) (fun r78 M79 q80 => ?_)
        rcases q80 with ⟨e81, hR80a, f82⟩ | ⟨I80b, A80b, B80b, C80b, e83, hR80b, f84⟩
        · rw [e81]
          replace hR80a : w_Rep w_TM fr X u l (w_up (w_up I23a 2774 ((I23a 2774) + 1)) 2775 ((I23a 2775) - 1)) A23a B23a C23a M79 := hR80a
          replace f82 : (A23a 45) ((I23a 2774)) = 5 ∧ (A23a 46) ((I23a 2774)) = 2 := f82
          obtain ⟨n85, n86⟩ := id f82
          clear f82
          have w87 : (I23a 2774) + 1 < (I23a 2754) := m_TK_lt tk66 (show (I23a 2774) < (I23a 2754) by omega) (show 1 ≤ (A23a 45) ((I23a 2774)) by omega) (show (A23a 45) ((I23a 2774)) ≤ 6 by omega)
          show w_W _ _ _ (25, [(1, .int (Int32.ofInt (v24))), (0, .ref 43)], [], M79) _
          refine w_adv (n := 4) (F' := (30, [(1, .int (Int32.ofInt (v24))), (0, .ref 43)], [.ref 43, .int (Int32.ofInt (v24)), .int (Int32.ofInt (19)), .ref 43], M79)) rfl ?_
          refine w_call (cm := 245) (as := [(0, .ref 43)]) (rest := [.int (Int32.ofInt (v24)), .int (Int32.ofInt (19)), .ref 43]) (o := some (9, 43)) rfl (w_fitR hR80a rfl) (m_exp hA (lo25) hR80a (show 20 * (24 - ((I23a 2775) - 1)) + 17 ≤ (d : Int) by omega) (show m_TK (w_up (w_up I23a 2774 ((I23a 2774) + 1)) 2775 ((I23a 2775) - 1)) A23a by exact tk66) (show (0 ≤ (I23a 2774) + 1 ∧ (I23a 2774) + 1 < (I23a 2754) ∧ (I23a 2754) ≤ 1501 ∧ 0 ≤ (I23a 2775) - 1 ∧ (I23a 2775) - 1 ≤ 24) ∧ ((I23a 3393) = (I23a 3905) ∧ (I23a 3521) = (I23a 3905) ∧ (I23a 3649) = (I23a 3905) ∧ (I23a 3777) = (I23a 3905) ∧ 0 ≤ (I23a 3905) ∧ (I23a 3905) ≤ 3 * ((I23a 2774) + 1)) ∧ ((I23a 4161) = (I23a 4033) ∧ 7 ≤ (I23a 4289) ∧ (I23a 4289) ≤ (I23a 4033) ∧ (I23a 4033) ≤ 7 + ((I23a 2774) + 1)) ∧ 0 ≤ (I23a 5889) ∧ (I23a 5889) ≤ (I23a 2774) + 1 by (repeat' apply And.intro) <;> first | assumption | omega) (show m_SC (w_up (w_up I23a 2774 ((I23a 2774) + 1)) 2775 ((I23a 2775) - 1)) A23a by exact f31) (show m_TR lo25 (w_up (w_up I23a 2774 ((I23a 2774) + 1)) 2775 ((I23a 2775) - 1)) A23a by exact f32) (show (I23a 2754) - ((I23a 2774) + 1) ≤ N by first | assumption | omega)) (fun r88 M89 q90 => ?_)
          rcases q90 with ⟨v91, lo92, I90a, A90a, B90a, C90a, e93, ⟨r94, r95⟩, hR90a, f96, f97, f98, f99, f100, f101, f102, f103⟩ | ⟨I90b, A90b, B90b, C90b, e104, hR90b, f105⟩
          · rw [e93]
            replace hR90a : w_Rep w_TM fr X u l I90a A90a B90a C90a M89 := hR90a
            replace f96 : m_fx (w_up (w_up I23a 2774 ((I23a 2774) + 1)) 2775 ((I23a 2775) - 1)) A23a I90a A90a := f96
            replace f97 : ((0 ≤ (I90a 2774) ∧ (I90a 2774) < (I90a 2754) ∧ (I90a 2754) ≤ 1501 ∧ 0 ≤ (I90a 2775) ∧ (I90a 2775) ≤ 24) ∧ ((I90a 3393) = (I90a 3905) ∧ (I90a 3521) = (I90a 3905) ∧ (I90a 3649) = (I90a 3905) ∧ (I90a 3777) = (I90a 3905) ∧ 0 ≤ (I90a 3905) ∧ (I90a 3905) ≤ 3 * (I90a 2774)) ∧ ((I90a 4161) = (I90a 4033) ∧ 7 ≤ (I90a 4289) ∧ (I90a 4289) ≤ (I90a 4033) ∧ (I90a 4033) ≤ 7 + (I90a 2774)) ∧ 0 ≤ (I90a 5889) ∧ (I90a 5889) ≤ (I90a 2774)) ∧ ((I90a 2754) = (I23a 2754) ∧ ((I23a 2774) + 1) + 1 ≤ (I90a 2774) ∧ (I90a 2775) = (I23a 2775) - 1 ∧ (I90a 4289) = (I23a 4289) + 0 ∧ (I90a 5889) = (I23a 5889)) ∧ ((I90a 3905) + 2 ≤ (I23a 3905) + 3 * ((I90a 2774) - ((I23a 2774) + 1)) ∧ (I23a 3905) ≤ v91 ∧ v91 + 1 = (I90a 3905) ∧ (I23a 4033) ≤ (I90a 4033) ∧ (I90a 4033) ≤ (I23a 4033) + ((I90a 2774) - ((I23a 2774) + 1))) := f97
            obtain ⟨⟨⟨n106, n107, n108, n109, n110⟩, ⟨n111, n112, n113, n114, n115, n116⟩, ⟨n117, n118, n119, n120⟩, n121, n122⟩, ⟨n123, n124, n125, n126, n127⟩, ⟨n128, n129, n130, n131, n132⟩⟩ := id f97
            clear f97
            replace f98 : m_SC I90a A90a := f98
            replace f99 : m_TR lo92 I90a A90a := f99
            replace f100 : m_ST lo25 (w_up (w_up I23a 2774 ((I23a 2774) + 1)) 2775 ((I23a 2775) - 1)) A23a lo92 I90a A90a := f100
            replace f101 : t_E ((A90a 53) (v91)) := f101
            replace f102 : m_rt lo92 (I90a 3905) v91 := f102
            replace f103 : m_RK lo92 (I23a 3905) (I90a 3905) (8 * (24 - ((I23a 2775) - 1)) + 5) := f103
            have tk133 : m_TK I90a A90a := m_TK_fx f96 tk66
            have nn134 : (I23a 3905) ≤ (I90a 3905) := by omega
            have nz135 : 0 ≤ (I23a 3905) := by first | assumption | omega
            have ho136 : (I23a 2775) - 1 = (I 2775) + (0) := by omega
            have rk138 : m_RK lo92 (I 3905) (I90a 3905) (8 * (24 - (I 2775)) + (5)) := m_RK_app (I := (w_up (w_up I23a 2774 ((I23a 2774) + 1)) 2775 ((I23a 2775) - 1))) (I' := I90a) (R := (8 * (24 - (I 2775)) + (-1))) (show m_RK lo25 (I 3905) (I23a 3905) (8 * (24 - (I 2775)) + (-1)) from rk71) f100 f103 (show 0 ≤ (I 3905) by first | assumption | omega) (m_r8 (by decide)) (m_r8o (k := 0) ho136 (by decide))
            have s137 : m_ST lo I A lo92 I90a A90a := m_ST_trans (show m_ST lo I A lo25 (w_up (w_up I23a 2774 ((I23a 2774) + 1)) 2775 ((I23a 2775) - 1)) A23a from s70) f100 (show 0 ≤ (I 3905) by first | assumption | omega) (show (I 3905) ≤ (I23a 3905) by first | assumption | omega) (show (I 4289) ≤ (I23a 4289) by first | assumption | omega) (show (I 5889) ≤ (I23a 5889) by first | assumption | omega)
            have k139 : m_kd lo92 I90a A90a (I 3905) (8 * (24 - ((I 2775) + 1)) + 7) v24 (fun k => k = 25) := m_kd_ST f100 nn134 k72
            have rt140 := m_rt_ST f100 (show 0 ≤ v24 by omega) (show v24 < (I23a 3905) by omega) f35
            have k141 : m_kd lo92 I90a A90a (I23a 3905) (8 * (24 - ((I23a 2775) - 1)) + 5) v91 t_E := m_kd_of (I := (w_up (w_up I23a 2774 ((I23a 2774) + 1)) 2775 ((I23a 2775) - 1))) f100 f99 nz135 (show (I23a 3905) ≤ v91 by first | assumption | omega) (show v91 < (I90a 3905) by omega) f101 f103
            obtain ⟨j142, j143, j144, j145, j146⟩ := k141.1
            show w_W _ _ _ (33, [(1, .int (Int32.ofInt (v24))), (0, .ref 43)], [.int (Int32.ofInt (v91)), .int (Int32.ofInt (v24)), .int (Int32.ofInt (19)), .ref 43], M89) _
            refine w_adv (n := 1) (F' := (34, [(1, .int (Int32.ofInt (v24))), (0, .ref 43)], [.int (Int32.ofInt (0)), .int (Int32.ofInt (v91)), .int (Int32.ofInt (v24)), .int (Int32.ofInt (19)), .ref 43], M89)) rfl ?_
            refine w_call (cm := 239) (as := [(0, .ref 43), (1, .int (Int32.ofInt (19))), (2, .int (Int32.ofInt (v24))), (3, .int (Int32.ofInt (v91))), (4, .int (Int32.ofInt (0)))]) (rest := []) (o := some (9, 43)) rfl (w_fitR hR90a rfl) (m_node (19) (v24) (v91) (0) hR90a (show 2 ≤ d by omega) ⟨by omega, by omega⟩ ⟨by omega, by omega⟩ ⟨by omega, by omega⟩ ⟨by omega, by omega⟩ (show (I90a 3393) = (I90a 3905) by first | assumption | omega) (show (I90a 3521) = (I90a 3905) by first | assumption | omega) (show (I90a 3649) = (I90a 3905) by first | assumption | omega) (show (I90a 3777) = (I90a 3905) by first | assumption | omega) (show (I90a 3905) < 65536 by first | assumption | omega)) (fun r147 M148 q149 => ?_)
            rcases q149 with ⟨v150, I149a, A149a, B149a, C149a, e151, ⟨r152, r153⟩, hR149a, f154, f155⟩
            rw [e151]
            replace hR149a : w_Rep w_TM fr X u l I149a A149a B149a C149a M148 := hR149a
            replace f154 : m_fx I90a A90a I149a A149a := f154
            replace f155 : m_nd I90a A90a I149a A149a v150 19 v24 v91 0 := f155
            obtain ⟨⟨n156, n157, n158, n159, n160, n161⟩, ⟨n162, n163, n164, n165, n166, n167, n168⟩⟩ : (v150 = (I90a 3905) ∧ (I149a 3905) = (I90a 3905) + 1 ∧ (I149a 3393) = (I90a 3393) + 1 ∧ (I149a 3521) = (I90a 3521) + 1 ∧ (I149a 3649) = (I90a 3649) + 1 ∧ (I149a 3777) = (I90a 3777) + 1) ∧ ((I149a 2774) = (I90a 2774) ∧ (I149a 2754) = (I90a 2754) ∧ (I149a 2775) = (I90a 2775) ∧ (I149a 4289) = (I90a 4289) ∧ (I149a 4033) = (I90a 4033) ∧ (I149a 4161) = (I90a 4161) ∧ (I149a 5889) = (I90a 5889)) := m_nd_num f155
            have tk169 : m_TK I149a A149a := m_TK_fx f154 tk133
            have sc170 : m_SC I149a A149a := m_SC_nd f155 f98
            have tr171 : m_TR (t_up lo92 v150 (I 3905) (8 * (24 - (I 2775)) + (6))) I149a A149a := m_TR_nd (show m_TR lo92 I90a A90a from f99) f155 (show 0 ≤ (I 3905) by omega) (show (I 3905) ≤ v150 by omega) (m_cl_ST (I1 := I) (show m_ST lo I A lo92 I90a A90a from s137) (show m_TR lo I A from hTR) (show 0 ≤ (I 3905) by omega)) (t_N_mk19 t_up_same (show 0 ≤ (I 3905) by omega) (show (I 3905) ≤ v150 by omega) (show 0 ≤ (8 * (24 - (I 2775)) + (6)) by omega) (m_hw (show m_RK lo92 (I 3905) v150 (8 * (24 - (I 2775)) + (5)) from fun q q1 q2 => (show m_RK lo92 (I 3905) (I90a 3905) (8 * (24 - (I 2775)) + (5)) from rk138) q (show (I 3905) ≤ q by omega) (show q < (I90a 3905) by omega)) (m_r8l (by decide))) ⟨Or.inr (m_ch f155 (show (I 3905) ≤ (I 3905) by omega) (show m_kd lo92 I90a A90a (I 3905) (8 * (24 - ((I 2775) + 1)) + 7) v24 (fun k => k = 25) from k139)), m_ch f155 (show (I 3905) ≤ (I23a 3905) by omega) (show m_kd lo92 I90a A90a (I23a 3905) (8 * (24 - ((I23a 2775) - 1)) + 5) v91 t_E from k141), Or.inr (m_od f155 (show m_kd lo92 I90a A90a (I23a 3905) (8 * (24 - ((I23a 2775) - 1)) + 5) v91 t_E from k141) (show v24 < (I23a 3905) by omega))⟩)
            have s172 : m_ST lo I A (t_up lo92 v150 (I 3905) (8 * (24 - (I 2775)) + (6))) I149a A149a := m_ST_nd (l := (I 3905)) (show m_ST lo I A lo92 I90a A90a from s137) f155 (show (I 3905) ≤ (I 3905) by omega) (show (I 3905) ≤ (I90a 3905) by omega)
            have rk173 : m_RK (t_up lo92 v150 (I 3905) (8 * (24 - (I 2775)) + (6))) (I 3905) (I149a 3905) (8 * (24 - (I 2775)) + (6)) := fun q q1 q2 => m_RK_nd (show m_RK lo92 (I 3905) v150 (8 * (24 - (I 2775)) + (5)) from fun q q1 q2 => (show m_RK lo92 (I 3905) (I90a 3905) (8 * (24 - (I 2775)) + (5)) from rk138) q q1 (show q < (I90a 3905) by omega)) (m_r8 (by decide)) (m_r8 (by decide)) q q1 (show q < v150 + 1 by omega)
            have k174 : m_kd (t_up lo92 v150 (I 3905) (8 * (24 - (I 2775)) + (6))) I149a A149a (I 3905) (8 * (24 - (I 2775)) + (6)) v150 (fun k => k = 19) := m_kd_new f155 (show 0 ≤ (I 3905) by omega) (show (I 3905) ≤ v150 by omega) rfl
            have rt175 : m_rt (t_up lo92 v150 (I 3905) (8 * (24 - (I 2775)) + (6))) (I149a 3905) v150 := m_rt_new f155
            show w_W _ _ _ (37, [(1, .int (Int32.ofInt (v24))), (0, .ref 43)], [.int (Int32.ofInt (v150))], M148) _
            refine w_fin (r := .inl (some (v150))) (M' := M148) rfl ?_
            exact Or.inl ⟨v150, (t_up lo92 v150 (I 3905) (8 * (24 - (I 2775)) + (6))), I149a, A149a, B149a, C149a, rfl, ⟨by omega, by omega⟩, hR149a, (show m_fx I A I149a A149a by exact (m_fx_trans (m_fx_trans f29 f96) f154)), (show ((0 ≤ (I149a 2774) ∧ (I149a 2774) < (I149a 2754) ∧ (I149a 2754) ≤ 1501 ∧ 0 ≤ (I149a 2775) ∧ (I149a 2775) ≤ 24) ∧ ((I149a 3393) = (I149a 3905) ∧ (I149a 3521) = (I149a 3905) ∧ (I149a 3649) = (I149a 3905) ∧ (I149a 3777) = (I149a 3905) ∧ 0 ≤ (I149a 3905) ∧ (I149a 3905) ≤ 3 * (I149a 2774)) ∧ ((I149a 4161) = (I149a 4033) ∧ 7 ≤ (I149a 4289) ∧ (I149a 4289) ≤ (I149a 4033) ∧ (I149a 4033) ≤ 7 + (I149a 2774)) ∧ 0 ≤ (I149a 5889) ∧ (I149a 5889) ≤ (I149a 2774)) ∧ ((I149a 2754) = (I 2754) ∧ (I 2774) + 1 ≤ (I149a 2774) ∧ (I149a 2775) = (I 2775) ∧ (I149a 4289) = (I 4289) + 0 ∧ (I149a 5889) = (I 5889)) ∧ ((I149a 3905) + 1 ≤ (I 3905) + 3 * ((I149a 2774) - (I 2774)) ∧ (I 3905) ≤ v150 ∧ v150 + 1 = (I149a 3905) ∧ (I 4033) ≤ (I149a 4033) ∧ (I149a 4033) ≤ (I 4033) + ((I149a 2774) - (I 2774))) by (repeat' apply And.intro) <;> first | assumption | omega), (show m_SC I149a A149a by exact sc170), (show m_TR (t_up lo92 v150 (I 3905) (8 * (24 - (I 2775)) + (6))) I149a A149a by exact tr171), (show m_ST lo I A (t_up lo92 v150 (I 3905) (8 * (24 - (I 2775)) + (6))) I149a A149a by exact s172), (show (fun k => k = 19) ((A149a 53) (v150)) by exact (k174).2), (show m_rt (t_up lo92 v150 (I 3905) (8 * (24 - (I 2775)) + (6))) (I149a 3905) v150 by exact rt175), (show m_RK (t_up lo92 v150 (I 3905) (8 * (24 - (I 2775)) + (6))) (I 3905) (I149a 3905) (8 * (24 - (I 2775)) + 7) by exact m_RK_le (show m_RK (t_up lo92 v150 (I 3905) (8 * (24 - (I 2775)) + (6))) (I 3905) (I149a 3905) (8 * (24 - (I 2775)) + (6)) from rk173) (show (8 * (24 - (I 2775)) + (6)) ≤ 8 * (24 - (I 2775)) + 7 by omega))⟩
          · rw [e104]
            replace hR90b : w_Rep w_TM fr X u l I90b A90b B90b C90b M89 := hR90b
            replace f105 : m_fx (w_up (w_up I23a 2774 ((I23a 2774) + 1)) 2775 ((I23a 2775) - 1)) A23a I90b A90b := f105
            exact Or.inr (⟨I90b, A90b, B90b, C90b, rfl, hR90b, (show m_fx I A I90b A90b by exact (m_fx_trans f29 f105))⟩)
        · rw [e83]
          replace hR80b : w_Rep w_TM fr X u l I80b A80b B80b C80b M79 := hR80b
          replace f84 : m_fx I23a A23a I80b A80b := f84
          exact Or.inr (⟨I80b, A80b, B80b, C80b, rfl, hR80b, (show m_fx I A I80b A80b by exact (m_fx_trans f29 f84))⟩)
      · rw [e37]
        replace hR23b : w_Rep w_TM fr X u l I23b A23b B23b C23b M22 := hR23b
        replace f38 : m_fx (w_up (w_up I 2775 ((I 2775) + 1)) 2774 ((I 2774) + 1)) A I23b A23b := f38
        exact Or.inr (⟨I23b, A23b, B23b, C23b, rfl, hR23b, (show m_fx I A I23b A23b by exact f38)⟩)
    · rw [e18]
      replace hR15b : w_Rep w_TM fr X u l I15b A15b B15b C15b M14 := hR15b
      replace f19 : m_fx I A I15b A15b := f19
      exact Or.inr (⟨I15b, A15b, B15b, C15b, rfl, hR15b, (show m_fx I A I15b A15b by exact f19)⟩)
  · rw [e7, e8]
    replace f9 : ¬ ((A 45) ((I 2774)) = 5 ∧ (A 46) ((I 2774)) = 9) := f9
    show w_W _ _ _ (8, [(1, .int (Int32.ofInt ((-1)))), (0, .ref 43)], [.int (Int32.ofInt (0))], M) _
    refine w_adv (n := 5) (F' := (30, [(1, .int (Int32.ofInt ((-1)))), (0, .ref 43)], [.ref 43, .int (Int32.ofInt ((-1))), .int (Int32.ofInt (19)), .ref 43], M)) rfl ?_
    refine w_call (cm := 245) (as := [(0, .ref 43)]) (rest := [.int (Int32.ofInt ((-1))), .int (Int32.ofInt (19)), .ref 43]) (o := some (9, 43)) rfl (w_fitR hR rfl) (m_exp hA (lo) hR (show 20 * (24 - (I 2775)) + 17 ≤ (d : Int) by omega) (show m_TK I A by exact hTK) (show (0 ≤ (I 2774) ∧ (I 2774) < (I 2754) ∧ (I 2754) ≤ 1501 ∧ 0 ≤ (I 2775) ∧ (I 2775) ≤ 24) ∧ ((I 3393) = (I 3905) ∧ (I 3521) = (I 3905) ∧ (I 3649) = (I 3905) ∧ (I 3777) = (I 3905) ∧ 0 ≤ (I 3905) ∧ (I 3905) ≤ 3 * (I 2774)) ∧ ((I 4161) = (I 4033) ∧ 7 ≤ (I 4289) ∧ (I 4289) ≤ (I 4033) ∧ (I 4033) ≤ 7 + (I 2774)) ∧ 0 ≤ (I 5889) ∧ (I 5889) ≤ (I 2774) by (repeat' apply And.intro) <;> first | assumption | omega) (show m_SC I A by exact hSC) (show m_TR lo I A by exact hTR) (show (I 2754) - (I 2774) ≤ N by first | assumption | omega)) (fun r176 M177 q178 => ?_)
    rcases q178 with ⟨v179, lo180, I178a, A178a, B178a, C178a, e181, ⟨r182, r183⟩, hR178a, f184, f185, f186, f187, f188, f189, f190, f191⟩ | ⟨I178b, A178b, B178b, C178b, e192, hR178b, f193⟩
    · rw [e181]
      replace hR178a : w_Rep w_TM fr X u l I178a A178a B178a C178a M177 := hR178a
      replace f184 : m_fx I A I178a A178a := f184
      replace f185 : ((0 ≤ (I178a 2774) ∧ (I178a 2774) < (I178a 2754) ∧ (I178a 2754) ≤ 1501 ∧ 0 ≤ (I178a 2775) ∧ (I178a 2775) ≤ 24) ∧ ((I178a 3393) = (I178a 3905) ∧ (I178a 3521) = (I178a 3905) ∧ (I178a 3649) = (I178a 3905) ∧ (I178a 3777) = (I178a 3905) ∧ 0 ≤ (I178a 3905) ∧ (I178a 3905) ≤ 3 * (I178a 2774)) ∧ ((I178a 4161) = (I178a 4033) ∧ 7 ≤ (I178a 4289) ∧ (I178a 4289) ≤ (I178a 4033) ∧ (I178a 4033) ≤ 7 + (I178a 2774)) ∧ 0 ≤ (I178a 5889) ∧ (I178a 5889) ≤ (I178a 2774)) ∧ ((I178a 2754) = (I 2754) ∧ (I 2774) + 1 ≤ (I178a 2774) ∧ (I178a 2775) = (I 2775) ∧ (I178a 4289) = (I 4289) + 0 ∧ (I178a 5889) = (I 5889)) ∧ ((I178a 3905) + 2 ≤ (I 3905) + 3 * ((I178a 2774) - (I 2774)) ∧ (I 3905) ≤ v179 ∧ v179 + 1 = (I178a 3905) ∧ (I 4033) ≤ (I178a 4033) ∧ (I178a 4033) ≤ (I 4033) + ((I178a 2774) - (I 2774))) := f185
      obtain ⟨⟨⟨n194, n195, n196, n197, n198⟩, ⟨n199, n200, n201, n202, n203, n204⟩, ⟨n205, n206, n207, n208⟩, n209, n210⟩, ⟨n211, n212, n213, n214, n215⟩, ⟨n216, n217, n218, n219, n220⟩⟩ := id f185
      clear f185
      replace f186 : m_SC I178a A178a := f186
      replace f187 : m_TR lo180 I178a A178a := f187
      replace f188 : m_ST lo I A lo180 I178a A178a := f188
      replace f189 : t_E ((A178a 53) (v179)) := f189
      replace f190 : m_rt lo180 (I178a 3905) v179 := f190
      replace f191 : m_RK lo180 (I 3905) (I178a 3905) (8 * (24 - (I 2775)) + 5) := f191
      have tk221 : m_TK I178a A178a := m_TK_fx f184 hTK
      have nn222 : (I 3905) ≤ (I178a 3905) := by omega
      have nz223 : 0 ≤ (I 3905) := by first | assumption | omega
      have ho224 : (I 2775) = (I 2775) + (0) := by omega
      have rk226 : m_RK lo180 (I 3905) (I178a 3905) (8 * (24 - (I 2775)) + (5)) := m_RK_app (I := I) (I' := I178a) (R := (8 * (24 - (I 2775)) + (5))) (show m_RK lo (I 3905) (I 3905) (8 * (24 - (I 2775)) + (5)) from fun q q1 q2 => by omega) f188 f191 (show 0 ≤ (I 3905) by first | assumption | omega) (m_r8 (by decide)) (m_r8o (k := 0) ho224 (by decide))
      have s225 : m_ST lo I A lo180 I178a A178a := f188
      have k227 : m_kd lo180 I178a A178a (I 3905) (8 * (24 - (I 2775)) + 5) v179 t_E := m_kd_of (I := I) f188 f187 nz223 (show (I 3905) ≤ v179 by first | assumption | omega) (show v179 < (I178a 3905) by omega) f189 f191
      obtain ⟨j228, j229, j230, j231, j232⟩ := k227.1
      show w_W _ _ _ (33, [(1, .int (Int32.ofInt ((-1)))), (0, .ref 43)], [.int (Int32.ofInt (v179)), .int (Int32.ofInt ((-1))), .int (Int32.ofInt (19)), .ref 43], M177) _
      refine w_adv (n := 1) (F' := (34, [(1, .int (Int32.ofInt ((-1)))), (0, .ref 43)], [.int (Int32.ofInt (0)), .int (Int32.ofInt (v179)), .int (Int32.ofInt ((-1))), .int (Int32.ofInt (19)), .ref 43], M177)) rfl ?_
      refine w_call (cm := 239) (as := [(0, .ref 43), (1, .int (Int32.ofInt (19))), (2, .int (Int32.ofInt ((-1)))), (3, .int (Int32.ofInt (v179))), (4, .int (Int32.ofInt (0)))]) (rest := []) (o := some (9, 43)) rfl (w_fitR hR178a rfl) (m_node (19) ((-1)) (v179) (0) hR178a (show 2 ≤ d by omega) ⟨by omega, by omega⟩ ⟨by omega, by omega⟩ ⟨by omega, by omega⟩ ⟨by omega, by omega⟩ (show (I178a 3393) = (I178a 3905) by first | assumption | omega) (show (I178a 3521) = (I178a 3905) by first | assumption | omega) (show (I178a 3649) = (I178a 3905) by first | assumption | omega) (show (I178a 3777) = (I178a 3905) by first | assumption | omega) (show (I178a 3905) < 65536 by first | assumption | omega)) (fun r233 M234 q235 => ?_)
      rcases q235 with ⟨v236, I235a, A235a, B235a, C235a, e237, ⟨r238, r239⟩, hR235a, f240, f241⟩
      rw [e237]
      replace hR235a : w_Rep w_TM fr X u l I235a A235a B235a C235a M234 := hR235a
      replace f240 : m_fx I178a A178a I235a A235a := f240
      replace f241 : m_nd I178a A178a I235a A235a v236 19 (-1) v179 0 := f241
      obtain ⟨⟨n242, n243, n244, n245, n246, n247⟩, ⟨n248, n249, n250, n251, n252, n253, n254⟩⟩ : (v236 = (I178a 3905) ∧ (I235a 3905) = (I178a 3905) + 1 ∧ (I235a 3393) = (I178a 3393) + 1 ∧ (I235a 3521) = (I178a 3521) + 1 ∧ (I235a 3649) = (I178a 3649) + 1 ∧ (I235a 3777) = (I178a 3777) + 1) ∧ ((I235a 2774) = (I178a 2774) ∧ (I235a 2754) = (I178a 2754) ∧ (I235a 2775) = (I178a 2775) ∧ (I235a 4289) = (I178a 4289) ∧ (I235a 4033) = (I178a 4033) ∧ (I235a 4161) = (I178a 4161) ∧ (I235a 5889) = (I178a 5889)) := m_nd_num f241
      have tk255 : m_TK I235a A235a := m_TK_fx f240 tk221
      have sc256 : m_SC I235a A235a := m_SC_nd f241 f186
      have tr257 : m_TR (t_up lo180 v236 (I 3905) (8 * (24 - (I 2775)) + (6))) I235a A235a := m_TR_nd (show m_TR lo180 I178a A178a from f187) f241 (show 0 ≤ (I 3905) by omega) (show (I 3905) ≤ v236 by omega) (m_cl_ST (I1 := I) (show m_ST lo I A lo180 I178a A178a from s225) (show m_TR lo I A from hTR) (show 0 ≤ (I 3905) by omega)) (t_N_mk19 t_up_same (show 0 ≤ (I 3905) by omega) (show (I 3905) ≤ v236 by omega) (show 0 ≤ (8 * (24 - (I 2775)) + (6)) by omega) (m_hw (show m_RK lo180 (I 3905) v236 (8 * (24 - (I 2775)) + (5)) from fun q q1 q2 => (show m_RK lo180 (I 3905) (I178a 3905) (8 * (24 - (I 2775)) + (5)) from rk226) q (show (I 3905) ≤ q by omega) (show q < (I178a 3905) by omega)) (m_r8l (by decide))) ⟨Or.inl rfl, m_ch f241 (show (I 3905) ≤ (I 3905) by omega) (show m_kd lo180 I178a A178a (I 3905) (8 * (24 - (I 2775)) + 5) v179 t_E from k227), Or.inl rfl⟩)
      have s258 : m_ST lo I A (t_up lo180 v236 (I 3905) (8 * (24 - (I 2775)) + (6))) I235a A235a := m_ST_nd (l := (I 3905)) (show m_ST lo I A lo180 I178a A178a from s225) f241 (show (I 3905) ≤ (I 3905) by omega) (show (I 3905) ≤ (I178a 3905) by omega)
      have rk259 : m_RK (t_up lo180 v236 (I 3905) (8 * (24 - (I 2775)) + (6))) (I 3905) (I235a 3905) (8 * (24 - (I 2775)) + (6)) := fun q q1 q2 => m_RK_nd (show m_RK lo180 (I 3905) v236 (8 * (24 - (I 2775)) + (5)) from fun q q1 q2 => (show m_RK lo180 (I 3905) (I178a 3905) (8 * (24 - (I 2775)) + (5)) from rk226) q q1 (show q < (I178a 3905) by omega)) (m_r8 (by decide)) (m_r8 (by decide)) q q1 (show q < v236 + 1 by omega)
      have k260 : m_kd (t_up lo180 v236 (I 3905) (8 * (24 - (I 2775)) + (6))) I235a A235a (I 3905) (8 * (24 - (I 2775)) + (6)) v236 (fun k => k = 19) := m_kd_new f241 (show 0 ≤ (I 3905) by omega) (show (I 3905) ≤ v236 by omega) rfl
      have rt261 : m_rt (t_up lo180 v236 (I 3905) (8 * (24 - (I 2775)) + (6))) (I235a 3905) v236 := m_rt_new f241
      show w_W _ _ _ (37, [(1, .int (Int32.ofInt ((-1)))), (0, .ref 43)], [.int (Int32.ofInt (v236))], M234) _
      refine w_fin (r := .inl (some (v236))) (M' := M234) rfl ?_
      exact Or.inl ⟨v236, (t_up lo180 v236 (I 3905) (8 * (24 - (I 2775)) + (6))), I235a, A235a, B235a, C235a, rfl, ⟨by omega, by omega⟩, hR235a, (show m_fx I A I235a A235a by exact (m_fx_trans f184 f240)), (show ((0 ≤ (I235a 2774) ∧ (I235a 2774) < (I235a 2754) ∧ (I235a 2754) ≤ 1501 ∧ 0 ≤ (I235a 2775) ∧ (I235a 2775) ≤ 24) ∧ ((I235a 3393) = (I235a 3905) ∧ (I235a 3521) = (I235a 3905) ∧ (I235a 3649) = (I235a 3905) ∧ (I235a 3777) = (I235a 3905) ∧ 0 ≤ (I235a 3905) ∧ (I235a 3905) ≤ 3 * (I235a 2774)) ∧ ((I235a 4161) = (I235a 4033) ∧ 7 ≤ (I235a 4289) ∧ (I235a 4289) ≤ (I235a 4033) ∧ (I235a 4033) ≤ 7 + (I235a 2774)) ∧ 0 ≤ (I235a 5889) ∧ (I235a 5889) ≤ (I235a 2774)) ∧ ((I235a 2754) = (I 2754) ∧ (I 2774) + 1 ≤ (I235a 2774) ∧ (I235a 2775) = (I 2775) ∧ (I235a 4289) = (I 4289) + 0 ∧ (I235a 5889) = (I 5889)) ∧ ((I235a 3905) + 1 ≤ (I 3905) + 3 * ((I235a 2774) - (I 2774)) ∧ (I 3905) ≤ v236 ∧ v236 + 1 = (I235a 3905) ∧ (I 4033) ≤ (I235a 4033) ∧ (I235a 4033) ≤ (I 4033) + ((I235a 2774) - (I 2774))) by (repeat' apply And.intro) <;> first | assumption | omega), (show m_SC I235a A235a by exact sc256), (show m_TR (t_up lo180 v236 (I 3905) (8 * (24 - (I 2775)) + (6))) I235a A235a by exact tr257), (show m_ST lo I A (t_up lo180 v236 (I 3905) (8 * (24 - (I 2775)) + (6))) I235a A235a by exact s258), (show (fun k => k = 19) ((A235a 53) (v236)) by exact (k260).2), (show m_rt (t_up lo180 v236 (I 3905) (8 * (24 - (I 2775)) + (6))) (I235a 3905) v236 by exact rt261), (show m_RK (t_up lo180 v236 (I 3905) (8 * (24 - (I 2775)) + (6))) (I 3905) (I235a 3905) (8 * (24 - (I 2775)) + 7) by exact m_RK_le (show m_RK (t_up lo180 v236 (I 3905) (8 * (24 - (I 2775)) + (6))) (I 3905) (I235a 3905) (8 * (24 - (I 2775)) + (6)) from rk259) (show (8 * (24 - (I 2775)) + (6)) ≤ 8 * (24 - (I 2775)) + 7 by omega))⟩
    · rw [e192]
      replace hR178b : w_Rep w_TM fr X u l I178b A178b B178b C178b M177 := hR178b
      replace f193 : m_fx I A I178b A178b := f193
      exact Or.inr (⟨I178b, A178b, B178b, C178b, rfl, hR178b, (show m_fx I A I178b A178b by exact f193)⟩)
theorem m_all_ok (L : Nat) (xs : Nat → Int32) : ∀ n : Nat, m_all L xs (n : Int)
  | 0 => ⟨fun lo hR hd hTK hNU hSC hTR hm => by exfalso; omega, fun lo hR hd hTK hNU hSC hTR hm => by exfalso; omega, fun lo hR hd hTK hNU hSC hTR hm => by exfalso; omega⟩
  | n + 1 => ⟨fun lo hR hd hTK hNU hSC hTR hm => m_exp (m_all_ok L xs n) lo hR hd hTK hNU hSC hTR (by omega), fun lo hR hd hTK hNU hSC hTR hm => m_body (m_all_ok L xs n) lo hR hd hTK hNU hSC hTR (by omega), fun lo hR hd hTK hNU hSC hTR hm => m_value (m_all_ok L xs n) lo hR hd hTK hNU hSC hTR (by omega)⟩
