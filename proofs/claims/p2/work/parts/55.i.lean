def m_item_Q (fr : Nat → Bool) (X : Nat → Option (q_C (Nat → Int32))) (u l : Nat) (I : Nat → Int) (A : Nat → Int → Int) (B C : Nat → Nat) (M : w_M) (lo : Int → Int × Int) : w_X → w_M → Prop := fun r M' => (∃ v : Int, ∃ lo' : Int → Int × Int, ∃ (I' : Nat → Int) (A' : Nat → Int → Int) (B' C' : Nat → Nat), (r = .inl (some v)) ∧ (w_in v) ∧ (w_Rep w_TM fr X u l I' A' B' C' M') ∧ (m_fx I A I' A') ∧ (((0 ≤ (I' 2774) ∧ (I' 2774) < (I' 2754) ∧ (I' 2754) ≤ 1501 ∧ 0 ≤ (I' 2775) ∧ (I' 2775) ≤ 24) ∧ ((I' 3393) = (I' 3905) ∧ (I' 3521) = (I' 3905) ∧ (I' 3649) = (I' 3905) ∧ (I' 3777) = (I' 3905) ∧ 0 ≤ (I' 3905) ∧ (I' 3905) ≤ 3 * (I' 2774)) ∧ ((I' 4161) = (I' 4033) ∧ 7 ≤ (I' 4289) ∧ (I' 4289) ≤ (I' 4033) ∧ (I' 4033) ≤ 7 + (I' 2774)) ∧ 0 ≤ (I' 5889) ∧ (I' 5889) ≤ (I' 2774)) ∧ ((I' 2754) = (I 2754) ∧ (I 2774) + 1 ≤ (I' 2774) ∧ (I' 2775) = (I 2775) ∧ (I' 4289) = (I 4289) + 0 ∧ (I' 5889) = (I 5889)) ∧ ((I' 3905) + 2 ≤ (I 3905) + 3 * ((I' 2774) - (I 2774)) ∧ (I 3905) ≤ v ∧ v + 1 = (I' 3905) ∧ (I 4033) ≤ (I' 4033) ∧ (I' 4033) ≤ (I 4033) + ((I' 2774) - (I 2774)))) ∧ (m_SC I' A') ∧ (m_TR lo' I' A') ∧ (m_ST lo I A lo' I' A') ∧ (t_I ((A' 53) (v))) ∧ (m_rt lo' (I' 3905) v) ∧ (m_RK lo' (I 3905) (I' 3905) (8 * (24 - (I 2775)) + 6))) ∨ (∃ (I' : Nat → Int) (A' : Nat → Int → Int) (B' C' : Nat → Nat), (r = .inr 69) ∧ (w_Rep w_TM fr X u l I' A' B' C' M') ∧ (m_fx I A I' A'))
set_option maxHeartbeats 100000000 in
set_option maxRecDepth 100000 in
theorem m_item {L : Nat} {xs : Nat → Int32} {d : Nat} {fr : Nat → Bool} {X : Nat → Option (q_C (Nat → Int32))} {u l : Nat} {I : Nat → Int} {A : Nat → Int → Int} {B C : Nat → Nat} {M : w_M} {N : Int} (hA : m_all L xs N) (lo : Int → Int × Int) (hR : w_Rep w_TM fr X u l I A B C M) (hd : 20 * (24 - (I 2775)) + 18 ≤ (d : Int)) (hTK : m_TK I A) (hNU : (0 ≤ (I 2774) ∧ (I 2774) < (I 2754) ∧ (I 2754) ≤ 1501 ∧ 0 ≤ (I 2775) ∧ (I 2775) ≤ 24) ∧ ((I 3393) = (I 3905) ∧ (I 3521) = (I 3905) ∧ (I 3649) = (I 3905) ∧ (I 3777) = (I 3905) ∧ 0 ≤ (I 3905) ∧ (I 3905) ≤ 3 * (I 2774)) ∧ ((I 4161) = (I 4033) ∧ 7 ≤ (I 4289) ∧ (I 4289) ≤ (I 4033) ∧ (I 4033) ≤ 7 + (I 2774)) ∧ 0 ≤ (I 5889) ∧ (I 5889) ≤ (I 2774)) (hSC : m_SC I A) (hTR : m_TR lo I A) (hm : (I 2754) - (I 2774) ≤ N) : w_W (z_P L xs) d 233 (0, [(0, .ref 43)], [], M) (m_item_Q fr X u l I A B C M lo) := by
  obtain ⟨d, rfl⟩ : ∃ d0, d = d0 + 1 := ⟨d - 1, by omega⟩
  refine w_adv (n := 2) (F' := (2, [(0, .ref 43)], [.int (Int32.ofInt (1)), .ref 43], M)) rfl ?_
  refine w_call (cm := 231) (as := [(0, .ref 43), (1, .int (Int32.ofInt (1)))]) (rest := []) (o := some (9, 43)) rfl (w_fitR hR rfl) (m_isWord (1) hR ⟨by omega, by omega⟩ (show 0 ≤ (I 2774) ∧ (I 2774) < 1501 by omega)) (fun r1 M2 q3 => ?_)
  rcases q3 with ⟨e4, e5, f6⟩ | ⟨e7, e8, f9⟩
  · rw [e4, e5]
    replace f6 : (A 45) ((I 2774)) = 5 ∧ (A 46) ((I 2774)) = 1 := f6
    obtain ⟨n10, n11⟩ := id f6
    clear f6
    have w12 : (I 2774) + 1 < (I 2754) := m_TK_lt hTK (by omega) (by omega) (by omega)
    show w_W _ _ _ (5, [(0, .ref 43)], [.int (Int32.ofInt (1))], M) _
    refine w_adv (n := 3) (F' := (10, [(0, .ref 43)], [.int (Int32.ofInt (0)), .ref 43], M)) rfl ?_
    refine w_call (cm := 234) (as := [(0, .ref 43), (1, .int (Int32.ofInt (0)))]) (rest := []) (o := some (9, 43)) rfl (w_fitR hR rfl) (m_local hA (0) (lo) hR (show 20 * (24 - (I 2775)) + 11 ≤ (d : Int) by omega) ⟨by omega, by omega⟩ (show m_TK I A by exact hTK) (show (0 ≤ (I 2774) ∧ (I 2774) < (I 2754) ∧ (I 2754) ≤ 1501 ∧ 0 ≤ (I 2775) ∧ (I 2775) ≤ 24) ∧ ((I 3393) = (I 3905) ∧ (I 3521) = (I 3905) ∧ (I 3649) = (I 3905) ∧ (I 3777) = (I 3905) ∧ 0 ≤ (I 3905) ∧ (I 3905) ≤ 3 * (I 2774)) ∧ ((I 4161) = (I 4033) ∧ 7 ≤ (I 4289) ∧ (I 4289) ≤ (I 4033) ∧ (I 4033) ≤ 7 + (I 2774)) ∧ 0 ≤ (I 5889) ∧ (I 5889) ≤ (I 2774) by (repeat' apply And.intro) <;> first | assumption | omega) (show m_SC I A by exact hSC) (show m_TR lo I A by exact hTR) (show 1 ≤ (A 45) ((I 2774)) ∧ (A 45) ((I 2774)) ≤ 6 by first | assumption | omega) (show (I 2754) - (I 2774) ≤ N by first | assumption | omega)) (fun r13 M14 q15 => ?_)
    rcases q15 with ⟨v16, lo17, I15a, A15a, B15a, C15a, e18, ⟨r19, r20⟩, hR15a, f21, f22, f23, f24, f25, f26, f27, f28⟩ | ⟨I15b, A15b, B15b, C15b, e29, hR15b, f30⟩
    · rw [e18]
      replace hR15a : w_Rep w_TM fr X u l I15a A15a B15a C15a M14 := hR15a
      replace f21 : m_fx I A I15a A15a := f21
      replace f22 : ((0 ≤ (I15a 2774) ∧ (I15a 2774) < (I15a 2754) ∧ (I15a 2754) ≤ 1501 ∧ 0 ≤ (I15a 2775) ∧ (I15a 2775) ≤ 24) ∧ ((I15a 3393) = (I15a 3905) ∧ (I15a 3521) = (I15a 3905) ∧ (I15a 3649) = (I15a 3905) ∧ (I15a 3777) = (I15a 3905) ∧ 0 ≤ (I15a 3905) ∧ (I15a 3905) ≤ 3 * (I15a 2774)) ∧ ((I15a 4161) = (I15a 4033) ∧ 7 ≤ (I15a 4289) ∧ (I15a 4289) ≤ (I15a 4033) ∧ (I15a 4033) ≤ 7 + (I15a 2774)) ∧ 0 ≤ (I15a 5889) ∧ (I15a 5889) ≤ (I15a 2774)) ∧ ((I15a 2754) = (I 2754) ∧ (I 2774) + 1 ≤ (I15a 2774) ∧ (I15a 2775) = (I 2775) ∧ (I15a 4289) = (I 4289) + 0 ∧ (I15a 5889) = (I 5889)) ∧ ((I15a 3905) + 2 ≤ (I 3905) + 3 * ((I15a 2774) - (I 2774)) ∧ (I 3905) ≤ v16 ∧ v16 + 1 = (I15a 3905) ∧ (I 4033) ≤ (I15a 4033) ∧ (I15a 4033) ≤ (I 4033) + ((I15a 2774) - (I 2774))) := f22
      obtain ⟨⟨⟨n31, n32, n33, n34, n35⟩, ⟨n36, n37, n38, n39, n40, n41⟩, ⟨n42, n43, n44, n45⟩, n46, n47⟩, ⟨n48, n49, n50, n51, n52⟩, ⟨n53, n54, n55, n56, n57⟩⟩ := id f22
      clear f22
      replace f23 : m_SC I15a A15a := f23
      replace f24 : m_TR lo17 I15a A15a := f24
      replace f25 : m_ST lo I A lo17 I15a A15a := f25
      replace f26 : (fun k => k = 14) ((A15a 53) (v16)) := f26
      replace f27 : m_rt lo17 (I15a 3905) v16 := f27
      replace f28 : m_RK lo17 (I 3905) (I15a 3905) (8 * (24 - (I 2775)) + 0) := f28
      have tk58 : m_TK I15a A15a := m_TK_fx f21 hTK
      have nn59 : (I 3905) ≤ (I15a 3905) := by omega
      have nz60 : 0 ≤ (I 3905) := by first | assumption | omega
      have ho61 : (I 2775) = (I 2775) + (0) := by omega
      have rk63 : m_RK lo17 (I 3905) (I15a 3905) (8 * (24 - (I 2775)) + (0)) := m_RK_app (I := I) (I' := I15a) (R := (8 * (24 - (I 2775)) + (0))) (show m_RK lo (I 3905) (I 3905) (8 * (24 - (I 2775)) + (0)) from fun q q1 q2 => by omega) f25 f28 (show 0 ≤ (I 3905) by first | assumption | omega) (m_r8 (by decide)) (m_r8o (k := 0) ho61 (by decide))
      have s62 : m_ST lo I A lo17 I15a A15a := f25
      have k64 : m_kd lo17 I15a A15a (I 3905) (8 * (24 - (I 2775)) + 0) v16 (fun k => k = 14) := m_kd_of f25 f24 nz60 (show (I 3905) ≤ v16 by first | assumption | omega) (show v16 < (I15a 3905) by omega) f26 f28
      obtain ⟨j65, j66, j67, j68, j69⟩ := k64.1
      show w_W _ _ _ (13, [(0, .ref 43)], [.int (Int32.ofInt (v16))], M14) _
      refine w_fin (r := .inl (some (v16))) (M' := M14) rfl ?_
      exact Or.inl ⟨v16, lo17, I15a, A15a, B15a, C15a, rfl, ⟨by omega, by omega⟩, hR15a, (show m_fx I A I15a A15a by exact f21), (show ((0 ≤ (I15a 2774) ∧ (I15a 2774) < (I15a 2754) ∧ (I15a 2754) ≤ 1501 ∧ 0 ≤ (I15a 2775) ∧ (I15a 2775) ≤ 24) ∧ ((I15a 3393) = (I15a 3905) ∧ (I15a 3521) = (I15a 3905) ∧ (I15a 3649) = (I15a 3905) ∧ (I15a 3777) = (I15a 3905) ∧ 0 ≤ (I15a 3905) ∧ (I15a 3905) ≤ 3 * (I15a 2774)) ∧ ((I15a 4161) = (I15a 4033) ∧ 7 ≤ (I15a 4289) ∧ (I15a 4289) ≤ (I15a 4033) ∧ (I15a 4033) ≤ 7 + (I15a 2774)) ∧ 0 ≤ (I15a 5889) ∧ (I15a 5889) ≤ (I15a 2774)) ∧ ((I15a 2754) = (I 2754) ∧ (I 2774) + 1 ≤ (I15a 2774) ∧ (I15a 2775) = (I 2775) ∧ (I15a 4289) = (I 4289) + 0 ∧ (I15a 5889) = (I 5889)) ∧ ((I15a 3905) + 2 ≤ (I 3905) + 3 * ((I15a 2774) - (I 2774)) ∧ (I 3905) ≤ v16 ∧ v16 + 1 = (I15a 3905) ∧ (I 4033) ≤ (I15a 4033) ∧ (I15a 4033) ≤ (I 4033) + ((I15a 2774) - (I 2774))) by (repeat' apply And.intro) <;> first | assumption | omega), (show m_SC I15a A15a by exact f23), (show m_TR lo17 I15a A15a by exact f24), (show m_ST lo I A lo17 I15a A15a by exact s62), (show t_I ((A15a 53) (v16)) by exact ((m_kd_K k64 (fun k h => by have h : k = 14 := h; unfold t_I; omega))).2), (show m_rt lo17 (I15a 3905) v16 by exact f27), (show m_RK lo17 (I 3905) (I15a 3905) (8 * (24 - (I 2775)) + 6) by exact m_RK_le (show m_RK lo17 (I 3905) (I15a 3905) (8 * (24 - (I 2775)) + (0)) from rk63) (show (8 * (24 - (I 2775)) + (0)) ≤ 8 * (24 - (I 2775)) + 6 by omega))⟩
    · rw [e29]
      replace hR15b : w_Rep w_TM fr X u l I15b A15b B15b C15b M14 := hR15b
      replace f30 : m_fx I A I15b A15b := f30
      exact Or.inr (⟨I15b, A15b, B15b, C15b, rfl, hR15b, (show m_fx I A I15b A15b by exact f30)⟩)
  · rw [e7, e8]
    replace f9 : ¬ ((A 45) ((I 2774)) = 5 ∧ (A 46) ((I 2774)) = 1) := f9
    show w_W _ _ _ (5, [(0, .ref 43)], [.int (Int32.ofInt (0))], M) _
    refine w_adv (n := 3) (F' := (16, [(0, .ref 43)], [.int (Int32.ofInt (4)), .ref 43], M)) rfl ?_
    refine w_call (cm := 231) (as := [(0, .ref 43), (1, .int (Int32.ofInt (4)))]) (rest := []) (o := some (9, 43)) rfl (w_fitR hR rfl) (m_isWord (4) hR ⟨by omega, by omega⟩ (show 0 ≤ (I 2774) ∧ (I 2774) < 1501 by omega)) (fun r70 M71 q72 => ?_)
    rcases q72 with ⟨e73, e74, f75⟩ | ⟨e76, e77, f78⟩
    · rw [e73, e74]
      replace f75 : (A 45) ((I 2774)) = 5 ∧ (A 46) ((I 2774)) = 4 := f75
      obtain ⟨n79, n80⟩ := id f75
      clear f75
      have w81 : (I 2774) + 1 < (I 2754) := m_TK_lt hTK (by omega) (by omega) (by omega)
      show w_W _ _ _ (19, [(0, .ref 43)], [.int (Int32.ofInt (1))], M) _
      refine w_adv (n := 3) (F' := (24, [(0, .ref 43)], [.int (Int32.ofInt (0)), .ref 43], M)) rfl ?_
      refine w_call (cm := 268) (as := [(0, .ref 43), (1, .int (Int32.ofInt (0)))]) (rest := []) (o := some (9, 43)) rfl (w_fitR hR rfl) (m_choice hA (0) (lo) hR (show 20 * (24 - (I 2775)) + 11 ≤ (d : Int) by omega) ⟨by omega, by omega⟩ (show m_TK I A by exact hTK) (show (0 ≤ (I 2774) ∧ (I 2774) < (I 2754) ∧ (I 2754) ≤ 1501 ∧ 0 ≤ (I 2775) ∧ (I 2775) ≤ 24) ∧ ((I 3393) = (I 3905) ∧ (I 3521) = (I 3905) ∧ (I 3649) = (I 3905) ∧ (I 3777) = (I 3905) ∧ 0 ≤ (I 3905) ∧ (I 3905) ≤ 3 * (I 2774)) ∧ ((I 4161) = (I 4033) ∧ 7 ≤ (I 4289) ∧ (I 4289) ≤ (I 4033) ∧ (I 4033) ≤ 7 + (I 2774)) ∧ 0 ≤ (I 5889) ∧ (I 5889) ≤ (I 2774) by (repeat' apply And.intro) <;> first | assumption | omega) (show m_SC I A by exact hSC) (show m_TR lo I A by exact hTR) (show 1 ≤ (A 45) ((I 2774)) ∧ (A 45) ((I 2774)) ≤ 6 by first | assumption | omega) (show (I 2754) - (I 2774) ≤ N by first | assumption | omega)) (fun r82 M83 q84 => ?_)
      rcases q84 with ⟨v85, lo86, I84a, A84a, B84a, C84a, e87, ⟨r88, r89⟩, hR84a, f90, f91, f92, f93, f94, f95, f96, f97⟩ | ⟨I84b, A84b, B84b, C84b, e98, hR84b, f99⟩
      · rw [e87]
        replace hR84a : w_Rep w_TM fr X u l I84a A84a B84a C84a M83 := hR84a
        replace f90 : m_fx I A I84a A84a := f90
        replace f91 : ((0 ≤ (I84a 2774) ∧ (I84a 2774) < (I84a 2754) ∧ (I84a 2754) ≤ 1501 ∧ 0 ≤ (I84a 2775) ∧ (I84a 2775) ≤ 24) ∧ ((I84a 3393) = (I84a 3905) ∧ (I84a 3521) = (I84a 3905) ∧ (I84a 3649) = (I84a 3905) ∧ (I84a 3777) = (I84a 3905) ∧ 0 ≤ (I84a 3905) ∧ (I84a 3905) ≤ 3 * (I84a 2774)) ∧ ((I84a 4161) = (I84a 4033) ∧ 7 ≤ (I84a 4289) ∧ (I84a 4289) ≤ (I84a 4033) ∧ (I84a 4033) ≤ 7 + (I84a 2774)) ∧ 0 ≤ (I84a 5889) ∧ (I84a 5889) ≤ (I84a 2774)) ∧ ((I84a 2754) = (I 2754) ∧ (I 2774) + 1 ≤ (I84a 2774) ∧ (I84a 2775) = (I 2775) ∧ (I84a 4289) = (I 4289) + 0 ∧ (I84a 5889) = (I 5889)) ∧ ((I84a 3905) + 2 ≤ (I 3905) + 3 * ((I84a 2774) - (I 2774)) ∧ (I 3905) ≤ v85 ∧ v85 + 1 = (I84a 3905) ∧ (I 4033) ≤ (I84a 4033) ∧ (I84a 4033) ≤ (I 4033) + ((I84a 2774) - (I 2774))) := f91
        obtain ⟨⟨⟨n100, n101, n102, n103, n104⟩, ⟨n105, n106, n107, n108, n109, n110⟩, ⟨n111, n112, n113, n114⟩, n115, n116⟩, ⟨n117, n118, n119, n120, n121⟩, ⟨n122, n123, n124, n125, n126⟩⟩ := id f91
        clear f91
        replace f92 : m_SC I84a A84a := f92
        replace f93 : m_TR lo86 I84a A84a := f93
        replace f94 : m_ST lo I A lo86 I84a A84a := f94
        replace f95 : (fun k => k = 15) ((A84a 53) (v85)) := f95
        replace f96 : m_rt lo86 (I84a 3905) v85 := f96
        replace f97 : m_RK lo86 (I 3905) (I84a 3905) (8 * (24 - (I 2775)) + 0) := f97
        have tk127 : m_TK I84a A84a := m_TK_fx f90 hTK
        have nn128 : (I 3905) ≤ (I84a 3905) := by omega
        have nz129 : 0 ≤ (I 3905) := by first | assumption | omega
        have ho130 : (I 2775) = (I 2775) + (0) := by omega
        have rk132 : m_RK lo86 (I 3905) (I84a 3905) (8 * (24 - (I 2775)) + (0)) := m_RK_app (I := I) (I' := I84a) (R := (8 * (24 - (I 2775)) + (0))) (show m_RK lo (I 3905) (I 3905) (8 * (24 - (I 2775)) + (0)) from fun q q1 q2 => by omega) f94 f97 (show 0 ≤ (I 3905) by first | assumption | omega) (m_r8 (by decide)) (m_r8o (k := 0) ho130 (by decide))
        have s131 : m_ST lo I A lo86 I84a A84a := f94
        have k133 : m_kd lo86 I84a A84a (I 3905) (8 * (24 - (I 2775)) + 0) v85 (fun k => k = 15) := m_kd_of f94 f93 nz129 (show (I 3905) ≤ v85 by first | assumption | omega) (show v85 < (I84a 3905) by omega) f95 f97
        obtain ⟨j134, j135, j136, j137, j138⟩ := k133.1
        show w_W _ _ _ (27, [(0, .ref 43)], [.int (Int32.ofInt (v85))], M83) _
        refine w_fin (r := .inl (some (v85))) (M' := M83) rfl ?_
        exact Or.inl ⟨v85, lo86, I84a, A84a, B84a, C84a, rfl, ⟨by omega, by omega⟩, hR84a, (show m_fx I A I84a A84a by exact f90), (show ((0 ≤ (I84a 2774) ∧ (I84a 2774) < (I84a 2754) ∧ (I84a 2754) ≤ 1501 ∧ 0 ≤ (I84a 2775) ∧ (I84a 2775) ≤ 24) ∧ ((I84a 3393) = (I84a 3905) ∧ (I84a 3521) = (I84a 3905) ∧ (I84a 3649) = (I84a 3905) ∧ (I84a 3777) = (I84a 3905) ∧ 0 ≤ (I84a 3905) ∧ (I84a 3905) ≤ 3 * (I84a 2774)) ∧ ((I84a 4161) = (I84a 4033) ∧ 7 ≤ (I84a 4289) ∧ (I84a 4289) ≤ (I84a 4033) ∧ (I84a 4033) ≤ 7 + (I84a 2774)) ∧ 0 ≤ (I84a 5889) ∧ (I84a 5889) ≤ (I84a 2774)) ∧ ((I84a 2754) = (I 2754) ∧ (I 2774) + 1 ≤ (I84a 2774) ∧ (I84a 2775) = (I 2775) ∧ (I84a 4289) = (I 4289) + 0 ∧ (I84a 5889) = (I 5889)) ∧ ((I84a 3905) + 2 ≤ (I 3905) + 3 * ((I84a 2774) - (I 2774)) ∧ (I 3905) ≤ v85 ∧ v85 + 1 = (I84a 3905) ∧ (I 4033) ≤ (I84a 4033) ∧ (I84a 4033) ≤ (I 4033) + ((I84a 2774) - (I 2774))) by (repeat' apply And.intro) <;> first | assumption | omega), (show m_SC I84a A84a by exact f92), (show m_TR lo86 I84a A84a by exact f93), (show m_ST lo I A lo86 I84a A84a by exact s131), (show t_I ((A84a 53) (v85)) by exact ((m_kd_K k133 (fun k h => by have h : k = 15 := h; unfold t_I; omega))).2), (show m_rt lo86 (I84a 3905) v85 by exact f96), (show m_RK lo86 (I 3905) (I84a 3905) (8 * (24 - (I 2775)) + 6) by exact m_RK_le (show m_RK lo86 (I 3905) (I84a 3905) (8 * (24 - (I 2775)) + (0)) from rk132) (show (8 * (24 - (I 2775)) + (0)) ≤ 8 * (24 - (I 2775)) + 6 by omega))⟩
      · rw [e98]
        replace hR84b : w_Rep w_TM fr X u l I84b A84b B84b C84b M83 := hR84b
        replace f99 : m_fx I A I84b A84b := f99
        exact Or.inr (⟨I84b, A84b, B84b, C84b, rfl, hR84b, (show m_fx I A I84b A84b by exact f99)⟩)
    · rw [e76, e77]
      replace f78 : ¬ ((A 45) ((I 2774)) = 5 ∧ (A 46) ((I 2774)) = 4) := f78
      show w_W _ _ _ (19, [(0, .ref 43)], [.int (Int32.ofInt (0))], M) _
      refine w_adv (n := 3) (F' := (31, [(0, .ref 43)], [.int (Int32.ofInt (7)), .ref 43], M)) rfl ?_
      refine w_call (cm := 231) (as := [(0, .ref 43), (1, .int (Int32.ofInt (7)))]) (rest := []) (o := some (9, 43)) rfl (w_fitR hR rfl) (m_isWord (7) hR ⟨by omega, by omega⟩ (show 0 ≤ (I 2774) ∧ (I 2774) < 1501 by omega)) (fun r139 M140 q141 => ?_)
      rcases q141 with ⟨e142, e143, f144⟩ | ⟨e145, e146, f147⟩
      · rw [e142, e143]
        replace f144 : (A 45) ((I 2774)) = 5 ∧ (A 46) ((I 2774)) = 7 := f144
        obtain ⟨n148, n149⟩ := id f144
        clear f144
        have w150 : (I 2774) + 1 < (I 2754) := m_TK_lt hTK (by omega) (by omega) (by omega)
        show w_W _ _ _ (34, [(0, .ref 43)], [.int (Int32.ofInt (1))], M) _
        refine w_adv (n := 3) (F' := (39, [(0, .ref 43)], [.int (Int32.ofInt (0)), .ref 43], M)) rfl ?_
        refine w_call (cm := 269) (as := [(0, .ref 43), (1, .int (Int32.ofInt (0)))]) (rest := []) (o := some (9, 43)) rfl (w_fitR hR rfl) (m_cases hA (0) (lo) hR (show 20 * (24 - (I 2775)) + 11 ≤ (d : Int) by omega) ⟨by omega, by omega⟩ (show m_TK I A by exact hTK) (show (0 ≤ (I 2774) ∧ (I 2774) < (I 2754) ∧ (I 2754) ≤ 1501 ∧ 0 ≤ (I 2775) ∧ (I 2775) ≤ 24) ∧ ((I 3393) = (I 3905) ∧ (I 3521) = (I 3905) ∧ (I 3649) = (I 3905) ∧ (I 3777) = (I 3905) ∧ 0 ≤ (I 3905) ∧ (I 3905) ≤ 3 * (I 2774)) ∧ ((I 4161) = (I 4033) ∧ 7 ≤ (I 4289) ∧ (I 4289) ≤ (I 4033) ∧ (I 4033) ≤ 7 + (I 2774)) ∧ 0 ≤ (I 5889) ∧ (I 5889) ≤ (I 2774) by (repeat' apply And.intro) <;> first | assumption | omega) (show m_SC I A by exact hSC) (show m_TR lo I A by exact hTR) (show 1 ≤ (A 45) ((I 2774)) ∧ (A 45) ((I 2774)) ≤ 6 by first | assumption | omega) (show (I 2754) - (I 2774) ≤ N by first | assumption | omega)) (fun r151 M152 q153 => ?_)
        rcases q153 with ⟨v154, lo155, I153a, A153a, B153a, C153a, e156, ⟨r157, r158⟩, hR153a, f159, f160, f161, f162, f163, f164, f165, f166⟩ | ⟨I153b, A153b, B153b, C153b, e167, hR153b, f168⟩
        · rw [e156]
          replace hR153a : w_Rep w_TM fr X u l I153a A153a B153a C153a M152 := hR153a
          replace f159 : m_fx I A I153a A153a := f159
          replace f160 : ((0 ≤ (I153a 2774) ∧ (I153a 2774) < (I153a 2754) ∧ (I153a 2754) ≤ 1501 ∧ 0 ≤ (I153a 2775) ∧ (I153a 2775) ≤ 24) ∧ ((I153a 3393) = (I153a 3905) ∧ (I153a 3521) = (I153a 3905) ∧ (I153a 3649) = (I153a 3905) ∧ (I153a 3777) = (I153a 3905) ∧ 0 ≤ (I153a 3905) ∧ (I153a 3905) ≤ 3 * (I153a 2774)) ∧ ((I153a 4161) = (I153a 4033) ∧ 7 ≤ (I153a 4289) ∧ (I153a 4289) ≤ (I153a 4033) ∧ (I153a 4033) ≤ 7 + (I153a 2774)) ∧ 0 ≤ (I153a 5889) ∧ (I153a 5889) ≤ (I153a 2774)) ∧ ((I153a 2754) = (I 2754) ∧ (I 2774) + 1 ≤ (I153a 2774) ∧ (I153a 2775) = (I 2775) ∧ (I153a 4289) = (I 4289) + 0 ∧ (I153a 5889) = (I 5889)) ∧ ((I153a 3905) + 2 ≤ (I 3905) + 3 * ((I153a 2774) - (I 2774)) ∧ (I 3905) ≤ v154 ∧ v154 + 1 = (I153a 3905) ∧ (I 4033) ≤ (I153a 4033) ∧ (I153a 4033) ≤ (I 4033) + ((I153a 2774) - (I 2774))) := f160
          obtain ⟨⟨⟨n169, n170, n171, n172, n173⟩, ⟨n174, n175, n176, n177, n178, n179⟩, ⟨n180, n181, n182, n183⟩, n184, n185⟩, ⟨n186, n187, n188, n189, n190⟩, ⟨n191, n192, n193, n194, n195⟩⟩ := id f160
          clear f160
          replace f161 : m_SC I153a A153a := f161
          replace f162 : m_TR lo155 I153a A153a := f162
          replace f163 : m_ST lo I A lo155 I153a A153a := f163
          replace f164 : (fun k => k = 16) ((A153a 53) (v154)) := f164
          replace f165 : m_rt lo155 (I153a 3905) v154 := f165
          replace f166 : m_RK lo155 (I 3905) (I153a 3905) (8 * (24 - (I 2775)) + 0) := f166
          have tk196 : m_TK I153a A153a := m_TK_fx f159 hTK
          have nn197 : (I 3905) ≤ (I153a 3905) := by omega
          have nz198 : 0 ≤ (I 3905) := by first | assumption | omega
          have ho199 : (I 2775) = (I 2775) + (0) := by omega
          have rk201 : m_RK lo155 (I 3905) (I153a 3905) (8 * (24 - (I 2775)) + (0)) := m_RK_app (I := I) (I' := I153a) (R := (8 * (24 - (I 2775)) + (0))) (show m_RK lo (I 3905) (I 3905) (8 * (24 - (I 2775)) + (0)) from fun q q1 q2 => by omega) f163 f166 (show 0 ≤ (I 3905) by first | assumption | omega) (m_r8 (by decide)) (m_r8o (k := 0) ho199 (by decide))
          have s200 : m_ST lo I A lo155 I153a A153a := f163
          have k202 : m_kd lo155 I153a A153a (I 3905) (8 * (24 - (I 2775)) + 0) v154 (fun k => k = 16) := m_kd_of f163 f162 nz198 (show (I 3905) ≤ v154 by first | assumption | omega) (show v154 < (I153a 3905) by omega) f164 f166
          obtain ⟨j203, j204, j205, j206, j207⟩ := k202.1
          show w_W _ _ _ (42, [(0, .ref 43)], [.int (Int32.ofInt (v154))], M152) _
          refine w_fin (r := .inl (some (v154))) (M' := M152) rfl ?_
          exact Or.inl ⟨v154, lo155, I153a, A153a, B153a, C153a, rfl, ⟨by omega, by omega⟩, hR153a, (show m_fx I A I153a A153a by exact f159), (show ((0 ≤ (I153a 2774) ∧ (I153a 2774) < (I153a 2754) ∧ (I153a 2754) ≤ 1501 ∧ 0 ≤ (I153a 2775) ∧ (I153a 2775) ≤ 24) ∧ ((I153a 3393) = (I153a 3905) ∧ (I153a 3521) = (I153a 3905) ∧ (I153a 3649) = (I153a 3905) ∧ (I153a 3777) = (I153a 3905) ∧ 0 ≤ (I153a 3905) ∧ (I153a 3905) ≤ 3 * (I153a 2774)) ∧ ((I153a 4161) = (I153a 4033) ∧ 7 ≤ (I153a 4289) ∧ (I153a 4289) ≤ (I153a 4033) ∧ (I153a 4033) ≤ 7 + (I153a 2774)) ∧ 0 ≤ (I153a 5889) ∧ (I153a 5889) ≤ (I153a 2774)) ∧ ((I153a 2754) = (I 2754) ∧ (I 2774) + 1 ≤ (I153a 2774) ∧ (I153a 2775) = (I 2775) ∧ (I153a 4289) = (I 4289) + 0 ∧ (I153a 5889) = (I 5889)) ∧ ((I153a 3905) + 2 ≤ (I 3905) + 3 * ((I153a 2774) - (I 2774)) ∧ (I 3905) ≤ v154 ∧ v154 + 1 = (I153a 3905) ∧ (I 4033) ≤ (I153a 4033) ∧ (I153a 4033) ≤ (I 4033) + ((I153a 2774) - (I 2774))) by (repeat' apply And.intro) <;> first | assumption | omega), (show m_SC I153a A153a by exact f161), (show m_TR lo155 I153a A153a by exact f162), (show m_ST lo I A lo155 I153a A153a by exact s200), (show t_I ((A153a 53) (v154)) by exact ((m_kd_K k202 (fun k h => by have h : k = 16 := h; unfold t_I; omega))).2), (show m_rt lo155 (I153a 3905) v154 by exact f165), (show m_RK lo155 (I 3905) (I153a 3905) (8 * (24 - (I 2775)) + 6) by exact m_RK_le (show m_RK lo155 (I 3905) (I153a 3905) (8 * (24 - (I 2775)) + (0)) from rk201) (show (8 * (24 - (I 2775)) + (0)) ≤ 8 * (24 - (I 2775)) + 6 by omega))⟩
        · rw [e167]
          replace hR153b : w_Rep w_TM fr X u l I153b A153b B153b C153b M152 := hR153b
          replace f168 : m_fx I A I153b A153b := f168
          exact Or.inr (⟨I153b, A153b, B153b, C153b, rfl, hR153b, (show m_fx I A I153b A153b by exact f168)⟩)
      · rw [e145, e146]
        replace f147 : ¬ ((A 45) ((I 2774)) = 5 ∧ (A 46) ((I 2774)) = 7) := f147
        show w_W _ _ _ (34, [(0, .ref 43)], [.int (Int32.ofInt (0))], M) _
        refine w_adv (n := 3) (F' := (46, [(0, .ref 43)], [.int (Int32.ofInt (12)), .ref 43], M)) rfl ?_
        refine w_call (cm := 231) (as := [(0, .ref 43), (1, .int (Int32.ofInt (12)))]) (rest := []) (o := some (9, 43)) rfl (w_fitR hR rfl) (m_isWord (12) hR ⟨by omega, by omega⟩ (show 0 ≤ (I 2774) ∧ (I 2774) < 1501 by omega)) (fun r208 M209 q210 => ?_)
        rcases q210 with ⟨e211, e212, f213⟩ | ⟨e214, e215, f216⟩
        · rw [e211, e212]
          replace f213 : (A 45) ((I 2774)) = 5 ∧ (A 46) ((I 2774)) = 12 := f213
          obtain ⟨n217, n218⟩ := id f213
          clear f213
          have w219 : (I 2774) + 1 < (I 2754) := m_TK_lt hTK (by omega) (by omega) (by omega)
          show w_W _ _ _ (49, [(0, .ref 43)], [.int (Int32.ofInt (1))], M) _
          refine w_adv (n := 3) (F' := (54, [(0, .ref 43)], [.int (Int32.ofInt (0)), .ref 43], M)) rfl ?_
          refine w_call (cm := 272) (as := [(0, .ref 43), (1, .int (Int32.ofInt (0)))]) (rest := []) (o := some (9, 43)) rfl (w_fitR hR rfl) (m_thread hA (0) (lo) hR (show 20 * (24 - (I 2775)) + 11 ≤ (d : Int) by omega) ⟨by omega, by omega⟩ (show m_TK I A by exact hTK) (show (0 ≤ (I 2774) ∧ (I 2774) < (I 2754) ∧ (I 2754) ≤ 1501 ∧ 0 ≤ (I 2775) ∧ (I 2775) ≤ 24) ∧ ((I 3393) = (I 3905) ∧ (I 3521) = (I 3905) ∧ (I 3649) = (I 3905) ∧ (I 3777) = (I 3905) ∧ 0 ≤ (I 3905) ∧ (I 3905) ≤ 3 * (I 2774)) ∧ ((I 4161) = (I 4033) ∧ 7 ≤ (I 4289) ∧ (I 4289) ≤ (I 4033) ∧ (I 4033) ≤ 7 + (I 2774)) ∧ 0 ≤ (I 5889) ∧ (I 5889) ≤ (I 2774) by (repeat' apply And.intro) <;> first | assumption | omega) (show m_SC I A by exact hSC) (show m_TR lo I A by exact hTR) (show 1 ≤ (A 45) ((I 2774)) ∧ (A 45) ((I 2774)) ≤ 6 by first | assumption | omega) (show (I 2754) - (I 2774) ≤ N by first | assumption | omega)) (fun r220 M221 q222 => ?_)
          rcases q222 with ⟨v223, lo224, I222a, A222a, B222a, C222a, e225, ⟨r226, r227⟩, hR222a, f228, f229, f230, f231, f232, f233, f234, f235⟩ | ⟨I222b, A222b, B222b, C222b, e236, hR222b, f237⟩
          · rw [e225]
            replace hR222a : w_Rep w_TM fr X u l I222a A222a B222a C222a M221 := hR222a
            replace f228 : m_fx I A I222a A222a := f228
            replace f229 : ((0 ≤ (I222a 2774) ∧ (I222a 2774) < (I222a 2754) ∧ (I222a 2754) ≤ 1501 ∧ 0 ≤ (I222a 2775) ∧ (I222a 2775) ≤ 24) ∧ ((I222a 3393) = (I222a 3905) ∧ (I222a 3521) = (I222a 3905) ∧ (I222a 3649) = (I222a 3905) ∧ (I222a 3777) = (I222a 3905) ∧ 0 ≤ (I222a 3905) ∧ (I222a 3905) ≤ 3 * (I222a 2774)) ∧ ((I222a 4161) = (I222a 4033) ∧ 7 ≤ (I222a 4289) ∧ (I222a 4289) ≤ (I222a 4033) ∧ (I222a 4033) ≤ 7 + (I222a 2774)) ∧ 0 ≤ (I222a 5889) ∧ (I222a 5889) ≤ (I222a 2774)) ∧ ((I222a 2754) = (I 2754) ∧ (I 2774) + 1 ≤ (I222a 2774) ∧ (I222a 2775) = (I 2775) ∧ (I222a 4289) = (I 4289) + 0 ∧ (I222a 5889) = (I 5889)) ∧ ((I222a 3905) + 2 ≤ (I 3905) + 3 * ((I222a 2774) - (I 2774)) ∧ (I 3905) ≤ v223 ∧ v223 + 1 = (I222a 3905) ∧ (I 4033) ≤ (I222a 4033) ∧ (I222a 4033) ≤ (I 4033) + ((I222a 2774) - (I 2774))) := f229
            obtain ⟨⟨⟨n238, n239, n240, n241, n242⟩, ⟨n243, n244, n245, n246, n247, n248⟩, ⟨n249, n250, n251, n252⟩, n253, n254⟩, ⟨n255, n256, n257, n258, n259⟩, ⟨n260, n261, n262, n263, n264⟩⟩ := id f229
            clear f229
            replace f230 : m_SC I222a A222a := f230
            replace f231 : m_TR lo224 I222a A222a := f231
            replace f232 : m_ST lo I A lo224 I222a A222a := f232
            replace f233 : (fun k => k = 18) ((A222a 53) (v223)) := f233
            replace f234 : m_rt lo224 (I222a 3905) v223 := f234
            replace f235 : m_RK lo224 (I 3905) (I222a 3905) (8 * (24 - (I 2775)) + 0) := f235
            have tk265 : m_TK I222a A222a := m_TK_fx f228 hTK
            have nn266 : (I 3905) ≤ (I222a 3905) := by omega
            have nz267 : 0 ≤ (I 3905) := by first | assumption | omega
            have ho268 : (I 2775) = (I 2775) + (0) := by omega
            have rk270 : m_RK lo224 (I 3905) (I222a 3905) (8 * (24 - (I 2775)) + (0)) := m_RK_app (I := I) (I' := I222a) (R := (8 * (24 - (I 2775)) + (0))) (show m_RK lo (I 3905) (I 3905) (8 * (24 - (I 2775)) + (0)) from fun q q1 q2 => by omega) f232 f235 (show 0 ≤ (I 3905) by first | assumption | omega) (m_r8 (by decide)) (m_r8o (k := 0) ho268 (by decide))
            have s269 : m_ST lo I A lo224 I222a A222a := f232
            have k271 : m_kd lo224 I222a A222a (I 3905) (8 * (24 - (I 2775)) + 0) v223 (fun k => k = 18) := m_kd_of f232 f231 nz267 (show (I 3905) ≤ v223 by first | assumption | omega) (show v223 < (I222a 3905) by omega) f233 f235
            obtain ⟨j272, j273, j274, j275, j276⟩ := k271.1
            show w_W _ _ _ (57, [(0, .ref 43)], [.int (Int32.ofInt (v223))], M221) _
            refine w_fin (r := .inl (some (v223))) (M' := M221) rfl ?_
            exact Or.inl ⟨v223, lo224, I222a, A222a, B222a, C222a, rfl, ⟨by omega, by omega⟩, hR222a, (show m_fx I A I222a A222a by exact f228), (show ((0 ≤ (I222a 2774) ∧ (I222a 2774) < (I222a 2754) ∧ (I222a 2754) ≤ 1501 ∧ 0 ≤ (I222a 2775) ∧ (I222a 2775) ≤ 24) ∧ ((I222a 3393) = (I222a 3905) ∧ (I222a 3521) = (I222a 3905) ∧ (I222a 3649) = (I222a 3905) ∧ (I222a 3777) = (I222a 3905) ∧ 0 ≤ (I222a 3905) ∧ (I222a 3905) ≤ 3 * (I222a 2774)) ∧ ((I222a 4161) = (I222a 4033) ∧ 7 ≤ (I222a 4289) ∧ (I222a 4289) ≤ (I222a 4033) ∧ (I222a 4033) ≤ 7 + (I222a 2774)) ∧ 0 ≤ (I222a 5889) ∧ (I222a 5889) ≤ (I222a 2774)) ∧ ((I222a 2754) = (I 2754) ∧ (I 2774) + 1 ≤ (I222a 2774) ∧ (I222a 2775) = (I 2775) ∧ (I222a 4289) = (I 4289) + 0 ∧ (I222a 5889) = (I 5889)) ∧ ((I222a 3905) + 2 ≤ (I 3905) + 3 * ((I222a 2774) - (I 2774)) ∧ (I 3905) ≤ v223 ∧ v223 + 1 = (I222a 3905) ∧ (I 4033) ≤ (I222a 4033) ∧ (I222a 4033) ≤ (I 4033) + ((I222a 2774) - (I 2774))) by (repeat' apply And.intro) <;> first | assumption | omega), (show m_SC I222a A222a by exact f230), (show m_TR lo224 I222a A222a by exact f231), (show m_ST lo I A lo224 I222a A222a by exact s269), (show t_I ((A222a 53) (v223)) by exact ((m_kd_K k271 (fun k h => by have h : k = 18 := h; unfold t_I; omega))).2), (show m_rt lo224 (I222a 3905) v223 by exact f234), (show m_RK lo224 (I 3905) (I222a 3905) (8 * (24 - (I 2775)) + 6) by exact m_RK_le (show m_RK lo224 (I 3905) (I222a 3905) (8 * (24 - (I 2775)) + (0)) from rk270) (show (8 * (24 - (I 2775)) + (0)) ≤ 8 * (24 - (I 2775)) + 6 by omega))⟩
          · rw [e236]
            replace hR222b : w_Rep w_TM fr X u l I222b A222b B222b C222b M221 := hR222b
            replace f237 : m_fx I A I222b A222b := f237
            exact Or.inr (⟨I222b, A222b, B222b, C222b, rfl, hR222b, (show m_fx I A I222b A222b by exact f237)⟩)
        · rw [e214, e215]
          replace f216 : ¬ ((A 45) ((I 2774)) = 5 ∧ (A 46) ((I 2774)) = 12) := f216
          show w_W _ _ _ (49, [(0, .ref 43)], [.int (Int32.ofInt (0))], M) _
          refine w_adv (n := 3) (F' := (60, [(0, .ref 43)], [.int (Int32.ofInt (0)), .ref 43], M)) rfl ?_
          refine w_call (cm := 231) (as := [(0, .ref 43), (1, .int (Int32.ofInt (0)))]) (rest := []) (o := some (9, 43)) rfl (w_fitR hR rfl) (m_isWord (0) hR ⟨by omega, by omega⟩ (show 0 ≤ (I 2774) ∧ (I 2774) < 1501 by omega)) (fun r277 M278 q279 => ?_)
          rcases q279 with ⟨e280, e281, f282⟩ | ⟨e283, e284, f285⟩
          · rw [e280, e281]
            replace f282 : (A 45) ((I 2774)) = 5 ∧ (A 46) ((I 2774)) = 0 := f282
            obtain ⟨n286, n287⟩ := id f282
            clear f282
            have w288 : (I 2774) + 1 < (I 2754) := m_TK_lt hTK (by omega) (by omega) (by omega)
            show w_W _ _ _ (63, [(0, .ref 43)], [.int (Int32.ofInt (1))], M) _
            refine w_adv (n := 3) (F' := (68, [(0, .ref 43)], [.ref 43, .ref 43], M)) rfl ?_
            refine w_gf (v := .int (Int32.ofInt ((I 2774)))) hR rfl rfl rfl rfl ?_
            obtain ⟨r289, r290⟩ : -2147483648 ≤ (I 2774) ∧ (I 2774) ≤ 2147483647 := hR.ri 2774
            refine w_adv (n := 1) (F' := (72, [(0, .ref 43)], [.int (Int32.ofInt (1)), .int (Int32.ofInt ((I 2774))), .ref 43], M)) rfl ?_
            refine w_add rfl ?_
            refine w_pf hR rfl rfl rfl rfl (show w_in ((I 2774) + 1) from ⟨by omega, by omega⟩) (fun h => absurd h (by decide)) (fun M291 hR292 => ?_)
            replace hR292 : w_Rep w_TM fr X u l (w_up I 2774 ((I 2774) + 1)) A B C M291 := hR292
            refine w_adv (n := 5) (F' := (82, [(0, .ref 43)], [.int (Int32.ofInt (0)), .int (Int32.ofInt (0)), .int (Int32.ofInt (0)), .int (Int32.ofInt (20)), .ref 43], M291)) rfl ?_
            refine w_call (cm := 239) (as := [(0, .ref 43), (1, .int (Int32.ofInt (20))), (2, .int (Int32.ofInt (0))), (3, .int (Int32.ofInt (0))), (4, .int (Int32.ofInt (0)))]) (rest := []) (o := some (9, 43)) rfl (w_fitR hR292 rfl) (m_node (20) (0) (0) (0) hR292 (show 2 ≤ d by omega) ⟨by omega, by omega⟩ ⟨by omega, by omega⟩ ⟨by omega, by omega⟩ ⟨by omega, by omega⟩ (show (I 3393) = (I 3905) by first | assumption | omega) (show (I 3521) = (I 3905) by first | assumption | omega) (show (I 3649) = (I 3905) by first | assumption | omega) (show (I 3777) = (I 3905) by first | assumption | omega) (show (I 3905) < 65536 by first | assumption | omega)) (fun r293 M294 q295 => ?_)
            rcases q295 with ⟨v296, I295a, A295a, B295a, C295a, e297, ⟨r298, r299⟩, hR295a, f300, f301⟩
            rw [e297]
            replace hR295a : w_Rep w_TM fr X u l I295a A295a B295a C295a M294 := hR295a
            replace f300 : m_fx (w_up I 2774 ((I 2774) + 1)) A I295a A295a := f300
            replace f301 : m_nd (w_up I 2774 ((I 2774) + 1)) A I295a A295a v296 20 0 0 0 := f301
            obtain ⟨⟨n302, n303, n304, n305, n306, n307⟩, ⟨n308, n309, n310, n311, n312, n313, n314⟩⟩ : (v296 = (I 3905) ∧ (I295a 3905) = (I 3905) + 1 ∧ (I295a 3393) = (I 3393) + 1 ∧ (I295a 3521) = (I 3521) + 1 ∧ (I295a 3649) = (I 3649) + 1 ∧ (I295a 3777) = (I 3777) + 1) ∧ ((I295a 2774) = (I 2774) + 1 ∧ (I295a 2754) = (I 2754) ∧ (I295a 2775) = (I 2775) ∧ (I295a 4289) = (I 4289) ∧ (I295a 4033) = (I 4033) ∧ (I295a 4161) = (I 4161) ∧ (I295a 5889) = (I 5889)) := m_nd_num f301
            have tk315 : m_TK I295a A295a := m_TK_fx f300 hTK
            have sc316 : m_SC I295a A295a := m_SC_nd f301 hSC
            have tr317 : m_TR (t_up lo v296 (I 3905) (8 * (24 - (I 2775)) + (0))) I295a A295a := m_TR_nd (show m_TR lo (w_up I 2774 ((I 2774) + 1)) A from hTR) f301 (show 0 ≤ (I 3905) by omega) (show (I 3905) ≤ v296 by omega) (m_cl_ST (show m_ST lo I A lo (w_up I 2774 ((I 2774) + 1)) A from m_ST_refl) hTR (show 0 ≤ (I 3905) by omega)) (t_N_mk20 t_up_same (show 0 ≤ (I 3905) by omega) (show (I 3905) ≤ v296 by omega) (show 0 ≤ (8 * (24 - (I 2775)) + (0)) by omega) (fun q q1 q2 => by omega))
            have s318 : m_ST lo I A (t_up lo v296 (I 3905) (8 * (24 - (I 2775)) + (0))) I295a A295a := m_ST_nd (l := (I 3905)) (show m_ST lo I A lo (w_up I 2774 ((I 2774) + 1)) A from m_ST_refl) f301 (show (I 3905) ≤ (I 3905) by omega) (show (I 3905) ≤ (I 3905) by omega)
            have rk319 : m_RK (t_up lo v296 (I 3905) (8 * (24 - (I 2775)) + (0))) (I 3905) (I295a 3905) (8 * (24 - (I 2775)) + (0)) := fun q q1 q2 => by rw [show q = v296 by omega, t_up_same]; exact Int.le_refl _
            have k320 : m_kd (t_up lo v296 (I 3905) (8 * (24 - (I 2775)) + (0))) I295a A295a (I 3905) (8 * (24 - (I 2775)) + (0)) v296 (fun k => k = 20) := m_kd_new f301 (show 0 ≤ (I 3905) by omega) (show (I 3905) ≤ v296 by omega) rfl
            have rt321 : m_rt (t_up lo v296 (I 3905) (8 * (24 - (I 2775)) + (0))) (I295a 3905) v296 := m_rt_new f301
            show w_W _ _ _ (85, [(0, .ref 43)], [.int (Int32.ofInt (v296))], M294) _
            refine w_fin (r := .inl (some (v296))) (M' := M294) rfl ?_
            exact Or.inl ⟨v296, (t_up lo v296 (I 3905) (8 * (24 - (I 2775)) + (0))), I295a, A295a, B295a, C295a, rfl, ⟨by omega, by omega⟩, hR295a, (show m_fx I A I295a A295a by exact f300), (show ((0 ≤ (I295a 2774) ∧ (I295a 2774) < (I295a 2754) ∧ (I295a 2754) ≤ 1501 ∧ 0 ≤ (I295a 2775) ∧ (I295a 2775) ≤ 24) ∧ ((I295a 3393) = (I295a 3905) ∧ (I295a 3521) = (I295a 3905) ∧ (I295a 3649) = (I295a 3905) ∧ (I295a 3777) = (I295a 3905) ∧ 0 ≤ (I295a 3905) ∧ (I295a 3905) ≤ 3 * (I295a 2774)) ∧ ((I295a 4161) = (I295a 4033) ∧ 7 ≤ (I295a 4289) ∧ (I295a 4289) ≤ (I295a 4033) ∧ (I295a 4033) ≤ 7 + (I295a 2774)) ∧ 0 ≤ (I295a 5889) ∧ (I295a 5889) ≤ (I295a 2774)) ∧ ((I295a 2754) = (I 2754) ∧ (I 2774) + 1 ≤ (I295a 2774) ∧ (I295a 2775) = (I 2775) ∧ (I295a 4289) = (I 4289) + 0 ∧ (I295a 5889) = (I 5889)) ∧ ((I295a 3905) + 2 ≤ (I 3905) + 3 * ((I295a 2774) - (I 2774)) ∧ (I 3905) ≤ v296 ∧ v296 + 1 = (I295a 3905) ∧ (I 4033) ≤ (I295a 4033) ∧ (I295a 4033) ≤ (I 4033) + ((I295a 2774) - (I 2774))) by (repeat' apply And.intro) <;> first | assumption | omega), (show m_SC I295a A295a by exact sc316), (show m_TR (t_up lo v296 (I 3905) (8 * (24 - (I 2775)) + (0))) I295a A295a by exact tr317), (show m_ST lo I A (t_up lo v296 (I 3905) (8 * (24 - (I 2775)) + (0))) I295a A295a by exact s318), (show t_I ((A295a 53) (v296)) by exact ((m_kd_K k320 (fun k h => by have h : k = 20 := h; unfold t_I; omega))).2), (show m_rt (t_up lo v296 (I 3905) (8 * (24 - (I 2775)) + (0))) (I295a 3905) v296 by exact rt321), (show m_RK (t_up lo v296 (I 3905) (8 * (24 - (I 2775)) + (0))) (I 3905) (I295a 3905) (8 * (24 - (I 2775)) + 6) by exact m_RK_le (show m_RK (t_up lo v296 (I 3905) (8 * (24 - (I 2775)) + (0))) (I 3905) (I295a 3905) (8 * (24 - (I 2775)) + (0)) from rk319) (show (8 * (24 - (I 2775)) + (0)) ≤ 8 * (24 - (I 2775)) + 6 by omega))⟩
          · rw [e283, e284]
            replace f285 : ¬ ((A 45) ((I 2774)) = 5 ∧ (A 46) ((I 2774)) = 0) := f285
            show w_W _ _ _ (63, [(0, .ref 43)], [.int (Int32.ofInt (0))], M) _
            refine w_adv (n := 3) (F' := (89, [(0, .ref 43)], [.int (Int32.ofInt (13)), .ref 43], M)) rfl ?_
            refine w_call (cm := 231) (as := [(0, .ref 43), (1, .int (Int32.ofInt (13)))]) (rest := []) (o := some (9, 43)) rfl (w_fitR hR rfl) (m_isWord (13) hR ⟨by omega, by omega⟩ (show 0 ≤ (I 2774) ∧ (I 2774) < 1501 by omega)) (fun r322 M323 q324 => ?_)
            rcases q324 with ⟨e325, e326, f327⟩ | ⟨e328, e329, f330⟩
            · rw [e325, e326]
              replace f327 : (A 45) ((I 2774)) = 5 ∧ (A 46) ((I 2774)) = 13 := f327
              obtain ⟨n331, n332⟩ := id f327
              clear f327
              have w333 : (I 2774) + 1 < (I 2754) := m_TK_lt hTK (by omega) (by omega) (by omega)
              show w_W _ _ _ (92, [(0, .ref 43)], [.int (Int32.ofInt (1))], M) _
              refine w_adv (n := 2) (F' := (96, [(0, .ref 43)], [.ref 43], M)) rfl ?_
              refine w_call (cm := 275) (as := [(0, .ref 43)]) (rest := []) (o := some (9, 43)) rfl (w_fitR hR rfl) (m_attempt hA (lo) hR (show 20 * (24 - (I 2775)) + 11 ≤ (d : Int) by omega) (show m_TK I A by exact hTK) (show (0 ≤ (I 2774) ∧ (I 2774) < (I 2754) ∧ (I 2754) ≤ 1501 ∧ 0 ≤ (I 2775) ∧ (I 2775) ≤ 24) ∧ ((I 3393) = (I 3905) ∧ (I 3521) = (I 3905) ∧ (I 3649) = (I 3905) ∧ (I 3777) = (I 3905) ∧ 0 ≤ (I 3905) ∧ (I 3905) ≤ 3 * (I 2774)) ∧ ((I 4161) = (I 4033) ∧ 7 ≤ (I 4289) ∧ (I 4289) ≤ (I 4033) ∧ (I 4033) ≤ 7 + (I 2774)) ∧ 0 ≤ (I 5889) ∧ (I 5889) ≤ (I 2774) by (repeat' apply And.intro) <;> first | assumption | omega) (show m_SC I A by exact hSC) (show m_TR lo I A by exact hTR) (show 1 ≤ (A 45) ((I 2774)) ∧ (A 45) ((I 2774)) ≤ 6 by first | assumption | omega) (show (I 2754) - (I 2774) ≤ N by first | assumption | omega)) (fun r334 M335 q336 => ?_)
              rcases q336 with ⟨v337, lo338, I336a, A336a, B336a, C336a, e339, ⟨r340, r341⟩, hR336a, f342, f343, f344, f345, f346, f347, f348, f349⟩ | ⟨I336b, A336b, B336b, C336b, e350, hR336b, f351⟩
              · rw [e339]
                replace hR336a : w_Rep w_TM fr X u l I336a A336a B336a C336a M335 := hR336a
                replace f342 : m_fx I A I336a A336a := f342
                replace f343 : ((0 ≤ (I336a 2774) ∧ (I336a 2774) < (I336a 2754) ∧ (I336a 2754) ≤ 1501 ∧ 0 ≤ (I336a 2775) ∧ (I336a 2775) ≤ 24) ∧ ((I336a 3393) = (I336a 3905) ∧ (I336a 3521) = (I336a 3905) ∧ (I336a 3649) = (I336a 3905) ∧ (I336a 3777) = (I336a 3905) ∧ 0 ≤ (I336a 3905) ∧ (I336a 3905) ≤ 3 * (I336a 2774)) ∧ ((I336a 4161) = (I336a 4033) ∧ 7 ≤ (I336a 4289) ∧ (I336a 4289) ≤ (I336a 4033) ∧ (I336a 4033) ≤ 7 + (I336a 2774)) ∧ 0 ≤ (I336a 5889) ∧ (I336a 5889) ≤ (I336a 2774)) ∧ ((I336a 2754) = (I 2754) ∧ (I 2774) + 1 ≤ (I336a 2774) ∧ (I336a 2775) = (I 2775) ∧ (I336a 4289) = (I 4289) + 0 ∧ (I336a 5889) = (I 5889)) ∧ ((I336a 3905) + 2 ≤ (I 3905) + 3 * ((I336a 2774) - (I 2774)) ∧ (I 3905) ≤ v337 ∧ v337 + 1 = (I336a 3905) ∧ (I 4033) ≤ (I336a 4033) ∧ (I336a 4033) ≤ (I 4033) + ((I336a 2774) - (I 2774))) := f343
                obtain ⟨⟨⟨n352, n353, n354, n355, n356⟩, ⟨n357, n358, n359, n360, n361, n362⟩, ⟨n363, n364, n365, n366⟩, n367, n368⟩, ⟨n369, n370, n371, n372, n373⟩, ⟨n374, n375, n376, n377, n378⟩⟩ := id f343
                clear f343
                replace f344 : m_SC I336a A336a := f344
                replace f345 : m_TR lo338 I336a A336a := f345
                replace f346 : m_ST lo I A lo338 I336a A336a := f346
                replace f347 : (fun k => k = 21) ((A336a 53) (v337)) := f347
                replace f348 : m_rt lo338 (I336a 3905) v337 := f348
                replace f349 : m_RK lo338 (I 3905) (I336a 3905) (8 * (24 - (I 2775)) + 0) := f349
                have tk379 : m_TK I336a A336a := m_TK_fx f342 hTK
                have nn380 : (I 3905) ≤ (I336a 3905) := by omega
                have nz381 : 0 ≤ (I 3905) := by first | assumption | omega
                have ho382 : (I 2775) = (I 2775) + (0) := by omega
                have rk384 : m_RK lo338 (I 3905) (I336a 3905) (8 * (24 - (I 2775)) + (0)) := m_RK_app (I := I) (I' := I336a) (R := (8 * (24 - (I 2775)) + (0))) (show m_RK lo (I 3905) (I 3905) (8 * (24 - (I 2775)) + (0)) from fun q q1 q2 => by omega) f346 f349 (show 0 ≤ (I 3905) by first | assumption | omega) (m_r8 (by decide)) (m_r8o (k := 0) ho382 (by decide))
                have s383 : m_ST lo I A lo338 I336a A336a := f346
                have k385 : m_kd lo338 I336a A336a (I 3905) (8 * (24 - (I 2775)) + 0) v337 (fun k => k = 21) := m_kd_of f346 f345 nz381 (show (I 3905) ≤ v337 by first | assumption | omega) (show v337 < (I336a 3905) by omega) f347 f349
                obtain ⟨j386, j387, j388, j389, j390⟩ := k385.1
                show w_W _ _ _ (99, [(0, .ref 43)], [.int (Int32.ofInt (v337))], M335) _
                refine w_fin (r := .inl (some (v337))) (M' := M335) rfl ?_
                exact Or.inl ⟨v337, lo338, I336a, A336a, B336a, C336a, rfl, ⟨by omega, by omega⟩, hR336a, (show m_fx I A I336a A336a by exact f342), (show ((0 ≤ (I336a 2774) ∧ (I336a 2774) < (I336a 2754) ∧ (I336a 2754) ≤ 1501 ∧ 0 ≤ (I336a 2775) ∧ (I336a 2775) ≤ 24) ∧ ((I336a 3393) = (I336a 3905) ∧ (I336a 3521) = (I336a 3905) ∧ (I336a 3649) = (I336a 3905) ∧ (I336a 3777) = (I336a 3905) ∧ 0 ≤ (I336a 3905) ∧ (I336a 3905) ≤ 3 * (I336a 2774)) ∧ ((I336a 4161) = (I336a 4033) ∧ 7 ≤ (I336a 4289) ∧ (I336a 4289) ≤ (I336a 4033) ∧ (I336a 4033) ≤ 7 + (I336a 2774)) ∧ 0 ≤ (I336a 5889) ∧ (I336a 5889) ≤ (I336a 2774)) ∧ ((I336a 2754) = (I 2754) ∧ (I 2774) + 1 ≤ (I336a 2774) ∧ (I336a 2775) = (I 2775) ∧ (I336a 4289) = (I 4289) + 0 ∧ (I336a 5889) = (I 5889)) ∧ ((I336a 3905) + 2 ≤ (I 3905) + 3 * ((I336a 2774) - (I 2774)) ∧ (I 3905) ≤ v337 ∧ v337 + 1 = (I336a 3905) ∧ (I 4033) ≤ (I336a 4033) ∧ (I336a 4033) ≤ (I 4033) + ((I336a 2774) - (I 2774))) by (repeat' apply And.intro) <;> first | assumption | omega), (show m_SC I336a A336a by exact f344), (show m_TR lo338 I336a A336a by exact f345), (show m_ST lo I A lo338 I336a A336a by exact s383), (show t_I ((A336a 53) (v337)) by exact ((m_kd_K k385 (fun k h => by have h : k = 21 := h; unfold t_I; omega))).2), (show m_rt lo338 (I336a 3905) v337 by exact f348), (show m_RK lo338 (I 3905) (I336a 3905) (8 * (24 - (I 2775)) + 6) by exact m_RK_le (show m_RK lo338 (I 3905) (I336a 3905) (8 * (24 - (I 2775)) + (0)) from rk384) (show (8 * (24 - (I 2775)) + (0)) ≤ 8 * (24 - (I 2775)) + 6 by omega))⟩
              · rw [e350]
                replace hR336b : w_Rep w_TM fr X u l I336b A336b B336b C336b M335 := hR336b
                replace f351 : m_fx I A I336b A336b := f351
                exact Or.inr (⟨I336b, A336b, B336b, C336b, rfl, hR336b, (show m_fx I A I336b A336b by exact f351)⟩)
            · rw [e328, e329]
              replace f330 : ¬ ((A 45) ((I 2774)) = 5 ∧ (A 46) ((I 2774)) = 13) := f330
              show w_W _ _ _ (92, [(0, .ref 43)], [.int (Int32.ofInt (0))], M) _
              refine w_adv (n := 3) (F' := (103, [(0, .ref 43)], [.int (Int32.ofInt (15)), .ref 43], M)) rfl ?_
              refine w_call (cm := 231) (as := [(0, .ref 43), (1, .int (Int32.ofInt (15)))]) (rest := []) (o := some (9, 43)) rfl (w_fitR hR rfl) (m_isWord (15) hR ⟨by omega, by omega⟩ (show 0 ≤ (I 2774) ∧ (I 2774) < 1501 by omega)) (fun r391 M392 q393 => ?_)
              rcases q393 with ⟨e394, e395, f396⟩ | ⟨e397, e398, f399⟩
              · rw [e394, e395]
                replace f396 : (A 45) ((I 2774)) = 5 ∧ (A 46) ((I 2774)) = 15 := f396
                obtain ⟨n400, n401⟩ := id f396
                clear f396
                have w402 : (I 2774) + 1 < (I 2754) := m_TK_lt hTK (by omega) (by omega) (by omega)
                show w_W _ _ _ (106, [(0, .ref 43)], [.int (Int32.ofInt (1))], M) _
                refine w_adv (n := 3) (F' := (121, [(0, .ref 43)], [.int (Int32.ofInt (15)), .ref 43], M)) rfl ?_
                refine w_call (cm := 231) (as := [(0, .ref 43), (1, .int (Int32.ofInt (15)))]) (rest := []) (o := some (9, 43)) rfl (w_fitR hR rfl) (m_isWord (15) hR ⟨by omega, by omega⟩ (show 0 ≤ (I 2774) ∧ (I 2774) < 1501 by omega)) (fun r403 M404 q405 => ?_)
                rcases q405 with ⟨e406, e407, f408⟩ | ⟨e409, e410, f411⟩
                · rw [e406, e407]
                  replace f408 : (A 45) ((I 2774)) = 5 ∧ (A 46) ((I 2774)) = 15 := f408
                  obtain ⟨n412, n413⟩ := id f408
                  clear f408
                  have w414 : (I 2774) + 1 < (I 2754) := m_TK_lt hTK (by omega) (by omega) (by omega)
                  show w_W _ _ _ (124, [(0, .ref 43)], [.int (Int32.ofInt (1))], M) _
                  refine w_adv (n := 3) (F' := (127, [(1, .int (Int32.ofInt (1))), (0, .ref 43)], [.ref 43, .ref 43], M)) rfl ?_
                  refine w_gf (v := .int (Int32.ofInt ((I 2774)))) hR rfl rfl rfl rfl ?_
                  obtain ⟨r415, r416⟩ : -2147483648 ≤ (I 2774) ∧ (I 2774) ≤ 2147483647 := hR.ri 2774
                  refine w_adv (n := 1) (F' := (131, [(1, .int (Int32.ofInt (1))), (0, .ref 43)], [.int (Int32.ofInt (1)), .int (Int32.ofInt ((I 2774))), .ref 43], M)) rfl ?_
                  refine w_add rfl ?_
                  refine w_pf hR rfl rfl rfl rfl (show w_in ((I 2774) + 1) from ⟨by omega, by omega⟩) (fun h => absurd h (by decide)) (fun M417 hR418 => ?_)
                  replace hR418 : w_Rep w_TM fr X u l (w_up I 2774 ((I 2774) + 1)) A B C M417 := hR418
                  refine w_adv (n := 6) (F' := (148, [(1, .int (Int32.ofInt (1))), (0, .ref 43)], [.ref 43, .int (Int32.ofInt (22)), .ref 43], M417)) rfl ?_
                  refine w_call (cm := 245) (as := [(0, .ref 43)]) (rest := [.int (Int32.ofInt (22)), .ref 43]) (o := some (9, 43)) rfl (w_fitR hR418 rfl) (m_exp hA (lo) hR418 (show 20 * (24 - (I 2775)) + 17 ≤ (d : Int) by omega) (show m_TK (w_up I 2774 ((I 2774) + 1)) A by exact hTK) (show (0 ≤ (I 2774) + 1 ∧ (I 2774) + 1 < (I 2754) ∧ (I 2754) ≤ 1501 ∧ 0 ≤ (I 2775) ∧ (I 2775) ≤ 24) ∧ ((I 3393) = (I 3905) ∧ (I 3521) = (I 3905) ∧ (I 3649) = (I 3905) ∧ (I 3777) = (I 3905) ∧ 0 ≤ (I 3905) ∧ (I 3905) ≤ 3 * ((I 2774) + 1)) ∧ ((I 4161) = (I 4033) ∧ 7 ≤ (I 4289) ∧ (I 4289) ≤ (I 4033) ∧ (I 4033) ≤ 7 + ((I 2774) + 1)) ∧ 0 ≤ (I 5889) ∧ (I 5889) ≤ (I 2774) + 1 by (repeat' apply And.intro) <;> first | assumption | omega) (show m_SC (w_up I 2774 ((I 2774) + 1)) A by exact hSC) (show m_TR lo (w_up I 2774 ((I 2774) + 1)) A by exact hTR) (show (I 2754) - ((I 2774) + 1) ≤ N by first | assumption | omega)) (fun r419 M420 q421 => ?_)
                  rcases q421 with ⟨v422, lo423, I421a, A421a, B421a, C421a, e424, ⟨r425, r426⟩, hR421a, f427, f428, f429, f430, f431, f432, f433, f434⟩ | ⟨I421b, A421b, B421b, C421b, e435, hR421b, f436⟩
                  · rw [e424]
                    replace hR421a : w_Rep w_TM fr X u l I421a A421a B421a C421a M420 := hR421a
                    replace f427 : m_fx (w_up I 2774 ((I 2774) + 1)) A I421a A421a := f427
                    replace f428 : ((0 ≤ (I421a 2774) ∧ (I421a 2774) < (I421a 2754) ∧ (I421a 2754) ≤ 1501 ∧ 0 ≤ (I421a 2775) ∧ (I421a 2775) ≤ 24) ∧ ((I421a 3393) = (I421a 3905) ∧ (I421a 3521) = (I421a 3905) ∧ (I421a 3649) = (I421a 3905) ∧ (I421a 3777) = (I421a 3905) ∧ 0 ≤ (I421a 3905) ∧ (I421a 3905) ≤ 3 * (I421a 2774)) ∧ ((I421a 4161) = (I421a 4033) ∧ 7 ≤ (I421a 4289) ∧ (I421a 4289) ≤ (I421a 4033) ∧ (I421a 4033) ≤ 7 + (I421a 2774)) ∧ 0 ≤ (I421a 5889) ∧ (I421a 5889) ≤ (I421a 2774)) ∧ ((I421a 2754) = (I 2754) ∧ ((I 2774) + 1) + 1 ≤ (I421a 2774) ∧ (I421a 2775) = (I 2775) ∧ (I421a 4289) = (I 4289) + 0 ∧ (I421a 5889) = (I 5889)) ∧ ((I421a 3905) + 2 ≤ (I 3905) + 3 * ((I421a 2774) - ((I 2774) + 1)) ∧ (I 3905) ≤ v422 ∧ v422 + 1 = (I421a 3905) ∧ (I 4033) ≤ (I421a 4033) ∧ (I421a 4033) ≤ (I 4033) + ((I421a 2774) - ((I 2774) + 1))) := f428
                    obtain ⟨⟨⟨n437, n438, n439, n440, n441⟩, ⟨n442, n443, n444, n445, n446, n447⟩, ⟨n448, n449, n450, n451⟩, n452, n453⟩, ⟨n454, n455, n456, n457, n458⟩, ⟨n459, n460, n461, n462, n463⟩⟩ := id f428
                    clear f428
                    replace f429 : m_SC I421a A421a := f429
                    replace f430 : m_TR lo423 I421a A421a := f430
                    replace f431 : m_ST lo (w_up I 2774 ((I 2774) + 1)) A lo423 I421a A421a := f431
                    replace f432 : t_E ((A421a 53) (v422)) := f432
                    replace f433 : m_rt lo423 (I421a 3905) v422 := f433
                    replace f434 : m_RK lo423 (I 3905) (I421a 3905) (8 * (24 - (I 2775)) + 5) := f434
                    have tk464 : m_TK I421a A421a := m_TK_fx f427 hTK
                    have nn465 : (I 3905) ≤ (I421a 3905) := by omega
                    have nz466 : 0 ≤ (I 3905) := by first | assumption | omega
                    have ho467 : (I 2775) = (I 2775) + (0) := by omega
                    have rk469 : m_RK lo423 (I 3905) (I421a 3905) (8 * (24 - (I 2775)) + (5)) := m_RK_app (I := (w_up I 2774 ((I 2774) + 1))) (I' := I421a) (R := (8 * (24 - (I 2775)) + (5))) (show m_RK lo (I 3905) (I 3905) (8 * (24 - (I 2775)) + (5)) from fun q q1 q2 => by omega) f431 f434 (show 0 ≤ (I 3905) by first | assumption | omega) (m_r8 (by decide)) (m_r8o (k := 0) ho467 (by decide))
                    have s468 : m_ST lo I A lo423 I421a A421a := f431
                    have k470 : m_kd lo423 I421a A421a (I 3905) (8 * (24 - (I 2775)) + 5) v422 t_E := m_kd_of f431 f430 nz466 (show (I 3905) ≤ v422 by first | assumption | omega) (show v422 < (I421a 3905) by omega) f432 f434
                    obtain ⟨j471, j472, j473, j474, j475⟩ := k470.1
                    show w_W _ _ _ (151, [(1, .int (Int32.ofInt (1))), (0, .ref 43)], [.int (Int32.ofInt (v422)), .int (Int32.ofInt (22)), .ref 43], M420) _
                    refine w_adv (n := 2) (F' := (153, [(1, .int (Int32.ofInt (1))), (0, .ref 43)], [.int (Int32.ofInt (0)), .int (Int32.ofInt (0)), .int (Int32.ofInt (v422)), .int (Int32.ofInt (22)), .ref 43], M420)) rfl ?_
                    refine w_call (cm := 239) (as := [(0, .ref 43), (1, .int (Int32.ofInt (22))), (2, .int (Int32.ofInt (v422))), (3, .int (Int32.ofInt (0))), (4, .int (Int32.ofInt (0)))]) (rest := []) (o := some (9, 43)) rfl (w_fitR hR421a rfl) (m_node (22) (v422) (0) (0) hR421a (show 2 ≤ d by omega) ⟨by omega, by omega⟩ ⟨by omega, by omega⟩ ⟨by omega, by omega⟩ ⟨by omega, by omega⟩ (show (I421a 3393) = (I421a 3905) by first | assumption | omega) (show (I421a 3521) = (I421a 3905) by first | assumption | omega) (show (I421a 3649) = (I421a 3905) by first | assumption | omega) (show (I421a 3777) = (I421a 3905) by first | assumption | omega) (show (I421a 3905) < 65536 by first | assumption | omega)) (fun r476 M477 q478 => ?_)
                    rcases q478 with ⟨v479, I478a, A478a, B478a, C478a, e480, ⟨r481, r482⟩, hR478a, f483, f484⟩
                    rw [e480]
                    replace hR478a : w_Rep w_TM fr X u l I478a A478a B478a C478a M477 := hR478a
                    replace f483 : m_fx I421a A421a I478a A478a := f483
                    replace f484 : m_nd I421a A421a I478a A478a v479 22 v422 0 0 := f484
                    obtain ⟨⟨n485, n486, n487, n488, n489, n490⟩, ⟨n491, n492, n493, n494, n495, n496, n497⟩⟩ : (v479 = (I421a 3905) ∧ (I478a 3905) = (I421a 3905) + 1 ∧ (I478a 3393) = (I421a 3393) + 1 ∧ (I478a 3521) = (I421a 3521) + 1 ∧ (I478a 3649) = (I421a 3649) + 1 ∧ (I478a 3777) = (I421a 3777) + 1) ∧ ((I478a 2774) = (I421a 2774) ∧ (I478a 2754) = (I421a 2754) ∧ (I478a 2775) = (I421a 2775) ∧ (I478a 4289) = (I421a 4289) ∧ (I478a 4033) = (I421a 4033) ∧ (I478a 4161) = (I421a 4161) ∧ (I478a 5889) = (I421a 5889)) := m_nd_num f484
                    have tk498 : m_TK I478a A478a := m_TK_fx f483 tk464
                    have sc499 : m_SC I478a A478a := m_SC_nd f484 f429
                    have tr500 : m_TR (t_up lo423 v479 (I 3905) (8 * (24 - (I 2775)) + (6))) I478a A478a := m_TR_nd (show m_TR lo423 I421a A421a from f430) f484 (show 0 ≤ (I 3905) by omega) (show (I 3905) ≤ v479 by omega) (m_cl_ST (show m_ST lo I A lo423 I421a A421a from s468) hTR (show 0 ≤ (I 3905) by omega)) (t_N_mk22 t_up_same (show 0 ≤ (I 3905) by omega) (show (I 3905) ≤ v479 by omega) (show 0 ≤ (8 * (24 - (I 2775)) + (6)) by omega) (m_hw (show m_RK lo423 (I 3905) v479 (8 * (24 - (I 2775)) + (5)) from fun q q1 q2 => (show m_RK lo423 (I 3905) (I421a 3905) (8 * (24 - (I 2775)) + (5)) from rk469) q (show (I 3905) ≤ q by omega) (show q < (I421a 3905) by omega)) (m_r8l (by decide))) (m_ch f484 (show (I 3905) ≤ (I 3905) by omega) (show m_kd lo423 I421a A421a (I 3905) (8 * (24 - (I 2775)) + 5) v422 t_E from k470)))
                    have s501 : m_ST lo I A (t_up lo423 v479 (I 3905) (8 * (24 - (I 2775)) + (6))) I478a A478a := m_ST_nd (l := (I 3905)) (show m_ST lo I A lo423 I421a A421a from s468) f484 (show (I 3905) ≤ (I 3905) by omega) (show (I 3905) ≤ (I421a 3905) by omega)
                    have rk502 : m_RK (t_up lo423 v479 (I 3905) (8 * (24 - (I 2775)) + (6))) (I 3905) (I478a 3905) (8 * (24 - (I 2775)) + (6)) := fun q q1 q2 => m_RK_nd (show m_RK lo423 (I 3905) v479 (8 * (24 - (I 2775)) + (5)) from fun q q1 q2 => (show m_RK lo423 (I 3905) (I421a 3905) (8 * (24 - (I 2775)) + (5)) from rk469) q q1 (show q < (I421a 3905) by omega)) (m_r8 (by decide)) (m_r8 (by decide)) q q1 (show q < v479 + 1 by omega)
                    have k503 : m_kd (t_up lo423 v479 (I 3905) (8 * (24 - (I 2775)) + (6))) I478a A478a (I 3905) (8 * (24 - (I 2775)) + (6)) v479 (fun k => k = 22) := m_kd_new f484 (show 0 ≤ (I 3905) by omega) (show (I 3905) ≤ v479 by omega) rfl
                    have rt504 : m_rt (t_up lo423 v479 (I 3905) (8 * (24 - (I 2775)) + (6))) (I478a 3905) v479 := m_rt_new f484
                    show w_W _ _ _ (156, [(1, .int (Int32.ofInt (1))), (0, .ref 43)], [.int (Int32.ofInt (v479))], M477) _
                    refine w_fin (r := .inl (some (v479))) (M' := M477) rfl ?_
                    exact Or.inl ⟨v479, (t_up lo423 v479 (I 3905) (8 * (24 - (I 2775)) + (6))), I478a, A478a, B478a, C478a, rfl, ⟨by omega, by omega⟩, hR478a, (show m_fx I A I478a A478a by exact (m_fx_trans f427 f483)), (show ((0 ≤ (I478a 2774) ∧ (I478a 2774) < (I478a 2754) ∧ (I478a 2754) ≤ 1501 ∧ 0 ≤ (I478a 2775) ∧ (I478a 2775) ≤ 24) ∧ ((I478a 3393) = (I478a 3905) ∧ (I478a 3521) = (I478a 3905) ∧ (I478a 3649) = (I478a 3905) ∧ (I478a 3777) = (I478a 3905) ∧ 0 ≤ (I478a 3905) ∧ (I478a 3905) ≤ 3 * (I478a 2774)) ∧ ((I478a 4161) = (I478a 4033) ∧ 7 ≤ (I478a 4289) ∧ (I478a 4289) ≤ (I478a 4033) ∧ (I478a 4033) ≤ 7 + (I478a 2774)) ∧ 0 ≤ (I478a 5889) ∧ (I478a 5889) ≤ (I478a 2774)) ∧ ((I478a 2754) = (I 2754) ∧ (I 2774) + 1 ≤ (I478a 2774) ∧ (I478a 2775) = (I 2775) ∧ (I478a 4289) = (I 4289) + 0 ∧ (I478a 5889) = (I 5889)) ∧ ((I478a 3905) + 2 ≤ (I 3905) + 3 * ((I478a 2774) - (I 2774)) ∧ (I 3905) ≤ v479 ∧ v479 + 1 = (I478a 3905) ∧ (I 4033) ≤ (I478a 4033) ∧ (I478a 4033) ≤ (I 4033) + ((I478a 2774) - (I 2774))) by (repeat' apply And.intro) <;> first | assumption | omega), (show m_SC I478a A478a by exact sc499), (show m_TR (t_up lo423 v479 (I 3905) (8 * (24 - (I 2775)) + (6))) I478a A478a by exact tr500), (show m_ST lo I A (t_up lo423 v479 (I 3905) (8 * (24 - (I 2775)) + (6))) I478a A478a by exact s501), (show t_I ((A478a 53) (v479)) by exact ((m_kd_K k503 (fun k h => by have h : k = 22 := h; unfold t_I; omega))).2), (show m_rt (t_up lo423 v479 (I 3905) (8 * (24 - (I 2775)) + (6))) (I478a 3905) v479 by exact rt504), (show m_RK (t_up lo423 v479 (I 3905) (8 * (24 - (I 2775)) + (6))) (I 3905) (I478a 3905) (8 * (24 - (I 2775)) + 6) by exact m_RK_le (show m_RK (t_up lo423 v479 (I 3905) (8 * (24 - (I 2775)) + (6))) (I 3905) (I478a 3905) (8 * (24 - (I 2775)) + (6)) from rk502) (show (8 * (24 - (I 2775)) + (6)) ≤ 8 * (24 - (I 2775)) + 6 by omega))⟩
                  · rw [e435]
                    replace hR421b : w_Rep w_TM fr X u l I421b A421b B421b C421b M420 := hR421b
                    replace f436 : m_fx (w_up I 2774 ((I 2774) + 1)) A I421b A421b := f436
                    exact Or.inr (⟨I421b, A421b, B421b, C421b, rfl, hR421b, (show m_fx I A I421b A421b by exact f436)⟩)
                · rw [e409, e410]
                  replace f411 : ¬ ((A 45) ((I 2774)) = 5 ∧ (A 46) ((I 2774)) = 15) := f411
                  exfalso; omega
              · rw [e397, e398]
                replace f399 : ¬ ((A 45) ((I 2774)) = 5 ∧ (A 46) ((I 2774)) = 15) := f399
                show w_W _ _ _ (106, [(0, .ref 43)], [.int (Int32.ofInt (0))], M) _
                refine w_adv (n := 3) (F' := (112, [(0, .ref 43)], [.int (Int32.ofInt (16)), .ref 43], M)) rfl ?_
                refine w_call (cm := 231) (as := [(0, .ref 43), (1, .int (Int32.ofInt (16)))]) (rest := []) (o := some (9, 43)) rfl (w_fitR hR rfl) (m_isWord (16) hR ⟨by omega, by omega⟩ (show 0 ≤ (I 2774) ∧ (I 2774) < 1501 by omega)) (fun r505 M506 q507 => ?_)
                rcases q507 with ⟨e508, e509, f510⟩ | ⟨e511, e512, f513⟩
                · rw [e508, e509]
                  replace f510 : (A 45) ((I 2774)) = 5 ∧ (A 46) ((I 2774)) = 16 := f510
                  obtain ⟨n514, n515⟩ := id f510
                  clear f510
                  have w516 : (I 2774) + 1 < (I 2754) := m_TK_lt hTK (by omega) (by omega) (by omega)
                  show w_W _ _ _ (115, [(0, .ref 43)], [.int (Int32.ofInt (1))], M) _
                  refine w_adv (n := 3) (F' := (121, [(0, .ref 43)], [.int (Int32.ofInt (15)), .ref 43], M)) rfl ?_
                  refine w_call (cm := 231) (as := [(0, .ref 43), (1, .int (Int32.ofInt (15)))]) (rest := []) (o := some (9, 43)) rfl (w_fitR hR rfl) (m_isWord (15) hR ⟨by omega, by omega⟩ (show 0 ≤ (I 2774) ∧ (I 2774) < 1501 by omega)) (fun r517 M518 q519 => ?_)
                  rcases q519 with ⟨e520, e521, f522⟩ | ⟨e523, e524, f525⟩
                  · rw [e520, e521]
                    replace f522 : (A 45) ((I 2774)) = 5 ∧ (A 46) ((I 2774)) = 15 := f522
                    obtain ⟨n526, n527⟩ := id f522
                    clear f522
                    exfalso; omega
                  · rw [e523, e524]
                    replace f525 : ¬ ((A 45) ((I 2774)) = 5 ∧ (A 46) ((I 2774)) = 15) := f525
                    show w_W _ _ _ (124, [(0, .ref 43)], [.int (Int32.ofInt (0))], M) _
                    refine w_adv (n := 3) (F' := (127, [(1, .int (Int32.ofInt (0))), (0, .ref 43)], [.ref 43, .ref 43], M)) rfl ?_
                    refine w_gf (v := .int (Int32.ofInt ((I 2774)))) hR rfl rfl rfl rfl ?_
                    obtain ⟨r528, r529⟩ : -2147483648 ≤ (I 2774) ∧ (I 2774) ≤ 2147483647 := hR.ri 2774
                    refine w_adv (n := 1) (F' := (131, [(1, .int (Int32.ofInt (0))), (0, .ref 43)], [.int (Int32.ofInt (1)), .int (Int32.ofInt ((I 2774))), .ref 43], M)) rfl ?_
                    refine w_add rfl ?_
                    refine w_pf hR rfl rfl rfl rfl (show w_in ((I 2774) + 1) from ⟨by omega, by omega⟩) (fun h => absurd h (by decide)) (fun M530 hR531 => ?_)
                    replace hR531 : w_Rep w_TM fr X u l (w_up I 2774 ((I 2774) + 1)) A B C M530 := hR531
                    refine w_adv (n := 5) (F' := (148, [(1, .int (Int32.ofInt (0))), (0, .ref 43)], [.ref 43, .int (Int32.ofInt (23)), .ref 43], M530)) rfl ?_
                    refine w_call (cm := 245) (as := [(0, .ref 43)]) (rest := [.int (Int32.ofInt (23)), .ref 43]) (o := some (9, 43)) rfl (w_fitR hR531 rfl) (m_exp hA (lo) hR531 (show 20 * (24 - (I 2775)) + 17 ≤ (d : Int) by omega) (show m_TK (w_up I 2774 ((I 2774) + 1)) A by exact hTK) (show (0 ≤ (I 2774) + 1 ∧ (I 2774) + 1 < (I 2754) ∧ (I 2754) ≤ 1501 ∧ 0 ≤ (I 2775) ∧ (I 2775) ≤ 24) ∧ ((I 3393) = (I 3905) ∧ (I 3521) = (I 3905) ∧ (I 3649) = (I 3905) ∧ (I 3777) = (I 3905) ∧ 0 ≤ (I 3905) ∧ (I 3905) ≤ 3 * ((I 2774) + 1)) ∧ ((I 4161) = (I 4033) ∧ 7 ≤ (I 4289) ∧ (I 4289) ≤ (I 4033) ∧ (I 4033) ≤ 7 + ((I 2774) + 1)) ∧ 0 ≤ (I 5889) ∧ (I 5889) ≤ (I 2774) + 1 by (repeat' apply And.intro) <;> first | assumption | omega) (show m_SC (w_up I 2774 ((I 2774) + 1)) A by exact hSC) (show m_TR lo (w_up I 2774 ((I 2774) + 1)) A by exact hTR) (show (I 2754) - ((I 2774) + 1) ≤ N by first | assumption | omega)) (fun r532 M533 q534 => ?_)
                    rcases q534 with ⟨v535, lo536, I534a, A534a, B534a, C534a, e537, ⟨r538, r539⟩, hR534a, f540, f541, f542, f543, f544, f545, f546, f547⟩ | ⟨I534b, A534b, B534b, C534b, e548, hR534b, f549⟩
                    · rw [e537]
                      replace hR534a : w_Rep w_TM fr X u l I534a A534a B534a C534a M533 := hR534a
                      replace f540 : m_fx (w_up I 2774 ((I 2774) + 1)) A I534a A534a := f540
                      replace f541 : ((0 ≤ (I534a 2774) ∧ (I534a 2774) < (I534a 2754) ∧ (I534a 2754) ≤ 1501 ∧ 0 ≤ (I534a 2775) ∧ (I534a 2775) ≤ 24) ∧ ((I534a 3393) = (I534a 3905) ∧ (I534a 3521) = (I534a 3905) ∧ (I534a 3649) = (I534a 3905) ∧ (I534a 3777) = (I534a 3905) ∧ 0 ≤ (I534a 3905) ∧ (I534a 3905) ≤ 3 * (I534a 2774)) ∧ ((I534a 4161) = (I534a 4033) ∧ 7 ≤ (I534a 4289) ∧ (I534a 4289) ≤ (I534a 4033) ∧ (I534a 4033) ≤ 7 + (I534a 2774)) ∧ 0 ≤ (I534a 5889) ∧ (I534a 5889) ≤ (I534a 2774)) ∧ ((I534a 2754) = (I 2754) ∧ ((I 2774) + 1) + 1 ≤ (I534a 2774) ∧ (I534a 2775) = (I 2775) ∧ (I534a 4289) = (I 4289) + 0 ∧ (I534a 5889) = (I 5889)) ∧ ((I534a 3905) + 2 ≤ (I 3905) + 3 * ((I534a 2774) - ((I 2774) + 1)) ∧ (I 3905) ≤ v535 ∧ v535 + 1 = (I534a 3905) ∧ (I 4033) ≤ (I534a 4033) ∧ (I534a 4033) ≤ (I 4033) + ((I534a 2774) - ((I 2774) + 1))) := f541
                      obtain ⟨⟨⟨n550, n551, n552, n553, n554⟩, ⟨n555, n556, n557, n558, n559, n560⟩, ⟨n561, n562, n563, n564⟩, n565, n566⟩, ⟨n567, n568, n569, n570, n571⟩, ⟨n572, n573, n574, n575, n576⟩⟩ := id f541
                      clear f541
                      replace f542 : m_SC I534a A534a := f542
                      replace f543 : m_TR lo536 I534a A534a := f543
                      replace f544 : m_ST lo (w_up I 2774 ((I 2774) + 1)) A lo536 I534a A534a := f544
                      replace f545 : t_E ((A534a 53) (v535)) := f545
                      replace f546 : m_rt lo536 (I534a 3905) v535 := f546
                      replace f547 : m_RK lo536 (I 3905) (I534a 3905) (8 * (24 - (I 2775)) + 5) := f547
                      have tk577 : m_TK I534a A534a := m_TK_fx f540 hTK
                      have nn578 : (I 3905) ≤ (I534a 3905) := by omega
                      have nz579 : 0 ≤ (I 3905) := by first | assumption | omega
                      have ho580 : (I 2775) = (I 2775) + (0) := by omega
                      have rk582 : m_RK lo536 (I 3905) (I534a 3905) (8 * (24 - (I 2775)) + (5)) := m_RK_app (I := (w_up I 2774 ((I 2774) + 1))) (I' := I534a) (R := (8 * (24 - (I 2775)) + (5))) (show m_RK lo (I 3905) (I 3905) (8 * (24 - (I 2775)) + (5)) from fun q q1 q2 => by omega) f544 f547 (show 0 ≤ (I 3905) by first | assumption | omega) (m_r8 (by decide)) (m_r8o (k := 0) ho580 (by decide))
                      have s581 : m_ST lo I A lo536 I534a A534a := f544
                      have k583 : m_kd lo536 I534a A534a (I 3905) (8 * (24 - (I 2775)) + 5) v535 t_E := m_kd_of f544 f543 nz579 (show (I 3905) ≤ v535 by first | assumption | omega) (show v535 < (I534a 3905) by omega) f545 f547
                      obtain ⟨j584, j585, j586, j587, j588⟩ := k583.1
                      show w_W _ _ _ (151, [(1, .int (Int32.ofInt (0))), (0, .ref 43)], [.int (Int32.ofInt (v535)), .int (Int32.ofInt (23)), .ref 43], M533) _
                      refine w_adv (n := 2) (F' := (153, [(1, .int (Int32.ofInt (0))), (0, .ref 43)], [.int (Int32.ofInt (0)), .int (Int32.ofInt (0)), .int (Int32.ofInt (v535)), .int (Int32.ofInt (23)), .ref 43], M533)) rfl ?_
                      refine w_call (cm := 239) (as := [(0, .ref 43), (1, .int (Int32.ofInt (23))), (2, .int (Int32.ofInt (v535))), (3, .int (Int32.ofInt (0))), (4, .int (Int32.ofInt (0)))]) (rest := []) (o := some (9, 43)) rfl (w_fitR hR534a rfl) (m_node (23) (v535) (0) (0) hR534a (show 2 ≤ d by omega) ⟨by omega, by omega⟩ ⟨by omega, by omega⟩ ⟨by omega, by omega⟩ ⟨by omega, by omega⟩ (show (I534a 3393) = (I534a 3905) by first | assumption | omega) (show (I534a 3521) = (I534a 3905) by first | assumption | omega) (show (I534a 3649) = (I534a 3905) by first | assumption | omega) (show (I534a 3777) = (I534a 3905) by first | assumption | omega) (show (I534a 3905) < 65536 by first | assumption | omega)) (fun r589 M590 q591 => ?_)
                      rcases q591 with ⟨v592, I591a, A591a, B591a, C591a, e593, ⟨r594, r595⟩, hR591a, f596, f597⟩
                      rw [e593]
                      replace hR591a : w_Rep w_TM fr X u l I591a A591a B591a C591a M590 := hR591a
                      replace f596 : m_fx I534a A534a I591a A591a := f596
                      replace f597 : m_nd I534a A534a I591a A591a v592 23 v535 0 0 := f597
                      obtain ⟨⟨n598, n599, n600, n601, n602, n603⟩, ⟨n604, n605, n606, n607, n608, n609, n610⟩⟩ : (v592 = (I534a 3905) ∧ (I591a 3905) = (I534a 3905) + 1 ∧ (I591a 3393) = (I534a 3393) + 1 ∧ (I591a 3521) = (I534a 3521) + 1 ∧ (I591a 3649) = (I534a 3649) + 1 ∧ (I591a 3777) = (I534a 3777) + 1) ∧ ((I591a 2774) = (I534a 2774) ∧ (I591a 2754) = (I534a 2754) ∧ (I591a 2775) = (I534a 2775) ∧ (I591a 4289) = (I534a 4289) ∧ (I591a 4033) = (I534a 4033) ∧ (I591a 4161) = (I534a 4161) ∧ (I591a 5889) = (I534a 5889)) := m_nd_num f597
                      have tk611 : m_TK I591a A591a := m_TK_fx f596 tk577
                      have sc612 : m_SC I591a A591a := m_SC_nd f597 f542
                      have tr613 : m_TR (t_up lo536 v592 (I 3905) (8 * (24 - (I 2775)) + (6))) I591a A591a := m_TR_nd (show m_TR lo536 I534a A534a from f543) f597 (show 0 ≤ (I 3905) by omega) (show (I 3905) ≤ v592 by omega) (m_cl_ST (show m_ST lo I A lo536 I534a A534a from s581) hTR (show 0 ≤ (I 3905) by omega)) (t_N_mk23 t_up_same (show 0 ≤ (I 3905) by omega) (show (I 3905) ≤ v592 by omega) (show 0 ≤ (8 * (24 - (I 2775)) + (6)) by omega) (m_hw (show m_RK lo536 (I 3905) v592 (8 * (24 - (I 2775)) + (5)) from fun q q1 q2 => (show m_RK lo536 (I 3905) (I534a 3905) (8 * (24 - (I 2775)) + (5)) from rk582) q (show (I 3905) ≤ q by omega) (show q < (I534a 3905) by omega)) (m_r8l (by decide))) (m_ch f597 (show (I 3905) ≤ (I 3905) by omega) (show m_kd lo536 I534a A534a (I 3905) (8 * (24 - (I 2775)) + 5) v535 t_E from k583)))
                      have s614 : m_ST lo I A (t_up lo536 v592 (I 3905) (8 * (24 - (I 2775)) + (6))) I591a A591a := m_ST_nd (l := (I 3905)) (show m_ST lo I A lo536 I534a A534a from s581) f597 (show (I 3905) ≤ (I 3905) by omega) (show (I 3905) ≤ (I534a 3905) by omega)
                      have rk615 : m_RK (t_up lo536 v592 (I 3905) (8 * (24 - (I 2775)) + (6))) (I 3905) (I591a 3905) (8 * (24 - (I 2775)) + (6)) := fun q q1 q2 => m_RK_nd (show m_RK lo536 (I 3905) v592 (8 * (24 - (I 2775)) + (5)) from fun q q1 q2 => (show m_RK lo536 (I 3905) (I534a 3905) (8 * (24 - (I 2775)) + (5)) from rk582) q q1 (show q < (I534a 3905) by omega)) (m_r8 (by decide)) (m_r8 (by decide)) q q1 (show q < v592 + 1 by omega)
                      have k616 : m_kd (t_up lo536 v592 (I 3905) (8 * (24 - (I 2775)) + (6))) I591a A591a (I 3905) (8 * (24 - (I 2775)) + (6)) v592 (fun k => k = 23) := m_kd_new f597 (show 0 ≤ (I 3905) by omega) (show (I 3905) ≤ v592 by omega) rfl
                      have rt617 : m_rt (t_up lo536 v592 (I 3905) (8 * (24 - (I 2775)) + (6))) (I591a 3905) v592 := m_rt_new f597
                      show w_W _ _ _ (156, [(1, .int (Int32.ofInt (0))), (0, .ref 43)], [.int (Int32.ofInt (v592))], M590) _
                      refine w_fin (r := .inl (some (v592))) (M' := M590) rfl ?_
                      exact Or.inl ⟨v592, (t_up lo536 v592 (I 3905) (8 * (24 - (I 2775)) + (6))), I591a, A591a, B591a, C591a, rfl, ⟨by omega, by omega⟩, hR591a, (show m_fx I A I591a A591a by exact (m_fx_trans f540 f596)), (show ((0 ≤ (I591a 2774) ∧ (I591a 2774) < (I591a 2754) ∧ (I591a 2754) ≤ 1501 ∧ 0 ≤ (I591a 2775) ∧ (I591a 2775) ≤ 24) ∧ ((I591a 3393) = (I591a 3905) ∧ (I591a 3521) = (I591a 3905) ∧ (I591a 3649) = (I591a 3905) ∧ (I591a 3777) = (I591a 3905) ∧ 0 ≤ (I591a 3905) ∧ (I591a 3905) ≤ 3 * (I591a 2774)) ∧ ((I591a 4161) = (I591a 4033) ∧ 7 ≤ (I591a 4289) ∧ (I591a 4289) ≤ (I591a 4033) ∧ (I591a 4033) ≤ 7 + (I591a 2774)) ∧ 0 ≤ (I591a 5889) ∧ (I591a 5889) ≤ (I591a 2774)) ∧ ((I591a 2754) = (I 2754) ∧ (I 2774) + 1 ≤ (I591a 2774) ∧ (I591a 2775) = (I 2775) ∧ (I591a 4289) = (I 4289) + 0 ∧ (I591a 5889) = (I 5889)) ∧ ((I591a 3905) + 2 ≤ (I 3905) + 3 * ((I591a 2774) - (I 2774)) ∧ (I 3905) ≤ v592 ∧ v592 + 1 = (I591a 3905) ∧ (I 4033) ≤ (I591a 4033) ∧ (I591a 4033) ≤ (I 4033) + ((I591a 2774) - (I 2774))) by (repeat' apply And.intro) <;> first | assumption | omega), (show m_SC I591a A591a by exact sc612), (show m_TR (t_up lo536 v592 (I 3905) (8 * (24 - (I 2775)) + (6))) I591a A591a by exact tr613), (show m_ST lo I A (t_up lo536 v592 (I 3905) (8 * (24 - (I 2775)) + (6))) I591a A591a by exact s614), (show t_I ((A591a 53) (v592)) by exact ((m_kd_K k616 (fun k h => by have h : k = 23 := h; unfold t_I; omega))).2), (show m_rt (t_up lo536 v592 (I 3905) (8 * (24 - (I 2775)) + (6))) (I591a 3905) v592 by exact rt617), (show m_RK (t_up lo536 v592 (I 3905) (8 * (24 - (I 2775)) + (6))) (I 3905) (I591a 3905) (8 * (24 - (I 2775)) + 6) by exact m_RK_le (show m_RK (t_up lo536 v592 (I 3905) (8 * (24 - (I 2775)) + (6))) (I 3905) (I591a 3905) (8 * (24 - (I 2775)) + (6)) from rk615) (show (8 * (24 - (I 2775)) + (6)) ≤ 8 * (24 - (I 2775)) + 6 by omega))⟩
                    · rw [e548]
                      replace hR534b : w_Rep w_TM fr X u l I534b A534b B534b C534b M533 := hR534b
                      replace f549 : m_fx (w_up I 2774 ((I 2774) + 1)) A I534b A534b := f549
                      exact Or.inr (⟨I534b, A534b, B534b, C534b, rfl, hR534b, (show m_fx I A I534b A534b by exact f549)⟩)
                · rw [e511, e512]
                  replace f513 : ¬ ((A 45) ((I 2774)) = 5 ∧ (A 46) ((I 2774)) = 16) := f513
                  show w_W _ _ _ (115, [(0, .ref 43)], [.int (Int32.ofInt (0))], M) _
                  refine w_adv (n := 3) (F' := (160, [(0, .ref 43)], [.int (Int32.ofInt (123)), .ref 43], M)) rfl ?_
                  refine w_call (cm := 230) (as := [(0, .ref 43), (1, .int (Int32.ofInt (123)))]) (rest := []) (o := some (9, 43)) rfl (w_fitR hR rfl) (m_isSign (123) hR ⟨by omega, by omega⟩ (show 0 ≤ (I 2774) ∧ (I 2774) < 1501 by omega)) (fun r618 M619 q620 => ?_)
                  rcases q620 with ⟨e621, e622, f623⟩ | ⟨e624, e625, f626⟩
                  · rw [e621, e622]
                    replace f623 : (A 45) ((I 2774)) = 6 ∧ (A 46) ((I 2774)) = 123 := f623
                    obtain ⟨n627, n628⟩ := id f623
                    clear f623
                    have w629 : (I 2774) + 1 < (I 2754) := m_TK_lt hTK (by omega) (by omega) (by omega)
                    show w_W _ _ _ (163, [(0, .ref 43)], [.int (Int32.ofInt (1))], M) _
                    refine w_adv (n := 2) (F' := (165, [(1, .int (Int32.ofInt (1))), (0, .ref 43)], [.ref 43], M)) rfl ?_
                    refine w_call (cm := 245) (as := [(0, .ref 43)]) (rest := []) (o := some (9, 43)) rfl (w_fitR hR rfl) (m_exp hA (lo) hR (show 20 * (24 - (I 2775)) + 17 ≤ (d : Int) by omega) (show m_TK I A by exact hTK) (show (0 ≤ (I 2774) ∧ (I 2774) < (I 2754) ∧ (I 2754) ≤ 1501 ∧ 0 ≤ (I 2775) ∧ (I 2775) ≤ 24) ∧ ((I 3393) = (I 3905) ∧ (I 3521) = (I 3905) ∧ (I 3649) = (I 3905) ∧ (I 3777) = (I 3905) ∧ 0 ≤ (I 3905) ∧ (I 3905) ≤ 3 * (I 2774)) ∧ ((I 4161) = (I 4033) ∧ 7 ≤ (I 4289) ∧ (I 4289) ≤ (I 4033) ∧ (I 4033) ≤ 7 + (I 2774)) ∧ 0 ≤ (I 5889) ∧ (I 5889) ≤ (I 2774) by (repeat' apply And.intro) <;> first | assumption | omega) (show m_SC I A by exact hSC) (show m_TR lo I A by exact hTR) (show (I 2754) - (I 2774) ≤ N by first | assumption | omega)) (fun r630 M631 q632 => ?_)
                    rcases q632 with ⟨v633, lo634, I632a, A632a, B632a, C632a, e635, ⟨r636, r637⟩, hR632a, f638, f639, f640, f641, f642, f643, f644, f645⟩ | ⟨I632b, A632b, B632b, C632b, e646, hR632b, f647⟩
                    · rw [e635]
                      replace hR632a : w_Rep w_TM fr X u l I632a A632a B632a C632a M631 := hR632a
                      replace f638 : m_fx I A I632a A632a := f638
                      replace f639 : ((0 ≤ (I632a 2774) ∧ (I632a 2774) < (I632a 2754) ∧ (I632a 2754) ≤ 1501 ∧ 0 ≤ (I632a 2775) ∧ (I632a 2775) ≤ 24) ∧ ((I632a 3393) = (I632a 3905) ∧ (I632a 3521) = (I632a 3905) ∧ (I632a 3649) = (I632a 3905) ∧ (I632a 3777) = (I632a 3905) ∧ 0 ≤ (I632a 3905) ∧ (I632a 3905) ≤ 3 * (I632a 2774)) ∧ ((I632a 4161) = (I632a 4033) ∧ 7 ≤ (I632a 4289) ∧ (I632a 4289) ≤ (I632a 4033) ∧ (I632a 4033) ≤ 7 + (I632a 2774)) ∧ 0 ≤ (I632a 5889) ∧ (I632a 5889) ≤ (I632a 2774)) ∧ ((I632a 2754) = (I 2754) ∧ (I 2774) + 1 ≤ (I632a 2774) ∧ (I632a 2775) = (I 2775) ∧ (I632a 4289) = (I 4289) + 0 ∧ (I632a 5889) = (I 5889)) ∧ ((I632a 3905) + 2 ≤ (I 3905) + 3 * ((I632a 2774) - (I 2774)) ∧ (I 3905) ≤ v633 ∧ v633 + 1 = (I632a 3905) ∧ (I 4033) ≤ (I632a 4033) ∧ (I632a 4033) ≤ (I 4033) + ((I632a 2774) - (I 2774))) := f639
                      obtain ⟨⟨⟨n648, n649, n650, n651, n652⟩, ⟨n653, n654, n655, n656, n657, n658⟩, ⟨n659, n660, n661, n662⟩, n663, n664⟩, ⟨n665, n666, n667, n668, n669⟩, ⟨n670, n671, n672, n673, n674⟩⟩ := id f639
                      clear f639
                      replace f640 : m_SC I632a A632a := f640
                      replace f641 : m_TR lo634 I632a A632a := f641
                      replace f642 : m_ST lo I A lo634 I632a A632a := f642
                      replace f643 : t_E ((A632a 53) (v633)) := f643
                      replace f644 : m_rt lo634 (I632a 3905) v633 := f644
                      replace f645 : m_RK lo634 (I 3905) (I632a 3905) (8 * (24 - (I 2775)) + 5) := f645
                      have tk675 : m_TK I632a A632a := m_TK_fx f638 hTK
                      have nn676 : (I 3905) ≤ (I632a 3905) := by omega
                      have nz677 : 0 ≤ (I 3905) := by first | assumption | omega
                      have ho678 : (I 2775) = (I 2775) + (0) := by omega
                      have rk680 : m_RK lo634 (I 3905) (I632a 3905) (8 * (24 - (I 2775)) + (5)) := m_RK_app (I := I) (I' := I632a) (R := (8 * (24 - (I 2775)) + (5))) (show m_RK lo (I 3905) (I 3905) (8 * (24 - (I 2775)) + (5)) from fun q q1 q2 => by omega) f642 f645 (show 0 ≤ (I 3905) by first | assumption | omega) (m_r8 (by decide)) (m_r8o (k := 0) ho678 (by decide))
                      have s679 : m_ST lo I A lo634 I632a A632a := f642
                      have k681 : m_kd lo634 I632a A632a (I 3905) (8 * (24 - (I 2775)) + 5) v633 t_E := m_kd_of f642 f641 nz677 (show (I 3905) ≤ v633 by first | assumption | omega) (show v633 < (I632a 3905) by omega) f643 f645
                      obtain ⟨j682, j683, j684, j685, j686⟩ := k681.1
                      show w_W _ _ _ (168, [(1, .int (Int32.ofInt (1))), (0, .ref 43)], [.int (Int32.ofInt (v633))], M631) _
                      refine w_adv (n := 3) (F' := (172, [(2, .int (Int32.ofInt (v633))), (1, .int (Int32.ofInt (1))), (0, .ref 43)], [.int (Int32.ofInt (61)), .ref 43], M631)) rfl ?_
                      refine w_call (cm := 230) (as := [(0, .ref 43), (1, .int (Int32.ofInt (61)))]) (rest := []) (o := some (9, 43)) rfl (w_fitR hR632a rfl) (m_isSign (61) hR632a ⟨by omega, by omega⟩ (show 0 ≤ (I632a 2774) ∧ (I632a 2774) < 1501 by omega)) (fun r687 M688 q689 => ?_)
                      rcases q689 with ⟨e690, e691, f692⟩ | ⟨e693, e694, f695⟩
                      · rw [e690, e691]
                        replace f692 : (A632a 45) ((I632a 2774)) = 6 ∧ (A632a 46) ((I632a 2774)) = 61 := f692
                        obtain ⟨n696, n697⟩ := id f692
                        clear f692
                        have w698 : (I632a 2774) + 1 < (I632a 2754) := m_TK_lt tk675 (by omega) (by omega) (by omega)
                        show w_W _ _ _ (175, [(2, .int (Int32.ofInt (v633))), (1, .int (Int32.ofInt (1))), (0, .ref 43)], [.int (Int32.ofInt (1))], M631) _
                        refine w_adv (n := 3) (F' := (180, [(2, .int (Int32.ofInt (v633))), (1, .int (Int32.ofInt (1))), (0, .ref 43)], [.ref 43, .ref 43], M631)) rfl ?_
                        refine w_gf (v := .int (Int32.ofInt ((I632a 2774)))) hR632a rfl rfl rfl rfl ?_
                        obtain ⟨r699, r700⟩ : -2147483648 ≤ (I632a 2774) ∧ (I632a 2774) ≤ 2147483647 := hR632a.ri 2774
                        refine w_adv (n := 1) (F' := (184, [(2, .int (Int32.ofInt (v633))), (1, .int (Int32.ofInt (1))), (0, .ref 43)], [.int (Int32.ofInt (1)), .int (Int32.ofInt ((I632a 2774))), .ref 43], M631)) rfl ?_
                        refine w_add rfl ?_
                        refine w_pf hR632a rfl rfl rfl rfl (show w_in ((I632a 2774) + 1) from ⟨by omega, by omega⟩) (fun h => absurd h (by decide)) (fun M701 hR702 => ?_)
                        replace hR702 : w_Rep w_TM fr X u l (w_up I632a 2774 ((I632a 2774) + 1)) A632a B632a C632a M701 := hR702
                        refine w_adv (n := 4) (F' := (193, [(2, .int (Int32.ofInt (v633))), (1, .int (Int32.ofInt (1))), (0, .ref 43)], [.ref 43, .int (Int32.ofInt (v633)), .int (Int32.ofInt (24)), .ref 43], M701)) rfl ?_
                        refine w_call (cm := 245) (as := [(0, .ref 43)]) (rest := [.int (Int32.ofInt (v633)), .int (Int32.ofInt (24)), .ref 43]) (o := some (9, 43)) rfl (w_fitR hR702 rfl) (m_exp hA (lo634) hR702 (show 20 * (24 - (I632a 2775)) + 17 ≤ (d : Int) by omega) (show m_TK (w_up I632a 2774 ((I632a 2774) + 1)) A632a by exact tk675) (show (0 ≤ (I632a 2774) + 1 ∧ (I632a 2774) + 1 < (I632a 2754) ∧ (I632a 2754) ≤ 1501 ∧ 0 ≤ (I632a 2775) ∧ (I632a 2775) ≤ 24) ∧ ((I632a 3393) = (I632a 3905) ∧ (I632a 3521) = (I632a 3905) ∧ (I632a 3649) = (I632a 3905) ∧ (I632a 3777) = (I632a 3905) ∧ 0 ≤ (I632a 3905) ∧ (I632a 3905) ≤ 3 * ((I632a 2774) + 1)) ∧ ((I632a 4161) = (I632a 4033) ∧ 7 ≤ (I632a 4289) ∧ (I632a 4289) ≤ (I632a 4033) ∧ (I632a 4033) ≤ 7 + ((I632a 2774) + 1)) ∧ 0 ≤ (I632a 5889) ∧ (I632a 5889) ≤ (I632a 2774) + 1 by (repeat' apply And.intro) <;> first | assumption | omega) (show m_SC (w_up I632a 2774 ((I632a 2774) + 1)) A632a by exact f640) (show m_TR lo634 (w_up I632a 2774 ((I632a 2774) + 1)) A632a by exact f641) (show (I632a 2754) - ((I632a 2774) + 1) ≤ N by first | assumption | omega)) (fun r703 M704 q705 => ?_)
                        rcases q705 with ⟨v706, lo707, I705a, A705a, B705a, C705a, e708, ⟨r709, r710⟩, hR705a, f711, f712, f713, f714, f715, f716, f717, f718⟩ | ⟨I705b, A705b, B705b, C705b, e719, hR705b, f720⟩
                        · rw [e708]
                          replace hR705a : w_Rep w_TM fr X u l I705a A705a B705a C705a M704 := hR705a
                          replace f711 : m_fx (w_up I632a 2774 ((I632a 2774) + 1)) A632a I705a A705a := f711
                          replace f712 : ((0 ≤ (I705a 2774) ∧ (I705a 2774) < (I705a 2754) ∧ (I705a 2754) ≤ 1501 ∧ 0 ≤ (I705a 2775) ∧ (I705a 2775) ≤ 24) ∧ ((I705a 3393) = (I705a 3905) ∧ (I705a 3521) = (I705a 3905) ∧ (I705a 3649) = (I705a 3905) ∧ (I705a 3777) = (I705a 3905) ∧ 0 ≤ (I705a 3905) ∧ (I705a 3905) ≤ 3 * (I705a 2774)) ∧ ((I705a 4161) = (I705a 4033) ∧ 7 ≤ (I705a 4289) ∧ (I705a 4289) ≤ (I705a 4033) ∧ (I705a 4033) ≤ 7 + (I705a 2774)) ∧ 0 ≤ (I705a 5889) ∧ (I705a 5889) ≤ (I705a 2774)) ∧ ((I705a 2754) = (I632a 2754) ∧ ((I632a 2774) + 1) + 1 ≤ (I705a 2774) ∧ (I705a 2775) = (I632a 2775) ∧ (I705a 4289) = (I632a 4289) + 0 ∧ (I705a 5889) = (I632a 5889)) ∧ ((I705a 3905) + 2 ≤ (I632a 3905) + 3 * ((I705a 2774) - ((I632a 2774) + 1)) ∧ (I632a 3905) ≤ v706 ∧ v706 + 1 = (I705a 3905) ∧ (I632a 4033) ≤ (I705a 4033) ∧ (I705a 4033) ≤ (I632a 4033) + ((I705a 2774) - ((I632a 2774) + 1))) := f712
                          obtain ⟨⟨⟨n721, n722, n723, n724, n725⟩, ⟨n726, n727, n728, n729, n730, n731⟩, ⟨n732, n733, n734, n735⟩, n736, n737⟩, ⟨n738, n739, n740, n741, n742⟩, ⟨n743, n744, n745, n746, n747⟩⟩ := id f712
                          clear f712
                          replace f713 : m_SC I705a A705a := f713
                          replace f714 : m_TR lo707 I705a A705a := f714
                          replace f715 : m_ST lo634 (w_up I632a 2774 ((I632a 2774) + 1)) A632a lo707 I705a A705a := f715
                          replace f716 : t_E ((A705a 53) (v706)) := f716
                          replace f717 : m_rt lo707 (I705a 3905) v706 := f717
                          replace f718 : m_RK lo707 (I632a 3905) (I705a 3905) (8 * (24 - (I632a 2775)) + 5) := f718
                          have tk748 : m_TK I705a A705a := m_TK_fx f711 tk675
                          have nn749 : (I632a 3905) ≤ (I705a 3905) := by omega
                          have nz750 : 0 ≤ (I632a 3905) := by first | assumption | omega
                          have ho751 : (I632a 2775) = (I 2775) + (0) := by omega
                          have rk753 : m_RK lo707 (I 3905) (I705a 3905) (8 * (24 - (I 2775)) + (5)) := m_RK_app (I := (w_up I632a 2774 ((I632a 2774) + 1))) (I' := I705a) (R := (8 * (24 - (I 2775)) + (5))) (show m_RK lo634 (I 3905) (I632a 3905) (8 * (24 - (I 2775)) + (5)) from rk680) f715 f718 (show 0 ≤ (I 3905) by first | assumption | omega) (m_r8 (by decide)) (m_r8o (k := 0) ho751 (by decide))
                          have s752 : m_ST lo I A lo707 I705a A705a := m_ST_trans (show m_ST lo I A lo634 (w_up I632a 2774 ((I632a 2774) + 1)) A632a from s679) f715 (show 0 ≤ (I 3905) by first | assumption | omega) (show (I 3905) ≤ (I632a 3905) by first | assumption | omega) (show (I 4289) ≤ (I632a 4289) by first | assumption | omega) (show (I 5889) ≤ (I632a 5889) by first | assumption | omega)
                          have k754 : m_kd lo707 I705a A705a (I 3905) (8 * (24 - (I 2775)) + 5) v633 t_E := m_kd_ST f715 nn749 k681
                          have rt755 := m_rt_ST f715 (show 0 ≤ v633 by omega) (show v633 < (I632a 3905) by omega) f644
                          have k756 : m_kd lo707 I705a A705a (I632a 3905) (8 * (24 - (I632a 2775)) + 5) v706 t_E := m_kd_of f715 f714 nz750 (show (I632a 3905) ≤ v706 by first | assumption | omega) (show v706 < (I705a 3905) by omega) f716 f718
                          obtain ⟨j757, j758, j759, j760, j761⟩ := k756.1
                          show w_W _ _ _ (196, [(2, .int (Int32.ofInt (v633))), (1, .int (Int32.ofInt (1))), (0, .ref 43)], [.int (Int32.ofInt (v706)), .int (Int32.ofInt (v633)), .int (Int32.ofInt (24)), .ref 43], M704) _
                          refine w_adv (n := 1) (F' := (197, [(2, .int (Int32.ofInt (v633))), (1, .int (Int32.ofInt (1))), (0, .ref 43)], [.int (Int32.ofInt (0)), .int (Int32.ofInt (v706)), .int (Int32.ofInt (v633)), .int (Int32.ofInt (24)), .ref 43], M704)) rfl ?_
                          refine w_call (cm := 239) (as := [(0, .ref 43), (1, .int (Int32.ofInt (24))), (2, .int (Int32.ofInt (v633))), (3, .int (Int32.ofInt (v706))), (4, .int (Int32.ofInt (0)))]) (rest := []) (o := some (9, 43)) rfl (w_fitR hR705a rfl) (m_node (24) (v633) (v706) (0) hR705a (show 2 ≤ d by omega) ⟨by omega, by omega⟩ ⟨by omega, by omega⟩ ⟨by omega, by omega⟩ ⟨by omega, by omega⟩ (show (I705a 3393) = (I705a 3905) by first | assumption | omega) (show (I705a 3521) = (I705a 3905) by first | assumption | omega) (show (I705a 3649) = (I705a 3905) by first | assumption | omega) (show (I705a 3777) = (I705a 3905) by first | assumption | omega) (show (I705a 3905) < 65536 by first | assumption | omega)) (fun r762 M763 q764 => ?_)
                          rcases q764 with ⟨v765, I764a, A764a, B764a, C764a, e766, ⟨r767, r768⟩, hR764a, f769, f770⟩
                          rw [e766]
                          replace hR764a : w_Rep w_TM fr X u l I764a A764a B764a C764a M763 := hR764a
                          replace f769 : m_fx I705a A705a I764a A764a := f769
                          replace f770 : m_nd I705a A705a I764a A764a v765 24 v633 v706 0 := f770
                          obtain ⟨⟨n771, n772, n773, n774, n775, n776⟩, ⟨n777, n778, n779, n780, n781, n782, n783⟩⟩ : (v765 = (I705a 3905) ∧ (I764a 3905) = (I705a 3905) + 1 ∧ (I764a 3393) = (I705a 3393) + 1 ∧ (I764a 3521) = (I705a 3521) + 1 ∧ (I764a 3649) = (I705a 3649) + 1 ∧ (I764a 3777) = (I705a 3777) + 1) ∧ ((I764a 2774) = (I705a 2774) ∧ (I764a 2754) = (I705a 2754) ∧ (I764a 2775) = (I705a 2775) ∧ (I764a 4289) = (I705a 4289) ∧ (I764a 4033) = (I705a 4033) ∧ (I764a 4161) = (I705a 4161) ∧ (I764a 5889) = (I705a 5889)) := m_nd_num f770
                          have tk784 : m_TK I764a A764a := m_TK_fx f769 tk748
                          have sc785 : m_SC I764a A764a := m_SC_nd f770 f713
                          have tr786 : m_TR (t_up lo707 v765 (I 3905) (8 * (24 - (I 2775)) + (6))) I764a A764a := m_TR_nd (show m_TR lo707 I705a A705a from f714) f770 (show 0 ≤ (I 3905) by omega) (show (I 3905) ≤ v765 by omega) (m_cl_ST (show m_ST lo I A lo707 I705a A705a from s752) hTR (show 0 ≤ (I 3905) by omega)) (t_N_mk24 t_up_same (show 0 ≤ (I 3905) by omega) (show (I 3905) ≤ v765 by omega) (show 0 ≤ (8 * (24 - (I 2775)) + (6)) by omega) (m_hw (show m_RK lo707 (I 3905) v765 (8 * (24 - (I 2775)) + (5)) from fun q q1 q2 => (show m_RK lo707 (I 3905) (I705a 3905) (8 * (24 - (I 2775)) + (5)) from rk753) q (show (I 3905) ≤ q by omega) (show q < (I705a 3905) by omega)) (m_r8l (by decide))) ⟨m_ch f770 (show (I 3905) ≤ (I 3905) by omega) (show m_kd lo707 I705a A705a (I 3905) (8 * (24 - (I 2775)) + 5) v633 t_E from k754), m_ch f770 (show (I 3905) ≤ (I632a 3905) by omega) (show m_kd lo707 I705a A705a (I632a 3905) (8 * (24 - (I632a 2775)) + 5) v706 t_E from k756), m_od f770 (show m_kd lo707 I705a A705a (I632a 3905) (8 * (24 - (I632a 2775)) + 5) v706 t_E from k756) (show v633 < (I632a 3905) by omega)⟩)
                          have s787 : m_ST lo I A (t_up lo707 v765 (I 3905) (8 * (24 - (I 2775)) + (6))) I764a A764a := m_ST_nd (l := (I 3905)) (show m_ST lo I A lo707 I705a A705a from s752) f770 (show (I 3905) ≤ (I 3905) by omega) (show (I 3905) ≤ (I705a 3905) by omega)
                          have rk788 : m_RK (t_up lo707 v765 (I 3905) (8 * (24 - (I 2775)) + (6))) (I 3905) (I764a 3905) (8 * (24 - (I 2775)) + (6)) := fun q q1 q2 => m_RK_nd (show m_RK lo707 (I 3905) v765 (8 * (24 - (I 2775)) + (5)) from fun q q1 q2 => (show m_RK lo707 (I 3905) (I705a 3905) (8 * (24 - (I 2775)) + (5)) from rk753) q q1 (show q < (I705a 3905) by omega)) (m_r8 (by decide)) (m_r8 (by decide)) q q1 (show q < v765 + 1 by omega)
                          have k789 : m_kd (t_up lo707 v765 (I 3905) (8 * (24 - (I 2775)) + (6))) I764a A764a (I 3905) (8 * (24 - (I 2775)) + (6)) v765 (fun k => k = 24) := m_kd_new f770 (show 0 ≤ (I 3905) by omega) (show (I 3905) ≤ v765 by omega) rfl
                          have rt790 : m_rt (t_up lo707 v765 (I 3905) (8 * (24 - (I 2775)) + (6))) (I764a 3905) v765 := m_rt_new f770
                          show w_W _ _ _ (200, [(2, .int (Int32.ofInt (v633))), (1, .int (Int32.ofInt (1))), (0, .ref 43)], [.int (Int32.ofInt (v765))], M763) _
                          refine w_fin (r := .inl (some (v765))) (M' := M763) rfl ?_
                          exact Or.inl ⟨v765, (t_up lo707 v765 (I 3905) (8 * (24 - (I 2775)) + (6))), I764a, A764a, B764a, C764a, rfl, ⟨by omega, by omega⟩, hR764a, (show m_fx I A I764a A764a by exact (m_fx_trans (m_fx_trans f638 f711) f769)), (show ((0 ≤ (I764a 2774) ∧ (I764a 2774) < (I764a 2754) ∧ (I764a 2754) ≤ 1501 ∧ 0 ≤ (I764a 2775) ∧ (I764a 2775) ≤ 24) ∧ ((I764a 3393) = (I764a 3905) ∧ (I764a 3521) = (I764a 3905) ∧ (I764a 3649) = (I764a 3905) ∧ (I764a 3777) = (I764a 3905) ∧ 0 ≤ (I764a 3905) ∧ (I764a 3905) ≤ 3 * (I764a 2774)) ∧ ((I764a 4161) = (I764a 4033) ∧ 7 ≤ (I764a 4289) ∧ (I764a 4289) ≤ (I764a 4033) ∧ (I764a 4033) ≤ 7 + (I764a 2774)) ∧ 0 ≤ (I764a 5889) ∧ (I764a 5889) ≤ (I764a 2774)) ∧ ((I764a 2754) = (I 2754) ∧ (I 2774) + 1 ≤ (I764a 2774) ∧ (I764a 2775) = (I 2775) ∧ (I764a 4289) = (I 4289) + 0 ∧ (I764a 5889) = (I 5889)) ∧ ((I764a 3905) + 2 ≤ (I 3905) + 3 * ((I764a 2774) - (I 2774)) ∧ (I 3905) ≤ v765 ∧ v765 + 1 = (I764a 3905) ∧ (I 4033) ≤ (I764a 4033) ∧ (I764a 4033) ≤ (I 4033) + ((I764a 2774) - (I 2774))) by (repeat' apply And.intro) <;> first | assumption | omega), (show m_SC I764a A764a by exact sc785), (show m_TR (t_up lo707 v765 (I 3905) (8 * (24 - (I 2775)) + (6))) I764a A764a by exact tr786), (show m_ST lo I A (t_up lo707 v765 (I 3905) (8 * (24 - (I 2775)) + (6))) I764a A764a by exact s787), (show t_I ((A764a 53) (v765)) by exact ((m_kd_K k789 (fun k h => by have h : k = 24 := h; unfold t_I; omega))).2), (show m_rt (t_up lo707 v765 (I 3905) (8 * (24 - (I 2775)) + (6))) (I764a 3905) v765 by exact rt790), (show m_RK (t_up lo707 v765 (I 3905) (8 * (24 - (I 2775)) + (6))) (I 3905) (I764a 3905) (8 * (24 - (I 2775)) + 6) by exact m_RK_le (show m_RK (t_up lo707 v765 (I 3905) (8 * (24 - (I 2775)) + (6))) (I 3905) (I764a 3905) (8 * (24 - (I 2775)) + (6)) from rk788) (show (8 * (24 - (I 2775)) + (6)) ≤ 8 * (24 - (I 2775)) + 6 by omega))⟩
                        · rw [e719]
                          replace hR705b : w_Rep w_TM fr X u l I705b A705b B705b C705b M704 := hR705b
                          replace f720 : m_fx (w_up I632a 2774 ((I632a 2774) + 1)) A632a I705b A705b := f720
                          exact Or.inr (⟨I705b, A705b, B705b, C705b, rfl, hR705b, (show m_fx I A I705b A705b by exact (m_fx_trans f638 f720))⟩)
                      · rw [e693, e694]
                        replace f695 : ¬ ((A632a 45) ((I632a 2774)) = 6 ∧ (A632a 46) ((I632a 2774)) = 61) := f695
                        show w_W _ _ _ (175, [(2, .int (Int32.ofInt (v633))), (1, .int (Int32.ofInt (1))), (0, .ref 43)], [.int (Int32.ofInt (0))], M631) _
                        refine w_adv (n := 4) (F' := (206, [(2, .int (Int32.ofInt (v633))), (1, .int (Int32.ofInt (1))), (0, .ref 43)], [.ref 43], M631)) rfl ?_
                        refine w_gf (v := .ref 53) hR632a rfl rfl rfl rfl ?_
                        refine w_adv (n := 1) (F' := (210, [(2, .int (Int32.ofInt (v633))), (1, .int (Int32.ofInt (1))), (0, .ref 43)], [.int (Int32.ofInt (v633)), .ref 53], M631)) rfl ?_
                        obtain ⟨r791a, r791b, r791c⟩ : 0 ≤ (I632a 3393) ∧ (I632a 3393) ≤ (C632a 53 : Int) ∧ (C632a 53 : Int) ≤ 131072 := hR632a.sz (show 53 ∈ w_TM.2.2 by decide)
                        refine w_call (cm := 238) (as := [(0, .ref 53), (1, .int (Int32.ofInt (v633)))]) (rest := []) (o := some (10, 53)) rfl (w_fitR hR632a rfl) (m_get (v633) 53 (by decide) rfl hR632a ⟨by omega, by omega⟩ (show 0 ≤ v633 by first | assumption | omega) (show v633 < (C632a 53 : Int) by first | assumption | omega)) (fun r792 M793 q794 => ?_)
                        rcases q794 with ⟨e795, e796⟩
                        rw [e795, e796]
                        obtain ⟨r797, r798⟩ : -2147483648 ≤ (A632a 53) (v633) ∧ (A632a 53) (v633) ≤ 2147483647 := hR632a.ra 53 (v633)
                        show w_W _ _ _ (213, [(2, .int (Int32.ofInt (v633))), (1, .int (Int32.ofInt (1))), (0, .ref 43)], [.int (Int32.ofInt ((A632a 53) (v633)))], M631) _
                        refine w_adv (n := 1) (F' := (215, [(2, .int (Int32.ofInt (v633))), (1, .int (Int32.ofInt (1))), (0, .ref 43)], [.int (Int32.ofInt (11)), .int (Int32.ofInt ((A632a 53) (v633)))], M631)) rfl ?_
                        refine w_br2 (a := (A632a 53) (v633)) (b := 11) rfl rfl ⟨by omega, by omega⟩ ⟨by omega, by omega⟩ (fun h799 => ?_) (fun h799 => ?_)
                        · have h799 : (A632a 53) (v633) = 11 := h799
                          show w_W _ _ _ (223, [(2, .int (Int32.ofInt (v633))), (1, .int (Int32.ofInt (1))), (0, .ref 43)], [], M631) _
                          skip
                          refine w_adv (n := 1) (F' := (224, [(2, .int (Int32.ofInt (v633))), (1, .int (Int32.ofInt (1))), (0, .ref 43)], [.int (Int32.ofInt (v633))], M631)) rfl ?_
                          refine w_fin (r := .inl (some (v633))) (M' := M631) rfl ?_
                          exact Or.inl ⟨v633, lo634, I632a, A632a, B632a, C632a, rfl, ⟨by omega, by omega⟩, hR632a, (show m_fx I A I632a A632a by exact f638), (show ((0 ≤ (I632a 2774) ∧ (I632a 2774) < (I632a 2754) ∧ (I632a 2754) ≤ 1501 ∧ 0 ≤ (I632a 2775) ∧ (I632a 2775) ≤ 24) ∧ ((I632a 3393) = (I632a 3905) ∧ (I632a 3521) = (I632a 3905) ∧ (I632a 3649) = (I632a 3905) ∧ (I632a 3777) = (I632a 3905) ∧ 0 ≤ (I632a 3905) ∧ (I632a 3905) ≤ 3 * (I632a 2774)) ∧ ((I632a 4161) = (I632a 4033) ∧ 7 ≤ (I632a 4289) ∧ (I632a 4289) ≤ (I632a 4033) ∧ (I632a 4033) ≤ 7 + (I632a 2774)) ∧ 0 ≤ (I632a 5889) ∧ (I632a 5889) ≤ (I632a 2774)) ∧ ((I632a 2754) = (I 2754) ∧ (I 2774) + 1 ≤ (I632a 2774) ∧ (I632a 2775) = (I 2775) ∧ (I632a 4289) = (I 4289) + 0 ∧ (I632a 5889) = (I 5889)) ∧ ((I632a 3905) + 2 ≤ (I 3905) + 3 * ((I632a 2774) - (I 2774)) ∧ (I 3905) ≤ v633 ∧ v633 + 1 = (I632a 3905) ∧ (I 4033) ≤ (I632a 4033) ∧ (I632a 4033) ≤ (I 4033) + ((I632a 2774) - (I 2774))) by (repeat' apply And.intro) <;> first | assumption | omega), (show m_SC I632a A632a by exact f640), (show m_TR lo634 I632a A632a by exact f641), (show m_ST lo I A lo634 I632a A632a by exact s679), (show t_I ((A632a 53) (v633)) by unfold t_I; omega), (show m_rt lo634 (I632a 3905) v633 by exact f644), (show m_RK lo634 (I 3905) (I632a 3905) (8 * (24 - (I 2775)) + 6) by exact m_RK_le (show m_RK lo634 (I 3905) (I632a 3905) (8 * (24 - (I 2775)) + (5)) from rk680) (show (8 * (24 - (I 2775)) + (5)) ≤ 8 * (24 - (I 2775)) + 6 by omega))⟩
                        · have h799 : ¬ ((A632a 53) (v633) = 11) := h799
                          show w_W _ _ _ (218, [(2, .int (Int32.ofInt (v633))), (1, .int (Int32.ofInt (1))), (0, .ref 43)], [], M631) _
                          refine w_adv (n := 2) (F' := (220, [(2, .int (Int32.ofInt (v633))), (1, .int (Int32.ofInt (1))), (0, .ref 43)], [.int (Int32.ofInt (1)), .ref 43], M631)) rfl ?_
                          refine w_call (cm := 232) (as := [(0, .ref 43), (1, .int (Int32.ofInt (1)))]) (rest := []) (o := some (9, 43)) rfl (w_fitR hR632a rfl) (m_fail (1) hR632a ⟨by omega, by omega⟩ (show 0 ≤ (I632a 2774) ∧ (I632a 2774) < 1501 by omega) (show 1 ≤ 1 ∧ 1 ≤ 7 by first | assumption | omega)) (fun r800 M801 q802 => ?_)
                          rcases q802 with ⟨I802a, A802a, B802a, C802a, e803, hR802a, f804⟩
                          rw [e803]
                          replace hR802a : w_Rep w_TM fr X u l I802a A802a B802a C802a M801 := hR802a
                          replace f804 : m_fx I632a A632a I802a A802a := f804
                          exact Or.inr (⟨I802a, A802a, B802a, C802a, rfl, hR802a, (show m_fx I A I802a A802a by exact (m_fx_trans f638 f804))⟩)
                    · rw [e646]
                      replace hR632b : w_Rep w_TM fr X u l I632b A632b B632b C632b M631 := hR632b
                      replace f647 : m_fx I A I632b A632b := f647
                      exact Or.inr (⟨I632b, A632b, B632b, C632b, rfl, hR632b, (show m_fx I A I632b A632b by exact f647)⟩)
                  · rw [e624, e625]
                    replace f626 : ¬ ((A 45) ((I 2774)) = 6 ∧ (A 46) ((I 2774)) = 123) := f626
                    show w_W _ _ _ (163, [(0, .ref 43)], [.int (Int32.ofInt (0))], M) _
                    refine w_adv (n := 2) (F' := (165, [(1, .int (Int32.ofInt (0))), (0, .ref 43)], [.ref 43], M)) rfl ?_
                    refine w_call (cm := 245) (as := [(0, .ref 43)]) (rest := []) (o := some (9, 43)) rfl (w_fitR hR rfl) (m_exp hA (lo) hR (show 20 * (24 - (I 2775)) + 17 ≤ (d : Int) by omega) (show m_TK I A by exact hTK) (show (0 ≤ (I 2774) ∧ (I 2774) < (I 2754) ∧ (I 2754) ≤ 1501 ∧ 0 ≤ (I 2775) ∧ (I 2775) ≤ 24) ∧ ((I 3393) = (I 3905) ∧ (I 3521) = (I 3905) ∧ (I 3649) = (I 3905) ∧ (I 3777) = (I 3905) ∧ 0 ≤ (I 3905) ∧ (I 3905) ≤ 3 * (I 2774)) ∧ ((I 4161) = (I 4033) ∧ 7 ≤ (I 4289) ∧ (I 4289) ≤ (I 4033) ∧ (I 4033) ≤ 7 + (I 2774)) ∧ 0 ≤ (I 5889) ∧ (I 5889) ≤ (I 2774) by (repeat' apply And.intro) <;> first | assumption | omega) (show m_SC I A by exact hSC) (show m_TR lo I A by exact hTR) (show (I 2754) - (I 2774) ≤ N by first | assumption | omega)) (fun r805 M806 q807 => ?_)
                    rcases q807 with ⟨v808, lo809, I807a, A807a, B807a, C807a, e810, ⟨r811, r812⟩, hR807a, f813, f814, f815, f816, f817, f818, f819, f820⟩ | ⟨I807b, A807b, B807b, C807b, e821, hR807b, f822⟩
                    · rw [e810]
                      replace hR807a : w_Rep w_TM fr X u l I807a A807a B807a C807a M806 := hR807a
                      replace f813 : m_fx I A I807a A807a := f813
                      replace f814 : ((0 ≤ (I807a 2774) ∧ (I807a 2774) < (I807a 2754) ∧ (I807a 2754) ≤ 1501 ∧ 0 ≤ (I807a 2775) ∧ (I807a 2775) ≤ 24) ∧ ((I807a 3393) = (I807a 3905) ∧ (I807a 3521) = (I807a 3905) ∧ (I807a 3649) = (I807a 3905) ∧ (I807a 3777) = (I807a 3905) ∧ 0 ≤ (I807a 3905) ∧ (I807a 3905) ≤ 3 * (I807a 2774)) ∧ ((I807a 4161) = (I807a 4033) ∧ 7 ≤ (I807a 4289) ∧ (I807a 4289) ≤ (I807a 4033) ∧ (I807a 4033) ≤ 7 + (I807a 2774)) ∧ 0 ≤ (I807a 5889) ∧ (I807a 5889) ≤ (I807a 2774)) ∧ ((I807a 2754) = (I 2754) ∧ (I 2774) + 1 ≤ (I807a 2774) ∧ (I807a 2775) = (I 2775) ∧ (I807a 4289) = (I 4289) + 0 ∧ (I807a 5889) = (I 5889)) ∧ ((I807a 3905) + 2 ≤ (I 3905) + 3 * ((I807a 2774) - (I 2774)) ∧ (I 3905) ≤ v808 ∧ v808 + 1 = (I807a 3905) ∧ (I 4033) ≤ (I807a 4033) ∧ (I807a 4033) ≤ (I 4033) + ((I807a 2774) - (I 2774))) := f814
                      obtain ⟨⟨⟨n823, n824, n825, n826, n827⟩, ⟨n828, n829, n830, n831, n832, n833⟩, ⟨n834, n835, n836, n837⟩, n838, n839⟩, ⟨n840, n841, n842, n843, n844⟩, ⟨n845, n846, n847, n848, n849⟩⟩ := id f814
                      clear f814
                      replace f815 : m_SC I807a A807a := f815
                      replace f816 : m_TR lo809 I807a A807a := f816
                      replace f817 : m_ST lo I A lo809 I807a A807a := f817
                      replace f818 : t_E ((A807a 53) (v808)) := f818
                      replace f819 : m_rt lo809 (I807a 3905) v808 := f819
                      replace f820 : m_RK lo809 (I 3905) (I807a 3905) (8 * (24 - (I 2775)) + 5) := f820
                      have tk850 : m_TK I807a A807a := m_TK_fx f813 hTK
                      have nn851 : (I 3905) ≤ (I807a 3905) := by omega
                      have nz852 : 0 ≤ (I 3905) := by first | assumption | omega
                      have ho853 : (I 2775) = (I 2775) + (0) := by omega
                      have rk855 : m_RK lo809 (I 3905) (I807a 3905) (8 * (24 - (I 2775)) + (5)) := m_RK_app (I := I) (I' := I807a) (R := (8 * (24 - (I 2775)) + (5))) (show m_RK lo (I 3905) (I 3905) (8 * (24 - (I 2775)) + (5)) from fun q q1 q2 => by omega) f817 f820 (show 0 ≤ (I 3905) by first | assumption | omega) (m_r8 (by decide)) (m_r8o (k := 0) ho853 (by decide))
                      have s854 : m_ST lo I A lo809 I807a A807a := f817
                      have k856 : m_kd lo809 I807a A807a (I 3905) (8 * (24 - (I 2775)) + 5) v808 t_E := m_kd_of f817 f816 nz852 (show (I 3905) ≤ v808 by first | assumption | omega) (show v808 < (I807a 3905) by omega) f818 f820
                      obtain ⟨j857, j858, j859, j860, j861⟩ := k856.1
                      show w_W _ _ _ (168, [(1, .int (Int32.ofInt (0))), (0, .ref 43)], [.int (Int32.ofInt (v808))], M806) _
                      refine w_adv (n := 3) (F' := (172, [(2, .int (Int32.ofInt (v808))), (1, .int (Int32.ofInt (0))), (0, .ref 43)], [.int (Int32.ofInt (61)), .ref 43], M806)) rfl ?_
                      refine w_call (cm := 230) (as := [(0, .ref 43), (1, .int (Int32.ofInt (61)))]) (rest := []) (o := some (9, 43)) rfl (w_fitR hR807a rfl) (m_isSign (61) hR807a ⟨by omega, by omega⟩ (show 0 ≤ (I807a 2774) ∧ (I807a 2774) < 1501 by omega)) (fun r862 M863 q864 => ?_)
                      rcases q864 with ⟨e865, e866, f867⟩ | ⟨e868, e869, f870⟩
                      · rw [e865, e866]
                        replace f867 : (A807a 45) ((I807a 2774)) = 6 ∧ (A807a 46) ((I807a 2774)) = 61 := f867
                        obtain ⟨n871, n872⟩ := id f867
                        clear f867
                        have w873 : (I807a 2774) + 1 < (I807a 2754) := m_TK_lt tk850 (by omega) (by omega) (by omega)
                        show w_W _ _ _ (175, [(2, .int (Int32.ofInt (v808))), (1, .int (Int32.ofInt (0))), (0, .ref 43)], [.int (Int32.ofInt (1))], M806) _
                        refine w_adv (n := 3) (F' := (180, [(2, .int (Int32.ofInt (v808))), (1, .int (Int32.ofInt (0))), (0, .ref 43)], [.ref 43, .ref 43], M806)) rfl ?_
                        refine w_gf (v := .int (Int32.ofInt ((I807a 2774)))) hR807a rfl rfl rfl rfl ?_
                        obtain ⟨r874, r875⟩ : -2147483648 ≤ (I807a 2774) ∧ (I807a 2774) ≤ 2147483647 := hR807a.ri 2774
                        refine w_adv (n := 1) (F' := (184, [(2, .int (Int32.ofInt (v808))), (1, .int (Int32.ofInt (0))), (0, .ref 43)], [.int (Int32.ofInt (1)), .int (Int32.ofInt ((I807a 2774))), .ref 43], M806)) rfl ?_
                        refine w_add rfl ?_
                        refine w_pf hR807a rfl rfl rfl rfl (show w_in ((I807a 2774) + 1) from ⟨by omega, by omega⟩) (fun h => absurd h (by decide)) (fun M876 hR877 => ?_)
                        replace hR877 : w_Rep w_TM fr X u l (w_up I807a 2774 ((I807a 2774) + 1)) A807a B807a C807a M876 := hR877
                        refine w_adv (n := 4) (F' := (193, [(2, .int (Int32.ofInt (v808))), (1, .int (Int32.ofInt (0))), (0, .ref 43)], [.ref 43, .int (Int32.ofInt (v808)), .int (Int32.ofInt (24)), .ref 43], M876)) rfl ?_
                        refine w_call (cm := 245) (as := [(0, .ref 43)]) (rest := [.int (Int32.ofInt (v808)), .int (Int32.ofInt (24)), .ref 43]) (o := some (9, 43)) rfl (w_fitR hR877 rfl) (m_exp hA (lo809) hR877 (show 20 * (24 - (I807a 2775)) + 17 ≤ (d : Int) by omega) (show m_TK (w_up I807a 2774 ((I807a 2774) + 1)) A807a by exact tk850) (show (0 ≤ (I807a 2774) + 1 ∧ (I807a 2774) + 1 < (I807a 2754) ∧ (I807a 2754) ≤ 1501 ∧ 0 ≤ (I807a 2775) ∧ (I807a 2775) ≤ 24) ∧ ((I807a 3393) = (I807a 3905) ∧ (I807a 3521) = (I807a 3905) ∧ (I807a 3649) = (I807a 3905) ∧ (I807a 3777) = (I807a 3905) ∧ 0 ≤ (I807a 3905) ∧ (I807a 3905) ≤ 3 * ((I807a 2774) + 1)) ∧ ((I807a 4161) = (I807a 4033) ∧ 7 ≤ (I807a 4289) ∧ (I807a 4289) ≤ (I807a 4033) ∧ (I807a 4033) ≤ 7 + ((I807a 2774) + 1)) ∧ 0 ≤ (I807a 5889) ∧ (I807a 5889) ≤ (I807a 2774) + 1 by (repeat' apply And.intro) <;> first | assumption | omega) (show m_SC (w_up I807a 2774 ((I807a 2774) + 1)) A807a by exact f815) (show m_TR lo809 (w_up I807a 2774 ((I807a 2774) + 1)) A807a by exact f816) (show (I807a 2754) - ((I807a 2774) + 1) ≤ N by first | assumption | omega)) (fun r878 M879 q880 => ?_)
                        rcases q880 with ⟨v881, lo882, I880a, A880a, B880a, C880a, e883, ⟨r884, r885⟩, hR880a, f886, f887, f888, f889, f890, f891, f892, f893⟩ | ⟨I880b, A880b, B880b, C880b, e894, hR880b, f895⟩
                        · rw [e883]
                          replace hR880a : w_Rep w_TM fr X u l I880a A880a B880a C880a M879 := hR880a
                          replace f886 : m_fx (w_up I807a 2774 ((I807a 2774) + 1)) A807a I880a A880a := f886
                          replace f887 : ((0 ≤ (I880a 2774) ∧ (I880a 2774) < (I880a 2754) ∧ (I880a 2754) ≤ 1501 ∧ 0 ≤ (I880a 2775) ∧ (I880a 2775) ≤ 24) ∧ ((I880a 3393) = (I880a 3905) ∧ (I880a 3521) = (I880a 3905) ∧ (I880a 3649) = (I880a 3905) ∧ (I880a 3777) = (I880a 3905) ∧ 0 ≤ (I880a 3905) ∧ (I880a 3905) ≤ 3 * (I880a 2774)) ∧ ((I880a 4161) = (I880a 4033) ∧ 7 ≤ (I880a 4289) ∧ (I880a 4289) ≤ (I880a 4033) ∧ (I880a 4033) ≤ 7 + (I880a 2774)) ∧ 0 ≤ (I880a 5889) ∧ (I880a 5889) ≤ (I880a 2774)) ∧ ((I880a 2754) = (I807a 2754) ∧ ((I807a 2774) + 1) + 1 ≤ (I880a 2774) ∧ (I880a 2775) = (I807a 2775) ∧ (I880a 4289) = (I807a 4289) + 0 ∧ (I880a 5889) = (I807a 5889)) ∧ ((I880a 3905) + 2 ≤ (I807a 3905) + 3 * ((I880a 2774) - ((I807a 2774) + 1)) ∧ (I807a 3905) ≤ v881 ∧ v881 + 1 = (I880a 3905) ∧ (I807a 4033) ≤ (I880a 4033) ∧ (I880a 4033) ≤ (I807a 4033) + ((I880a 2774) - ((I807a 2774) + 1))) := f887
                          obtain ⟨⟨⟨n896, n897, n898, n899, n900⟩, ⟨n901, n902, n903, n904, n905, n906⟩, ⟨n907, n908, n909, n910⟩, n911, n912⟩, ⟨n913, n914, n915, n916, n917⟩, ⟨n918, n919, n920, n921, n922⟩⟩ := id f887
                          clear f887
                          replace f888 : m_SC I880a A880a := f888
                          replace f889 : m_TR lo882 I880a A880a := f889
                          replace f890 : m_ST lo809 (w_up I807a 2774 ((I807a 2774) + 1)) A807a lo882 I880a A880a := f890
                          replace f891 : t_E ((A880a 53) (v881)) := f891
                          replace f892 : m_rt lo882 (I880a 3905) v881 := f892
                          replace f893 : m_RK lo882 (I807a 3905) (I880a 3905) (8 * (24 - (I807a 2775)) + 5) := f893
                          have tk923 : m_TK I880a A880a := m_TK_fx f886 tk850
                          have nn924 : (I807a 3905) ≤ (I880a 3905) := by omega
                          have nz925 : 0 ≤ (I807a 3905) := by first | assumption | omega
                          have ho926 : (I807a 2775) = (I 2775) + (0) := by omega
                          have rk928 : m_RK lo882 (I 3905) (I880a 3905) (8 * (24 - (I 2775)) + (5)) := m_RK_app (I := (w_up I807a 2774 ((I807a 2774) + 1))) (I' := I880a) (R := (8 * (24 - (I 2775)) + (5))) (show m_RK lo809 (I 3905) (I807a 3905) (8 * (24 - (I 2775)) + (5)) from rk855) f890 f893 (show 0 ≤ (I 3905) by first | assumption | omega) (m_r8 (by decide)) (m_r8o (k := 0) ho926 (by decide))
                          have s927 : m_ST lo I A lo882 I880a A880a := m_ST_trans (show m_ST lo I A lo809 (w_up I807a 2774 ((I807a 2774) + 1)) A807a from s854) f890 (show 0 ≤ (I 3905) by first | assumption | omega) (show (I 3905) ≤ (I807a 3905) by first | assumption | omega) (show (I 4289) ≤ (I807a 4289) by first | assumption | omega) (show (I 5889) ≤ (I807a 5889) by first | assumption | omega)
                          have k929 : m_kd lo882 I880a A880a (I 3905) (8 * (24 - (I 2775)) + 5) v808 t_E := m_kd_ST f890 nn924 k856
                          have rt930 := m_rt_ST f890 (show 0 ≤ v808 by omega) (show v808 < (I807a 3905) by omega) f819
                          have k931 : m_kd lo882 I880a A880a (I807a 3905) (8 * (24 - (I807a 2775)) + 5) v881 t_E := m_kd_of f890 f889 nz925 (show (I807a 3905) ≤ v881 by first | assumption | omega) (show v881 < (I880a 3905) by omega) f891 f893
                          obtain ⟨j932, j933, j934, j935, j936⟩ := k931.1
                          show w_W _ _ _ (196, [(2, .int (Int32.ofInt (v808))), (1, .int (Int32.ofInt (0))), (0, .ref 43)], [.int (Int32.ofInt (v881)), .int (Int32.ofInt (v808)), .int (Int32.ofInt (24)), .ref 43], M879) _
                          refine w_adv (n := 1) (F' := (197, [(2, .int (Int32.ofInt (v808))), (1, .int (Int32.ofInt (0))), (0, .ref 43)], [.int (Int32.ofInt (0)), .int (Int32.ofInt (v881)), .int (Int32.ofInt (v808)), .int (Int32.ofInt (24)), .ref 43], M879)) rfl ?_
                          refine w_call (cm := 239) (as := [(0, .ref 43), (1, .int (Int32.ofInt (24))), (2, .int (Int32.ofInt (v808))), (3, .int (Int32.ofInt (v881))), (4, .int (Int32.ofInt (0)))]) (rest := []) (o := some (9, 43)) rfl (w_fitR hR880a rfl) (m_node (24) (v808) (v881) (0) hR880a (show 2 ≤ d by omega) ⟨by omega, by omega⟩ ⟨by omega, by omega⟩ ⟨by omega, by omega⟩ ⟨by omega, by omega⟩ (show (I880a 3393) = (I880a 3905) by first | assumption | omega) (show (I880a 3521) = (I880a 3905) by first | assumption | omega) (show (I880a 3649) = (I880a 3905) by first | assumption | omega) (show (I880a 3777) = (I880a 3905) by first | assumption | omega) (show (I880a 3905) < 65536 by first | assumption | omega)) (fun r937 M938 q939 => ?_)
                          rcases q939 with ⟨v940, I939a, A939a, B939a, C939a, e941, ⟨r942, r943⟩, hR939a, f944, f945⟩
                          rw [e941]
                          replace hR939a : w_Rep w_TM fr X u l I939a A939a B939a C939a M938 := hR939a
                          replace f944 : m_fx I880a A880a I939a A939a := f944
                          replace f945 : m_nd I880a A880a I939a A939a v940 24 v808 v881 0 := f945
                          obtain ⟨⟨n946, n947, n948, n949, n950, n951⟩, ⟨n952, n953, n954, n955, n956, n957, n958⟩⟩ : (v940 = (I880a 3905) ∧ (I939a 3905) = (I880a 3905) + 1 ∧ (I939a 3393) = (I880a 3393) + 1 ∧ (I939a 3521) = (I880a 3521) + 1 ∧ (I939a 3649) = (I880a 3649) + 1 ∧ (I939a 3777) = (I880a 3777) + 1) ∧ ((I939a 2774) = (I880a 2774) ∧ (I939a 2754) = (I880a 2754) ∧ (I939a 2775) = (I880a 2775) ∧ (I939a 4289) = (I880a 4289) ∧ (I939a 4033) = (I880a 4033) ∧ (I939a 4161) = (I880a 4161) ∧ (I939a 5889) = (I880a 5889)) := m_nd_num f945
                          have tk959 : m_TK I939a A939a := m_TK_fx f944 tk923
                          have sc960 : m_SC I939a A939a := m_SC_nd f945 f888
                          have tr961 : m_TR (t_up lo882 v940 (I 3905) (8 * (24 - (I 2775)) + (6))) I939a A939a := m_TR_nd (show m_TR lo882 I880a A880a from f889) f945 (show 0 ≤ (I 3905) by omega) (show (I 3905) ≤ v940 by omega) (m_cl_ST (show m_ST lo I A lo882 I880a A880a from s927) hTR (show 0 ≤ (I 3905) by omega)) (t_N_mk24 t_up_same (show 0 ≤ (I 3905) by omega) (show (I 3905) ≤ v940 by omega) (show 0 ≤ (8 * (24 - (I 2775)) + (6)) by omega) (m_hw (show m_RK lo882 (I 3905) v940 (8 * (24 - (I 2775)) + (5)) from fun q q1 q2 => (show m_RK lo882 (I 3905) (I880a 3905) (8 * (24 - (I 2775)) + (5)) from rk928) q (show (I 3905) ≤ q by omega) (show q < (I880a 3905) by omega)) (m_r8l (by decide))) ⟨m_ch f945 (show (I 3905) ≤ (I 3905) by omega) (show m_kd lo882 I880a A880a (I 3905) (8 * (24 - (I 2775)) + 5) v808 t_E from k929), m_ch f945 (show (I 3905) ≤ (I807a 3905) by omega) (show m_kd lo882 I880a A880a (I807a 3905) (8 * (24 - (I807a 2775)) + 5) v881 t_E from k931), m_od f945 (show m_kd lo882 I880a A880a (I807a 3905) (8 * (24 - (I807a 2775)) + 5) v881 t_E from k931) (show v808 < (I807a 3905) by omega)⟩)
                          have s962 : m_ST lo I A (t_up lo882 v940 (I 3905) (8 * (24 - (I 2775)) + (6))) I939a A939a := m_ST_nd (l := (I 3905)) (show m_ST lo I A lo882 I880a A880a from s927) f945 (show (I 3905) ≤ (I 3905) by omega) (show (I 3905) ≤ (I880a 3905) by omega)
                          have rk963 : m_RK (t_up lo882 v940 (I 3905) (8 * (24 - (I 2775)) + (6))) (I 3905) (I939a 3905) (8 * (24 - (I 2775)) + (6)) := fun q q1 q2 => m_RK_nd (show m_RK lo882 (I 3905) v940 (8 * (24 - (I 2775)) + (5)) from fun q q1 q2 => (show m_RK lo882 (I 3905) (I880a 3905) (8 * (24 - (I 2775)) + (5)) from rk928) q q1 (show q < (I880a 3905) by omega)) (m_r8 (by decide)) (m_r8 (by decide)) q q1 (show q < v940 + 1 by omega)
                          have k964 : m_kd (t_up lo882 v940 (I 3905) (8 * (24 - (I 2775)) + (6))) I939a A939a (I 3905) (8 * (24 - (I 2775)) + (6)) v940 (fun k => k = 24) := m_kd_new f945 (show 0 ≤ (I 3905) by omega) (show (I 3905) ≤ v940 by omega) rfl
                          have rt965 : m_rt (t_up lo882 v940 (I 3905) (8 * (24 - (I 2775)) + (6))) (I939a 3905) v940 := m_rt_new f945
                          show w_W _ _ _ (200, [(2, .int (Int32.ofInt (v808))), (1, .int (Int32.ofInt (0))), (0, .ref 43)], [.int (Int32.ofInt (v940))], M938) _
                          refine w_fin (r := .inl (some (v940))) (M' := M938) rfl ?_
                          exact Or.inl ⟨v940, (t_up lo882 v940 (I 3905) (8 * (24 - (I 2775)) + (6))), I939a, A939a, B939a, C939a, rfl, ⟨by omega, by omega⟩, hR939a, (show m_fx I A I939a A939a by exact (m_fx_trans (m_fx_trans f813 f886) f944)), (show ((0 ≤ (I939a 2774) ∧ (I939a 2774) < (I939a 2754) ∧ (I939a 2754) ≤ 1501 ∧ 0 ≤ (I939a 2775) ∧ (I939a 2775) ≤ 24) ∧ ((I939a 3393) = (I939a 3905) ∧ (I939a 3521) = (I939a 3905) ∧ (I939a 3649) = (I939a 3905) ∧ (I939a 3777) = (I939a 3905) ∧ 0 ≤ (I939a 3905) ∧ (I939a 3905) ≤ 3 * (I939a 2774)) ∧ ((I939a 4161) = (I939a 4033) ∧ 7 ≤ (I939a 4289) ∧ (I939a 4289) ≤ (I939a 4033) ∧ (I939a 4033) ≤ 7 + (I939a 2774)) ∧ 0 ≤ (I939a 5889) ∧ (I939a 5889) ≤ (I939a 2774)) ∧ ((I939a 2754) = (I 2754) ∧ (I 2774) + 1 ≤ (I939a 2774) ∧ (I939a 2775) = (I 2775) ∧ (I939a 4289) = (I 4289) + 0 ∧ (I939a 5889) = (I 5889)) ∧ ((I939a 3905) + 2 ≤ (I 3905) + 3 * ((I939a 2774) - (I 2774)) ∧ (I 3905) ≤ v940 ∧ v940 + 1 = (I939a 3905) ∧ (I 4033) ≤ (I939a 4033) ∧ (I939a 4033) ≤ (I 4033) + ((I939a 2774) - (I 2774))) by (repeat' apply And.intro) <;> first | assumption | omega), (show m_SC I939a A939a by exact sc960), (show m_TR (t_up lo882 v940 (I 3905) (8 * (24 - (I 2775)) + (6))) I939a A939a by exact tr961), (show m_ST lo I A (t_up lo882 v940 (I 3905) (8 * (24 - (I 2775)) + (6))) I939a A939a by exact s962), (show t_I ((A939a 53) (v940)) by exact ((m_kd_K k964 (fun k h => by have h : k = 24 := h; unfold t_I; omega))).2), (show m_rt (t_up lo882 v940 (I 3905) (8 * (24 - (I 2775)) + (6))) (I939a 3905) v940 by exact rt965), (show m_RK (t_up lo882 v940 (I 3905) (8 * (24 - (I 2775)) + (6))) (I 3905) (I939a 3905) (8 * (24 - (I 2775)) + 6) by exact m_RK_le (show m_RK (t_up lo882 v940 (I 3905) (8 * (24 - (I 2775)) + (6))) (I 3905) (I939a 3905) (8 * (24 - (I 2775)) + (6)) from rk963) (show (8 * (24 - (I 2775)) + (6)) ≤ 8 * (24 - (I 2775)) + 6 by omega))⟩
                        · rw [e894]
                          replace hR880b : w_Rep w_TM fr X u l I880b A880b B880b C880b M879 := hR880b
                          replace f895 : m_fx (w_up I807a 2774 ((I807a 2774) + 1)) A807a I880b A880b := f895
                          exact Or.inr (⟨I880b, A880b, B880b, C880b, rfl, hR880b, (show m_fx I A I880b A880b by exact (m_fx_trans f813 f895))⟩)
                      · rw [e868, e869]
                        replace f870 : ¬ ((A807a 45) ((I807a 2774)) = 6 ∧ (A807a 46) ((I807a 2774)) = 61) := f870
                        show w_W _ _ _ (175, [(2, .int (Int32.ofInt (v808))), (1, .int (Int32.ofInt (0))), (0, .ref 43)], [.int (Int32.ofInt (0))], M806) _
                        refine w_adv (n := 5) (F' := (220, [(2, .int (Int32.ofInt (v808))), (1, .int (Int32.ofInt (0))), (0, .ref 43)], [.int (Int32.ofInt (1)), .ref 43], M806)) rfl ?_
                        refine w_call (cm := 232) (as := [(0, .ref 43), (1, .int (Int32.ofInt (1)))]) (rest := []) (o := some (9, 43)) rfl (w_fitR hR807a rfl) (m_fail (1) hR807a ⟨by omega, by omega⟩ (show 0 ≤ (I807a 2774) ∧ (I807a 2774) < 1501 by omega) (show 1 ≤ 1 ∧ 1 ≤ 7 by first | assumption | omega)) (fun r966 M967 q968 => ?_)
                        rcases q968 with ⟨I968a, A968a, B968a, C968a, e969, hR968a, f970⟩
                        rw [e969]
                        replace hR968a : w_Rep w_TM fr X u l I968a A968a B968a C968a M967 := hR968a
                        replace f970 : m_fx I807a A807a I968a A968a := f970
                        exact Or.inr (⟨I968a, A968a, B968a, C968a, rfl, hR968a, (show m_fx I A I968a A968a by exact (m_fx_trans f813 f970))⟩)
                    · rw [e821]
                      replace hR807b : w_Rep w_TM fr X u l I807b A807b B807b C807b M806 := hR807b
                      replace f822 : m_fx I A I807b A807b := f822
                      exact Or.inr (⟨I807b, A807b, B807b, C807b, rfl, hR807b, (show m_fx I A I807b A807b by exact f822)⟩)
