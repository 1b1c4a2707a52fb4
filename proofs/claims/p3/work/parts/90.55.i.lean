def m_item_Q (fr : Nat → Bool) (X : Nat → Option (q_C (Nat → Int32))) (u l : Nat) (I : Nat → Int) (A : Nat → Int → Int) (B C : Nat → Nat) (M : w_M) (lo : Int → Int × Int) : w_X → w_M → Prop := fun r M' => (∃ v : Int, ∃ lo' : Int → Int × Int, ∃ (I' : Nat → Int) (A' : Nat → Int → Int) (B' C' : Nat → Nat), (r = .inl (some v)) ∧ (w_in v) ∧ (w_Rep w_TM fr X u l I' A' B' C' M') ∧ (m_fx I A I' A') ∧ (((0 ≤ (I' 2774) ∧ (I' 2774) < (I' 2754) ∧ (I' 2754) ≤ 1501 ∧ 0 ≤ (I' 2775) ∧ (I' 2775) ≤ 24) ∧ ((I' 3393) = (I' 3905) ∧ (I' 3521) = (I' 3905) ∧ (I' 3649) = (I' 3905) ∧ (I' 3777) = (I' 3905) ∧ 0 ≤ (I' 3905) ∧ (I' 3905) ≤ 3 * (I' 2774)) ∧ ((I' 4161) = (I' 4033) ∧ 7 ≤ (I' 4289) ∧ (I' 4289) ≤ (I' 4033) ∧ (I' 4033) ≤ 7 + (I' 2774)) ∧ 0 ≤ (I' 5889) ∧ (I' 5889) ≤ (I' 2774)) ∧ ((I' 2754) = (I 2754) ∧ (I 2774) + 1 ≤ (I' 2774) ∧ (I' 2775) = (I 2775) ∧ (I' 4289) = (I 4289) + 0 ∧ (I' 5889) = (I 5889)) ∧ ((I' 3905) + 2 ≤ (I 3905) + 3 * ((I' 2774) - (I 2774)) ∧ (I 3905) ≤ v ∧ v + 1 = (I' 3905) ∧ (I 4033) ≤ (I' 4033) ∧ (I' 4033) ≤ (I 4033) + ((I' 2774) - (I 2774)))) ∧ (m_SC I' A') ∧ (m_TR lo' I' A') ∧ (m_ST lo I A lo' I' A') ∧ (t_I ((A' 53) (v))) ∧ (m_rt lo' (I' 3905) v) ∧ (m_RK lo' (I 3905) (I' 3905) (8 * (24 - (I 2775)) + 6))) ∨ (∃ (I' : Nat → Int) (A' : Nat → Int → Int) (B' C' : Nat → Nat), (r = .inr 69) ∧ (w_Rep w_TM fr X u l I' A' B' C' M') ∧ (m_fx I A I' A'))
set_option maxHeartbeats 100000000 in
set_option maxRecDepth 100000 in
theorem m_item {L : Nat} {xs : Nat → Int32} {d : Nat} {fr : Nat → Bool} {X : Nat → Option (q_C (Nat → Int32))} {u l : Nat} {I : Nat → Int} {A : Nat → Int → Int} {B C : Nat → Nat} {M : w_M} {N : Int} (hA : m_all L xs N) (lo : Int → Int × Int) (hR : w_Rep w_TM fr X u l I A B C M) (hd : 20 * (24 - (I 2775)) + 18 ≤ (d : Int)) (hTK : m_TK I A) (hNU : (0 ≤ (I 2774) ∧ (I 2774) < (I 2754) ∧ (I 2754) ≤ 1501 ∧ 0 ≤ (I 2775) ∧ (I 2775) ≤ 24) ∧ ((I 3393) = (I 3905) ∧ (I 3521) = (I 3905) ∧ (I 3649) = (I 3905) ∧ (I 3777) = (I 3905) ∧ 0 ≤ (I 3905) ∧ (I 3905) ≤ 3 * (I 2774)) ∧ ((I 4161) = (I 4033) ∧ 7 ≤ (I 4289) ∧ (I 4289) ≤ (I 4033) ∧ (I 4033) ≤ 7 + (I 2774)) ∧ 0 ≤ (I 5889) ∧ (I 5889) ≤ (I 2774)) (hSC : m_SC I A) (hTR : m_TR lo I A) (hm : (I 2754) - (I 2774) ≤ N) : w_W (z_P L xs) d 233 (0, [(0, .ref 43)], [], M) (m_item_Q fr X u l I A B C M lo) := by
  obtain ⟨d, rfl⟩ : ∃ d0, d = d0 + 1 := ⟨d - 1, by omega⟩
  refine w_adv (n := 2) (F' := (2, [(0, .ref 43)], [.int (Int32.ofInt (1)), .ref 43], M)) rfl ?_
  refine w_call (cm := 231) (as := [(0, .ref 43), (1, .int (Int32.ofInt (1)))]) (rest := []) (o := some (9, 43)) rfl (w_fitR hR rfl) (m_isWord (1) hR ⟨by omega, by omega⟩ (show 0 ≤ (I 2774) ∧ (I 2774) < 1501 by omega)) (fun r1 M2 q3 => ?_)
  rcases q3 with ⟨e4, e5, f6⟩ | ⟨e7, e8, f9⟩
  · rw [e4, e5]
    replace f6 : (A 45) ((I 2774)) = 5 ∧ (A 46) ((I 2774)) = 1 := f6
    obtain ⟨n10, n11⟩ := id f6
    clear f6
    have w12 : (I 2774) + 1 < (I 2754) := m_TK_lt hTK (show (I 2774) < (I 2754) by omega) (show 1 ≤ (A 45) ((I 2774)) by omega) (show (A 45) ((I 2774)) ≤ 6 by omega)
    show w_W _ _ _ (5, [(0, .ref 43)], [.int (Int32.ofInt (1))], M) _
    refine w_adv (n := 3) (F' := (10, [(0, .ref 43)], [.int (Int32.ofInt (0)), .ref 43], M)) rfl ?_
    refine w_call (cm := 234) (as := [(0, .ref 43), (1, .int (Int32.ofInt (0)))]) (rest := []) (o := some (9, 43)) rfl (w_fitR hR rfl) (m_local hA (0) (lo) hR (show 20 * (24 - (I 2775)) + 11 ≤ (d : Int) by omega) ⟨by omega, by omega⟩ (show m_TK I A by exact hTK) (show (0 ≤ (I 2774) ∧ (I 2774) < (I 2754) ∧ (I 2754) ≤ 1501 ∧ 0 ≤ (I 2775) ∧ (I 2775) ≤ 24) ∧ ((I 3393) = (I 3905) ∧ (I 3521) = (I 3905) ∧ (I 3649) = (I 3905) ∧ (I 3777) = (I 3905) ∧ 0 ≤ (I 3905) ∧ (I 3905) ≤ 3 * (I 2774)) ∧ ((I 4161) = (I 4033) ∧ 7 ≤ (I 4289) ∧ (I 4289) ≤ (I 4033) ∧ (I 4033) ≤ 7 + (I 2774)) ∧ 0 ≤ (I 5889) ∧ (I 5889) ≤ (I 2774) by (repeat' apply And.intro) <;> first | assumption | omega) (show m_SC I A by exact hSC) (show m_TR lo I A by exact hTR) (show 1 ≤ (A 45) ((I 2774)) ∧ (A 45) ((I 2774)) ≤ 6 by first | assumption | omega) (show (I 2754) - (I 2774) ≤ N by first | assumption | omega)) (fun r13 M14 q15 => ?_)
    rcases q15 with ⟨v16, lo17, I15a, A15a, B15a, C15a, e18, ⟨r19, r20⟩, hR15a, f21, f22, f23, f24, f25, f26, f27, f28⟩ | ⟨I15b, A15b, B15b, C15b, e29, hR15b, f30⟩
    · rw [e18]
      replace hR15a : w_Rep w_TM fr X u l I15a A15a B15a C15a M14 := hR15a
      replace f21 : m_fx I A I15a A15a := f21
      replace f22 : ((0 ≤ (I15a 2774) ∧ (I15a 2774) < (I15a 2754) ∧ (I15a 2754) ≤ 1501 ∧ 0 ≤ (I15a 2775) ∧ (I15a 2775) ≤ 24) ∧ ((I15a 3393) = (I15a 3905) ∧ (I15a 3521) = (I15a 3905) ∧ (I15a 3649) = (I15a 3905) ∧ (I15a 3777) = (I15a 3905) ∧ 0 ≤ (I15a 3905) ∧ (I15a 3905) ≤ 3 * (I15a 2774)) ∧ ((I15a 4161) = (I15a 4033) ∧ 7 ≤ (I15a 4289) ∧ (I15a 4289) ≤ (I15a 4033) ∧ (I15a 4033) ≤ 7 + (I15a 2774)) ∧ 0 ≤ (I15a 5889) ∧ (I15a 5889) ≤ (I15a 2774)) ∧ ((I15a 2754) = (I 2754) ∧ (I 2774) + 1 ≤ (I15a 2774) ∧ (I15a 2775) = (I 2775) ∧ (I15a 4289) = (I 4289) + 0 ∧ (I15a 5889) = (I 5889)) ∧ ((I15a 3905) + 2 ≤ (I 3905) + 3 * ((I15a 2774) - (I 2774)) ∧ (I 3905) ≤ v16 ∧ v16 + 1 = (I15a 3905) ∧ (I 4033) ≤ (I15a 4033) ∧ (I15a 4033) ≤ (I 4033) + ((I15a 2774) - (I 2774))) := f22
      obtain ⟨⟨⟨n31, n32, n33, n34, n35⟩, ⟨n36, n37, n38, n39, n40, n41⟩, ⟨n42, n43, n44, n45⟩, n46, n47⟩, ⟨n48, n49, n50, n51, n52⟩, ⟨n53, n54, n55, n56, n57⟩⟩ := id f22
      clear f22
      replace f23 : m_SC I15a A15a := f23
      replace f24 : m_TR lo17 I15a A15a := f24
      replace f25 : m_ST lo I A lo17 I15a A15a := f25
      replace f26 : (fun k => k = 14) ((A15a 53) (v16)) := f26
      replace f27 : m_rt lo17 (I15a 3905) v16 := f27
      replace f28 : m_RK lo17 (I 3905) (I15a 3905) (8 * (24 - (I 2775)) + 0) := f28
      have tk58 : m_TK I15a A15a := m_TK_fx f21 hTK
      have nn59 : (I 3905) ≤ (I15a 3905) := by omega
      have nz60 : 0 ≤ (I 3905) := by first | assumption | omega
      have ho61 : (I 2775) = (I 2775) + (0) := by omega
      have rk63 : m_RK lo17 (I 3905) (I15a 3905) (8 * (24 - (I 2775)) + (0)) := m_RK_app (I := I) (I' := I15a) (R := (8 * (24 - (I 2775)) + (0))) (show m_RK lo (I 3905) (I 3905) (8 * (24 - (I 2775)) + (0)) from fun q q1 q2 => by omega) f25 f28 (show 0 ≤ (I 3905) by first | assumption | omega) (m_r8 (by decide)) (m_r8o (k := 0) ho61 (by decide))
      have s62 : m_ST lo I A lo17 I15a A15a := f25
      have k64 : m_kd lo17 I15a A15a (I 3905) (8 * (24 - (I 2775)) + 0) v16 (fun k => k = 14) := m_kd_of (I := I) f25 f24 nz60 (show (I 3905) ≤ v16 by first | assumption | omega) (show v16 < (I15a 3905) by omega) f26 f28
      obtain ⟨j65, j66, j67, j68, j69⟩ := k64.1
      show w_W _ _ _ (13, [(0, .ref 43)], [.int (Int32.ofInt (v16))], M14) _
      refine w_fin (r := .inl (some (v16))) (M' := M14) rfl ?_
      exact Or.inl ⟨v16, lo17, I15a, A15a, B15a, C15a, rfl, ⟨by omega, by omega⟩, hR15a, (show m_fx I A I15a A15a by exact f21), (show ((0 ≤ (I15a 2774) ∧ (I15a 2774) < (I15a 2754) ∧ (I15a 2754) ≤ 1501 ∧ 0 ≤ (I15a 2775) ∧ (I15a 2775) ≤ 24) ∧ ((I15a 3393) = (I15a 3905) ∧ (I15a 3521) = (I15a 3905) ∧ (I15a 3649) = (I15a 3905) ∧ (I15a 3777) = (I15a 3905) ∧ 0 ≤ (I15a 3905) ∧ (I15a 3905) ≤ 3 * (I15a 2774)) ∧ ((I15a 4161) = (I15a 4033) ∧ 7 ≤ (I15a 4289) ∧ (I15a 4289) ≤ (I15a 4033) ∧ (I15a 4033) ≤ 7 + (I15a 2774)) ∧ 0 ≤ (I15a 5889) ∧ (I15a 5889) ≤ (I15a 2774)) ∧ ((I15a 2754) = (I 2754) ∧ (I 2774) + 1 ≤ (I15a 2774) ∧ (I15a 2775) = (I 2775) ∧ (I15a 4289) = (I 4289) + 0 ∧ (I15a 5889) = (I 5889)) ∧ ((I15a 3905) + 2 ≤ (I 3905) + 3 * ((I15a 2774) - (I 2774)) ∧ (I 3905) ≤ v16 ∧ v16 + 1 = (I15a 3905) ∧ (I 4033) ≤ (I15a 4033) ∧ (I15a 4033) ≤ (I 4033) + ((I15a 2774) - (I 2774))) by (repeat' apply And.intro) <;> first | assumption | omega), (show m_SC I15a A15a by exact f23), (show m_TR lo17 I15a A15a by exact f24), (show m_ST lo I A lo17 I15a A15a by exact s62), (show t_I ((A15a 53) (v16)) by exact ((m_kd_K k64 (fun k h => by have h : k = 14 := h; unfold t_I; omega))).2), (show m_rt lo17 (I15a 3905) v16 by exact f27), (show m_RK lo17 (I 3905) (I15a 3905) (8 * (24 - (I 2775)) + 6) by exact m_RK_le (show m_RK lo17 (I 3905) (I15a 3905) (8 * (24 - (I 2775)) + (0)) from rk63) (show (8 * (24 - (I 2775)) + (0)) ≤ 8 * (24 - (I 2775)) + 6 by omega))⟩
    · rw [e29]
      replace hR15b : w_Rep w_TM fr X u l I15b A15b B15b C15b M14 := hR15b
      replace f30 : m_fx I A I15b A15b := f30
      exact Or.inr (⟨I15b, A15b, B15b, C15b, rfl, hR15b, (show m_fx I A I15b A15b by exact f30)⟩)
  · rw [e7, e8]
    replace f9 : ¬ ((A 45) ((I 2774)) = 5 ∧ (A 46) ((I 2774)) = 1) := f9
    show w_W _ _ _ (5, [(0, .ref 43)], [.int (Int32.ofInt (0))], M) _
    refine w_adv (n := 3) (F' := (16, [(0, .ref 43)], [.int (Int32.ofInt (4)), .ref 43], M)) rfl ?_
    refine w_call (cm := 231) (as := [(0, .ref 43), (1, .int (Int32.ofInt (4)))]) (rest := []) (o := some (9, 43)) rfl (w_fitR hR rfl) (m_isWord (4) hR ⟨by omega, by omega⟩ (show 0 ≤ (I 2774) ∧ (I 2774) < 1501 by omega)) (fun r70 M71 q72 => ?_)
    rcases q72 with ⟨e73, e74, f75⟩ | ⟨e76, e77, f78⟩
    · rw [e73, e74]
      replace f75 : (A 45) ((I 2774)) = 5 ∧ (A 46) ((I 2774)) = 4 := f75
      obtain ⟨n79, n80⟩ := id f75
      clear f75
      have w81 : (I 2774) + 1 < (I 2754) := m_TK_lt hTK (show (I 2774) < (I 2754) by omega) (show 1 ≤ (A 45) ((I 2774)) by omega) (show (A 45) ((I 2774)) ≤ 6 by omega)
      show w_W _ _ _ (19, [(0, .ref 43)], [.int (Int32.ofInt (1))], M) _
      refine w_adv (n := 3) (F' := (24, [(0, .ref 43)], [.int (Int32.ofInt (0)), .ref 43], M)) rfl ?_
      refine w_call (cm := 268) (as := [(0, .ref 43), (1, .int (Int32.ofInt (0)))]) (rest := []) (o := some (9, 43)) rfl (w_fitR hR rfl) (m_choice hA (0) (lo) hR (show 20 * (24 - (I 2775)) + 11 ≤ (d : Int) by omega) ⟨by omega, by omega⟩ (show m_TK I A by exact hTK) (show (0 ≤ (I 2774) ∧ (I 2774) < (I 2754) ∧ (I 2754) ≤ 1501 ∧ 0 ≤ (I 2775) ∧ (I 2775) ≤ 24) ∧ ((I 3393) = (I 3905) ∧ (I 3521) = (I 3905) ∧ (I 3649) = (I 3905) ∧ (I 3777) = (I 3905) ∧ 0 ≤ (I 3905) ∧ (I 3905) ≤ 3 * (I 2774)) ∧ ((I 4161) = (I 4033) ∧ 7 ≤ (I 4289) ∧ (I 4289) ≤ (I 4033) ∧ (I 4033) ≤ 7 + (I 2774)) ∧ 0 ≤ (I 5889) ∧ (I 5889) ≤ (I 2774) by (repeat' apply And.intro) <;> first | assumption | omega) (show m_SC I A by exact hSC) (show m_TR lo I A by exact hTR) (show 1 ≤ (A 45) ((I 2774)) ∧ (A 45) ((I 2774)) ≤ 6 by first | assumption | omega) (show (I 2754) - (I 2774) ≤ N by first | assumption | omega)) (fun r82 M83 q84 => ?_)
      rcases q84 with ⟨v85, lo86, I84a, A84a, B84a, C84a, e87, ⟨r88, r89⟩, hR84a, f90, f91, f92, f93, f94, f95, f96, f97⟩ | ⟨I84b, A84b, B84b, C84b, e98, hR84b, f99⟩
      · rw [e87]
        replace hR84a : w_Rep w_TM fr X u l I84a A84a B84a C84a M83 := hR84a
        replace f90 : m_fx I A I84a A84a := f90
        replace f91 : ((0 ≤ (I84a 2774) ∧ (I84a 2774) < (I84a 2754) ∧ (I84a 2754) ≤ 1501 ∧ 0 ≤ (I84a 2775) ∧ (I84a 2775) ≤ 24) ∧ ((I84a 3393) = (I84a 3905) ∧ (I84a 3521) = (I84a 3905) ∧ (I84a 3649) = (I84a 3905) ∧ (I84a 3777) = (I84a 3905) ∧ 0 ≤ (I84a 3905) ∧ (I84a 3905) ≤ 3 * (I84a 2774)) ∧ ((I84a 4161) = (I84a 4033) ∧ 7 ≤ (I84a 4289) ∧ (I84a 4289) ≤ (I84a 4033) ∧ (I84a 4033) ≤ 7 + (I84a 2774)) ∧ 0 ≤ (I84a 5889) ∧ (I84a 5889) ≤ (I84a 2774)) ∧ ((I84a 2754) = (I 2754) ∧ (I 2774) + 1 ≤ (I84a 2774) ∧ (I84a 2775) = (I 2775) ∧ (I84a 4289) = (I 4289) + 0 ∧ (I84a 5889) = (I 5889)) ∧ ((I84a 3905) + 2 ≤ (I 3905) + 3 * ((I84a 2774) - (I 2774)) ∧ (I 3905) ≤ v85 ∧ v85 + 1 = (I84a 3905) ∧ (I 4033) ≤ (I84a 4033) ∧ (I84a 4033) ≤ (I 4033) + ((I84a 2774) - (I 2774))) := f91
        obtain ⟨⟨⟨n100, n101, n102, n103, n104⟩, ⟨n105, n106, n107, n108, n109, n110⟩, ⟨n111, n112, n113, n114⟩, n115, n116⟩, ⟨n117, n118, n119, n120, n121⟩, ⟨n122, n123, n124, n125, n126⟩⟩ := id f91
        clear f91
        replace f92 : m_SC I84a A84a := f92
        replace f93 : m_TR lo86 I84a A84a := f93
        replace f94 : m_ST lo I A lo86 I84a A84a := f94
        replace f95 : (fun k => k = 15) ((A84a 53) (v85)) := f95
        replace f96 : m_rt lo86 (I84a 3905) v85 := f96
        replace f97 : m_RK lo86 (I 3905) (I84a 3905) (8 * (24 - (I 2775)) + 0) := f97
        have tk127 : m_TK I84a A84a := m_TK_fx f90 hTK
        have nn128 : (I 3905) ≤ (I84a 3905) := by omega
        have nz129 : 0 ≤ (I 3905) := by first | assumption | omega
        have ho130 : (I 2775) = (I 2775) + (0) := by omega
        have rk132 : m_RK lo86 (I 3905) (I84a 3905) (8 * (24 - (I 2775)) + (0)) := m_RK_app (I := I) (I' := I84a) (R := (8 * (24 - (I 2775)) + (0))) (show m_RK lo (I 3905) (I 3905) (8 * (24 - (I 2775)) + (0)) from fun q q1 q2 => by omega) f94 f97 (show 0 ≤ (I 3905) by first | assumption | omega) (m_r8 (by decide)) (m_r8o (k := 0) ho130 (by decide))
        have s131 : m_ST lo I A lo86 I84a A84a := f94
        have k133 : m_kd lo86 I84a A84a (I 3905) (8 * (24 - (I 2775)) + 0) v85 (fun k => k = 15) := m_kd_of (I := I) f94 f93 nz129 (show (I 3905) ≤ v85 by first | assumption | omega) (show v85 < (I84a 3905) by omega) f95 f97
        obtain ⟨j134, j135, j136, j137, j138⟩ := k133.1
        show w_W _ _ _ (27, [(0, .ref 43)], [.int (Int32.ofInt (v85))], M83) _
        refine w_fin (r := .inl (some (v85))) (M' := M83) rfl ?_
        exact Or.inl ⟨v85, lo86, I84a, A84a, B84a, C84a, rfl, ⟨by omega, by omega⟩, hR84a, (show m_fx I A I84a A84a by exact f90), (show ((0 ≤ (I84a 2774) ∧ (I84a 2774) < (I84a 2754) ∧ (I84a 2754) ≤ 1501 ∧ 0 ≤ (I84a 2775) ∧ (I84a 2775) ≤ 24) ∧ ((I84a 3393) = (I84a 3905) ∧ (I84a 3521) = (I84a 3905) ∧ (I84a 3649) = (I84a 3905) ∧ (I84a 3777) = (I84a 3905) ∧ 0 ≤ (I84a 3905) ∧ (I84a 3905) ≤ 3 * (I84a 2774)) ∧ ((I84a 4161) = (I84a 4033) ∧ 7 ≤ (I84a 4289) ∧ (I84a 4289) ≤ (I84a 4033) ∧ (I84a 4033) ≤ 7 + (I84a 2774)) ∧ 0 ≤ (I84a 5889) ∧ (I84a 5889) ≤ (I84a 2774)) ∧ ((I84a 2754) = (I 2754) ∧ (I 2774) + 1 ≤ (I84a 2774) ∧ (I84a 2775) = (I 2775) ∧ (I84a 4289) = (I 4289) + 0 ∧ (I84a 5889) = (I 5889)) ∧ ((I84a 3905) + 2 ≤ (I 3905) + 3 * ((I84a 2774) - (I 2774)) ∧ (I 3905) ≤ v85 ∧ v85 + 1 = (I84a 3905) ∧ (I 4033) ≤ (I84a 4033) ∧ (I84a 4033) ≤ (I 4033) + ((I84a 2774) - (I 2774))) by (repeat' apply And.intro) <;> first | assumption | omega), (show m_SC I84a A84a by exact f92), (show m_TR lo86 I84a A84a by exact f93), (show m_ST lo I A lo86 I84a A84a by exact s131), (show t_I ((A84a 53) (v85)) by exact ((m_kd_K k133 (fun k h => by have h : k = 15 := h; unfold t_I; omega))).2), (show m_rt lo86 (I84a 3905) v85 by exact f96), (show m_RK lo86 (I 3905) (I84a 3905) (8 * (24 - (I 2775)) + 6) by exact m_RK_le (show m_RK lo86 (I 3905) (I84a 3905) (8 * (24 - (I 2775)) + (0)) from rk132) (show (8 * (24 - (I 2775)) + (0)) ≤ 8 * (24 - (I 2775)) + 6 by omega))⟩
      · rw [e98]
        replace hR84b : w_Rep w_TM fr X u l I84b A84b B84b C84b M83 := hR84b
        replace f99 : m_fx I A I84b A84b := f99
        exact Or.inr (⟨I84b, A84b, B84b, C84b, rfl, hR84b, (show m_fx I A I84b A84b by exact f99)⟩)
    · rw [e76, e77]
      replace f78 : ¬ ((A 45) ((I 2774)) = 5 ∧ (A 46) ((I 2774)) = 4) := f78
      show w_W _ _ _ (19, [(0, .ref 43)], [.int (Int32.ofInt (0))], M) _
      refine w_adv (n := 3) (F' := (31, [(0, .ref 43)], [.int (Int32.ofInt (7)), .ref 43], M)) rfl ?_
      refine w_call (cm := 231) (as := [(0, .ref 43), (1, .int (Int32.ofInt (7)))]) (rest := []) (o := some (9, 43)) rfl (w_fitR hR rfl) (m_isWord (7) hR ⟨by omega, by omega⟩ (show 0 ≤ (I 2774) ∧ (I 2774) < 1501 by omega)) (fun r139 M140 q141 => ?_)
      rcases q141 with ⟨e142, e143, f144⟩ | ⟨e145, e146, f147⟩
      · rw [e142, e143]
        replace f144 : (A 45) ((I 2774)) = 5 ∧ (A 46) ((I 2774)) = 7 := f144
        obtain ⟨n148, n149⟩ := id f144
        clear f144
        have w150 : (I 2774) + 1 < (I 2754) := m_TK_lt hTK (show (I 2774) < (I 2754) by omega) (show 1 ≤ (A 45) ((I 2774)) by omega) (show (A 45) ((I 2774)) ≤ 6 by omega)
        show w_W _ _ _ (34, [(0, .ref 43)], [.int (Int32.ofInt (1))], M) _
        refine w_adv (n := 3) (F' := (39, [(0, .ref 43)], [.int (Int32.ofInt (0)), .ref 43], M)) rfl ?_
        refine w_call (cm := 269) (as := [(0, .ref 43), (1, .int (Int32.ofInt (0)))]) (rest := []) (o := some (9, 43)) rfl (w_fitR hR rfl) (m_cases hA (0) (lo) hR (show 20 * (24 - (I 2775)) + 11 ≤ (d : Int) by omega) ⟨by omega, by omega⟩ (show m_TK I A by exact hTK) (show (0 ≤ (I 2774) ∧ (I 2774) < (I 2754) ∧ (I 2754) ≤ 1501 ∧ 0 ≤ (I 2775) ∧ (I 2775) ≤ 24) ∧ ((I 3393) = (I 3905) ∧ (I 3521) = (I 3905) ∧ (I 3649) = (I 3905) ∧ (I 3777) = (I 3905) ∧ 0 ≤ (I 3905) ∧ (I 3905) ≤ 3 * (I 2774)) ∧ ((I 4161) = (I 4033) ∧ 7 ≤ (I 4289) ∧ (I 4289) ≤ (I 4033) ∧ (I 4033) ≤ 7 + (I 2774)) ∧ 0 ≤ (I 5889) ∧ (I 5889) ≤ (I 2774) by (repeat' apply And.intro) <;> first | assumption | omega) (show m_SC I A by exact hSC) (show m_TR lo I A by exact hTR) (show 1 ≤ (A 45) ((I 2774)) ∧ (A 45) ((I 2774)) ≤ 6 by first | assumption | omega) (show (I 2754) - (I 2774) ≤ N by first | assumption | omega)) (fun r151 M152 q153 => ?_)
        rcases q153 with ⟨v154, lo155, I153a, A153a, B153a, C153a, e156, ⟨r157, r158⟩, hR153a, f159, f160, f161, f162, f163, f164, f165, f166⟩ | ⟨I153b, A153b, B153b, C153b, e167, hR153b, f168⟩
        · rw [e156]
          replace hR153a : w_Rep w_TM fr X u l I153a A153a B153a C153a M152 := hR153a
          replace f159 : m_fx I A I153a A153a := f159
          replace f160 : ((0 ≤ (I153a 2774) ∧ (I153a 2774) < (I153a 2754) ∧ (I153a 2754) ≤ 1501 ∧ 0 ≤ (I153a 2775) ∧ (I153a 2775) ≤ 24) ∧ ((I153a 3393) = (I153a 3905) ∧ (I153a 3521) = (I153a 3905) ∧ (I153a 3649) = (I153a 3905) ∧ (I153a 3777) = (I153a 3905) ∧ 0 ≤ (I153a 3905) ∧ (I153a 3905) ≤ 3 * (I153a 2774)) ∧ ((I153a 4161) = (I153a 4033) ∧ 7 ≤ (I153a 4289) ∧ (I153a 4289) ≤ (I153a 4033) ∧ (I153a 4033) ≤ 7 + (I153a 2774)) ∧ 0 ≤ (I153a 5889) ∧ (I153a 5889) ≤ (I153a 2774)) ∧ ((I153a 2754) = (I 2754) ∧ (I 2774) + 1 ≤ (I153a 2774) ∧ (I153a 2775) = (I 2775) ∧ (I153a 4289) = (I 4289) + 0 ∧ (I153a 5889) = (I 5889)) ∧ ((I153a 3905) + 2 ≤ (I 3905) + 3 * ((I153a 2774) - (I 2774)) ∧ (I 3905) ≤ v154 ∧ v154 + 1 = (I153a 3905) ∧ (I 4033) ≤ (I153a 4033) ∧ (I153a 4033) ≤ (I 4033) + ((I153a 2774) - (I 2774))) := f160
          obtain ⟨⟨⟨n169, n170, n171, n172, n173⟩, ⟨n174, n175, n176, n177, n178, n179⟩, ⟨n180, n181, n182, n183⟩, n184, n185⟩, ⟨n186, n187, n188, n189, n190⟩, ⟨n191, n192, n193, n194, n195⟩⟩ := id f160
          clear f160
          replace f161 : m_SC I153a A153a := f161
          replace f162 : m_TR lo155 I153a A153a := f162
          replace f163 : m_ST lo I A lo155 I153a A153a := f163
          replace f164 : (fun k => k = 16) ((A153a 53) (v154)) := f164
          replace f165 : m_rt lo155 (I153a 3905) v154 := f165
          replace f166 : m_RK lo155 (I 3905) (I153a 3905) (8 * (24 - (I 2775)) + 0) := f166
          have tk196 : m_TK I153a A153a := m_TK_fx f159 hTK
          have nn197 : (I 3905) ≤ (I153a 3905) := by omega
          have nz198 : 0 ≤ (I 3905) := by first | assumption | omega
          have ho199 : (I 2775) = (I 2775) + (0) := by omega
          have rk201 : m_RK lo155 (I 3905) (I153a 3905) (8 * (24 - (I 2775)) + (0)) := m_RK_app (I := I) (I' := I153a) (R := (8 * (24 - (I 2775)) + (0))) (show m_RK lo (I 3905) (I 3905) (8 * (24 - (I 2775)) + (0)) from fun q q1 q2 => by omega) f163 f166 (show 0 ≤ (I 3905) by first | assumption | omega) (m_r8 (by decide)) (m_r8o (k := 0) ho199 (by decide))
          have s200 : m_ST lo I A lo155 I153a A153a := f163
          have k202 : m_kd lo155 I153a A153a (I 3905) (8 * (24 - (I 2775)) + 0) v154 (fun k => k = 16) := m_kd_of (I := I) f163 f162 nz198 (show (I 3905) ≤ v154 by first | assumption | omega) (show v154 < (I153a 3905) by omega) f164 f166
          obtain ⟨j203, j204, j205, j206, j207⟩ := k202.1
          show w_W _ _ _ (42, [(0, .ref 43)], [.int (Int32.ofInt (v154))], M152) _
          refine w_fin (r := .inl (some (v154))) (M' := M152) rfl ?_
          exact Or.inl ⟨v154, lo155, I153a, A153a, B153a, C153a, rfl, ⟨by omega, by omega⟩, hR153a, (show m_fx I A I153a A153a by exact f159), (show ((0 ≤ (I153a 2774) ∧ (I153a 2774) < (I153a 2754) ∧ (I153a 2754) ≤ 1501 ∧ 0 ≤ (I153a 2775) ∧ (I153a 2775) ≤ 24) ∧ ((I153a 3393) = (I153a 3905) ∧ (I153a 3521) = (I153a 3905) ∧ (I153a 3649) = (I153a 3905) ∧ (I153a 3777) = (I153a 3905) ∧ 0 ≤ (I153a 3905) ∧ (I153a 3905) ≤ 3 * (I153a 2774)) ∧ ((I153a 4161) = (I153a 4033) ∧ 7 ≤ (I153a 4289) ∧ (I153a 4289) ≤ (I153a 4033) ∧ (I153a 4033) ≤ 7 + (I153a 2774)) ∧ 0 ≤ (I153a 5889) ∧ (I153a 5889) ≤ (I153a 2774)) ∧ ((I153a 2754) = (I 2754) ∧ (I 2774) + 1 ≤ (I153a 2774) ∧ (I153a 2775) = (I 2775) ∧ (I153a 4289) = (I 4289) + 0 ∧ (I153a 5889) = (I 5889)) ∧ ((I153a 3905) + 2 ≤ (I 3905) + 3 * ((I153a 2774) - (I 2774)) ∧ (I 3905) ≤ v154 ∧ v154 + 1 = (I153a 3905) ∧ (I 4033) ≤ (I153a 4033) ∧ (I153a 4033) ≤ (I 4033) + ((I153a 2774) - (I 2774))) by (repeat' apply And.intro) <;> first | assumption | omega), (show m_SC I153a A153a by exact f161), (show m_TR lo155 I153a A153a by exact f162), (show m_ST lo I A lo155 I153a A153a by exact s200), (show t_I ((A153a 53) (v154)) by exact ((m_kd_K k202 (fun k h => by have h : k = 16 := h; unfold t_I; omega))).2), (show m_rt lo155 (I153a 3905) v154 by exact f165), (show m_RK lo155 (I 3905) (I153a 3905) (8 * (24 - (I 2775)) + 6) by exact m_RK_le (show m_RK lo155 (I 3905) (I153a 3905) (8 * (24 - (I 2775)) + (0)) from rk201) (show (8 * (24 - (I 2775)) + (0)) ≤ 8 * (24 - (I 2775)) + 6 by omega))⟩
        · rw [e167]
          replace hR153b : w_Rep w_TM fr X u l I153b A153b B153b C153b M152 := hR153b
          replace f168 : m_fx I A I153b A153b := f168
          exact Or.inr (⟨I153b, A153b, B153b, C153b, rfl, hR153b, (show m_fx I A I153b A153b by exact f168)⟩)
      · rw [e145, e146]
        replace f147 : ¬ ((A 45) ((I 2774)) = 5 ∧ (A 46) ((I 2774)) = 7) := f147
        show w_W _ _ _ (34, [(0, .ref 43)], [.int (Int32.ofInt (0))], M) _
        refine w_adv (n := 3) (F' := (46, [(0, .ref 43)], [.int (Int32.ofInt (12)), .ref 43], M)) rfl ?_
        refine w_call (cm := 231) (as := [(0, .ref 43), (1, .int (Int32.ofInt (12)))]) (rest := []) (o := some (9, 43)) rfl (w_fitR hR rfl) (m_isWord (12) hR ⟨by omega, by omega⟩ (show 0 ≤ (I 2774) ∧ (I 2774) < 1501 by omega)) (fun r208 M209 q210 => ?_)
        rcases q210 with ⟨e211, e212, f213⟩ | ⟨e214, e215, f216⟩
        · rw [e211, e212]
          replace f213 : (A 45) ((I 2774)) = 5 ∧ (A 46) ((I 2774)) = 12 := f213
          obtain ⟨n217, n218⟩ := id f213
          clear f213
          have w219 : (I 2774) + 1 < (I 2754) := m_TK_lt hTK (show (I 2774) < (I 2754) by omega) (show 1 ≤ (A 45) ((I 2774)) by omega) (show (A 45) ((I 2774)) ≤ 6 by omega)
          show w_W _ _ _ (49, [(0, .ref 43)], [.int (Int32.ofInt (1))], M) _
          refine w_adv (n := 3) (F' := (54, [(0, .ref 43)], [.int (Int32.ofInt (0)), .ref 43], M)) rfl ?_
          refine w_call (cm := 272) (as := [(0, .ref 43), (1, .int (Int32.ofInt (0)))]) (rest := []) (o := some (9, 43)) rfl (w_fitR hR rfl) (m_thread hA (0) (lo) hR (show 20 * (24 - (I 2775)) + 11 ≤ (d : Int) by omega) ⟨by omega, by omega⟩ (show m_TK I A by exact hTK) (show (0 ≤ (I 2774) ∧ (I 2774) < (I 2754) ∧ (I 2754) ≤ 1501 ∧ 0 ≤ (I 2775) ∧ (I 2775) ≤ 24) ∧ ((I 3393) = (I 3905) ∧ (I 3521) = (I 3905) ∧ (I 3649) = (I 3905) ∧ (I 3777) = (I 3905) ∧ 0 ≤ (I 3905) ∧ (I 3905) ≤ 3 * (I 2774)) ∧ ((I 4161) = (I 4033) ∧ 7 ≤ (I 4289) ∧ (I 4289) ≤ (I 4033) ∧ (I 4033) ≤ 7 + (I 2774)) ∧ 0 ≤ (I 5889) ∧ (I 5889) ≤ (I 2774) by (repeat' apply And.intro) <;> first | assumption | omega) (show m_SC I A by exact hSC) (show m_TR lo I A by exact hTR) (show 1 ≤ (A 45) ((I 2774)) ∧ (A 45) ((I 2774)) ≤ 6 by first | assumption | omega) (show (I 2754) - (I 2774) ≤ N by first | assumption | omega)) (fun r220 M221 q222 => ?_)
          rcases q222 with ⟨v223, lo224, I222a, A222a, B222a, C222a, e225, ⟨r226, r227⟩, hR222a, f228, f229, f230, f231, f232, f233, f234, f235⟩ | ⟨I222b, A222b, B222b, C222b, e236, hR222b, f237⟩
          · rw [e225]
            replace hR222a : w_Rep w_TM fr X u l I222a A222a B222a C222a M221 := hR222a
            replace f228 : m_fx I A I222a A222a := f228
            replace f229 : ((0 ≤ (I222a 2774) ∧ (I222a 2774) < (I222a 2754) ∧ (I222a 2754) ≤ 1501 ∧ 0 ≤ (I222a 2775) ∧ (I222a 2775) ≤ 24) ∧ ((I222a 3393) = (I222a 3905) ∧ (I222a 3521) = (I222a 3905) ∧ (I222a 3649) = (I222a 3905) ∧ (I222a 3777) = (I222a 3905) ∧ 0 ≤ (I222a 3905) ∧ (I222a 3905) ≤ 3 * (I222a 2774)) ∧ ((I222a 4161) = (I222a 4033) ∧ 7 ≤ (I222a 4289) ∧ (I222a 4289) ≤ (I222a 4033) ∧ (I222a 4033) ≤ 7 + (I222a 2774)) ∧ 0 ≤ (I222a 5889) ∧ (I222a 5889) ≤ (I222a 2774)) ∧ ((I222a 2754) = (I 2754) ∧ (I 2774) + 1 ≤ (I222a 2774) ∧ (I222a 2775) = (I 2775) ∧ (I222a 4289) = (I 4289) + 0 ∧ (I222a 5889) = (I 5889)) ∧ ((I222a 3905) + 2 ≤ (I 3905) + 3 * ((I222a 2774) - (I 2774)) ∧ (I 3905) ≤ v223 ∧ v223 + 1 = (I222a 3905) ∧ (I 4033) ≤ (I222a 4033) ∧ (I222a 4033) ≤ (I 4033) + ((I222a 2774) - (I 2774))) := f229
            obtain ⟨⟨⟨n238, n239, n240, n241, n242⟩, ⟨n243, n244, n245, n246, n247, n248⟩, ⟨n249, n250, n251, n252⟩, n253, n254⟩, ⟨n255, n256, n257, n258, n259⟩, ⟨n260, n261, n262, n263, n264⟩⟩ := id f229
            clear f229
            replace f230 : m_SC I222a A222a := f230
            replace f231 : m_TR lo224 I222a A222a := f231
            replace f232 : m_ST lo I A lo224 I222a A222a := f232
            replace f233 : (fun k => k = 18) ((A222a 53) (v223)) := f233
            replace f234 : m_rt lo224 (I222a 3905) v223 := f234
            replace f235 : m_RK lo224 (I 3905) (I222a 3905) (8 * (24 - (I 2775)) + 0) := f235
            have tk265 : m_TK I222a A222a := m_TK_fx f228 hTK
            have nn266 : (I 3905) ≤ (I222a 3905) := by omega
            have nz267 : 0 ≤ (I 3905) := by first | assumption | omega
            have ho268 : (I 2775) = (I 2775) + (0) := by omega
            have rk270 : m_RK lo224 (I 3905) (I222a 3905) (8 * (24 - (I 2775)) + (0)) := m_RK_app (I := I) (I' := I222a) (R := (8 * (24 - (I 2775)) + (0))) (show m_RK lo (I 3905) (I 3905) (8 * (24 - (I 2775)) + (0)) from fun q q1 q2 => by omega) f232 f235 (show 0 ≤ (I 3905) by first | assumption | omega) (m_r8 (by decide)) (m_r8o (k := 0) ho268 (by decide))
            have s269 : m_ST lo I A lo224 I222a A222a := f232
            have k271 : m_kd lo224 I222a A222a (I 3905) (8 * (24 - (I 2775)) + 0) v223 (fun k => k = 18) := m_kd_of (I := I) f232 f231 nz267 (show (I 3905) ≤ v223 by first | assumption | omega) (show v223 < (I222a 3905) by omega) f233 f235
            obtain ⟨j272, j273, j274, j275, j276⟩ := k271.1
            show w_W _ _ _ (57, [(0, .ref 43)], [.int (Int32.ofInt (v223))], M221) _
            refine w_fin (r := .inl (some (v223))) (M' := M221) rfl ?_
            exact Or.inl ⟨v223, lo224, I222a, A222a, B222a, C222a, rfl, ⟨by omega, by omega⟩, hR222a, (show m_fx I A I222a A222a by exact f228), (show ((0 ≤ (I222a 2774) ∧ (I222a 2774) < (I222a 2754) ∧ (I222a 2754) ≤ 1501 ∧ 0 ≤ (I222a 2775) ∧ (I222a 2775) ≤ 24) ∧ ((I222a 3393) = (I222a 3905) ∧ (I222a 3521) = (I222a 3905) ∧ (I222a 3649) = (I222a 3905) ∧ (I222a 3777) = (I222a 3905) ∧ 0 ≤ (I222a 3905) ∧ (I222a 3905) ≤ 3 * (I222a 2774)) ∧ ((I222a 4161) = (I222a 4033) ∧ 7 ≤ (I222a 4289) ∧ (I222a 4289) ≤ (I222a 4033) ∧ (I222a 4033) ≤ 7 + (I222a 2774)) ∧ 0 ≤ (I222a 5889) ∧ (I222a 5889) ≤ (I222a 2774)) ∧ ((I222a 2754) = (I 2754) ∧ (I 2774) + 1 ≤ (I222a 2774) ∧ (I222a 2775) = (I 2775) ∧ (I222a 4289) = (I 4289) + 0 ∧ (I222a 5889) = (I 5889)) ∧ ((I222a 3905) + 2 ≤ (I 3905) + 3 * ((I222a 2774) - (I 2774)) ∧ (I 3905) ≤ v223 ∧ v223 + 1 = (I222a 3905) ∧ (I 4033) ≤ (I222a 4033) ∧ (I222a 4033) ≤ (I 4033) + ((I222a 2774) - (I 2774))) by (repeat' apply And.intro) <;> first | assumption | omega), (show m_SC I222a A222a by exact f230), (show m_TR lo224 I222a A222a by exact f231), (show m_ST lo I A lo224 I222a A222a by exact s269), (show t_I ((A222a 53) (v223)) by exact ((m_kd_K k271 (fun k h => by have h : k = 18 := h; unfold t_I; omega))).2), (show m_rt lo224 (I222a 3905) v223 by exact f234), (show m_RK lo224 (I 3905) (I222a 3905) (8 * (24 - (I 2775)) + 6) by exact m_RK_le (show m_RK lo224 (I 3905) (I222a 3905) (8 * (24 - (I 2775)) + (0)) from rk270) (show (8 * (24 - (I 2775)) + (0)) ≤ 8 * (24 - (I 2775)) + 6 by omega))⟩
          · rw [e236]
            replace hR222b : w_Rep w_TM fr X u l I222b A222b B222b C222b M221 := hR222b
            replace f237 : m_fx I A I222b A222b := f237
            exact Or.inr (⟨I222b, A222b, B222b, C222b, rfl, hR222b, (show m_fx I A I222b A222b by exact f237)⟩)
        · rw [e214, e215]
          replace f216 : ¬ ((A 45) ((I 2774)) = 5 ∧ (A 46) ((I 2774)) = 12) := f216
          show w_W _ _ _ (49, [(0, .ref 43)], [.int (Int32.ofInt (0))], M) _
          refine w_adv (n := 3) (F' := (60, [(0, .ref 43)], [.int (Int32.ofInt (0)), .ref 43], M)) rfl ?_
          refine w_call (cm := 231) (as := [(0, .ref 43), (1, .int (Int32.ofInt (0)))]) (rest := []) (o := some (9, 43)) rfl (w_fitR hR rfl) (m_isWord (0) hR ⟨by omega, by omega⟩ (show 0 ≤ (I 2774) ∧ (I 2774) < 1501 by omega)) (fun r277 M278 q279 => ?_)
          rcases q279 with ⟨e280, e281, f282⟩ | ⟨e283, e284, f285⟩
          · rw [e280, e281]
            replace f282 : (A 45) ((I 2774)) = 5 ∧ (A 46) ((I 2774)) = 0 := f282
            obtain ⟨n286, n287⟩ := id f282
            clear f282
            have w288 : (I 2774) + 1 < (I 2754) := m_TK_lt hTK (show (I 2774) < (I 2754) by omega) (show 1 ≤ (A 45) ((I 2774)) by omega) (show (A 45) ((I 2774)) ≤ 6 by omega)
            show w_W _ _ _ (63, [(0, .ref 43)], [.int (Int32.ofInt (1))], M) _
            refine w_adv (n := 3) (F' := (68, [(0, .ref 43)], [.ref 43, .ref 43], M)) rfl ?_
            refine w_gf (v := .int (Int32.ofInt ((I 2774)))) hR rfl rfl rfl rfl ?_
            obtain ⟨r289, r290⟩ : -2147483648 ≤ (I 2774) ∧ (I 2774) ≤ 2147483647 := hR.ri 2774
            refine w_adv (n := 1) (F' := (72, [(0, .ref 43)], [.int (Int32.ofInt (1)), .int (Int32.ofInt ((I 2774))), .ref 43], M)) rfl ?_
            refine w_add rfl ?_
            refine w_pf hR rfl rfl rfl rfl (show w_in ((I 2774) + 1) from ⟨by omega, by omega⟩) (fun h => absurd h (by decide)) (fun M291 hR292 => ?_)
            replace hR292 : w_Rep w_TM fr X u l (w_up I 2774 ((I 2774) + 1)) A B C M291 := hR292
            refine w_adv (n := 5) (F' := (82, [(0, .ref 43)], [.int (Int32.ofInt (0)), .int (Int32.ofInt (0)), .int (Int32.ofInt (0)), .int (Int32.ofInt (20)), .ref 43], M291)) rfl ?_
            refine w_call (cm := 239) (as := [(0, .ref 43), (1, .int (Int32.ofInt (20))), (2, .int (Int32.ofInt (0))), (3, .int (Int32.ofInt (0))), (4, .int (Int32.ofInt (0)))]) (rest := []) (o := some (9, 43)) rfl (w_fitR hR292 rfl) (m_node (20) (0) (0) (0) hR292 (show 2 ≤ d by omega) ⟨by omega, by omega⟩ ⟨by omega, by omega⟩ ⟨by omega, by omega⟩ ⟨by omega, by omega⟩ (show (I 3393) = (I 3905) by first | assumption | omega) (show (I 3521) = (I 3905) by first | assumption | omega) (show (I 3649) = (I 3905) by first | assumption | omega) (show (I 3777) = (I 3905) by first | assumption | omega) (show (I 3905) < 65536 by first | assumption | omega)) (fun r293 M294 q295 => ?_)
            rcases q295 with ⟨v296, I295a, A295a, B295a, C295a, e297, ⟨r298, r299⟩, hR295a, f300, f301⟩
            rw [e297]
            replace hR295a : w_Rep w_TM fr X u l I295a A295a B295a C295a M294 := hR295a
            replace f300 : m_fx (w_up I 2774 ((I 2774) + 1)) A I295a A295a := f300
            replace f301 : m_nd (w_up I 2774 ((I 2774) + 1)) A I295a A295a v296 20 0 0 0 := f301
            obtain ⟨⟨n302, n303, n304, n305, n306, n307⟩, ⟨n308, n309, n310, n311, n312, n313, n314⟩⟩ : (v296 = (I 3905) ∧ (I295a 3905) = (I 3905) + 1 ∧ (I295a 3393) = (I 3393) + 1 ∧ (I295a 3521) = (I 3521) + 1 ∧ (I295a 3649) = (I 3649) + 1 ∧ (I295a 3777) = (I 3777) + 1) ∧ ((I295a 2774) = (I 2774) + 1 ∧ (I295a 2754) = (I 2754) ∧ (I295a 2775) = (I 2775) ∧ (I295a 4289) = (I 4289) ∧ (I295a 4033) = (I 4033) ∧ (I295a 4161) = (I 4161) ∧ (I295a 5889) = (I 5889)) := m_nd_num f301
            have tk315 : m_TK I295a A295a := m_TK_fx f300 hTK
            have sc316 : m_SC I295a A295a := m_SC_nd f301 hSC
            have tr317 : m_TR (t_up lo v296 (I 3905) (8 * (24 - (I 2775)) + (0))) I295a A295a := m_TR_nd (show m_TR lo (w_up I 2774 ((I 2774) + 1)) A from hTR) f301 (show 0 ≤ (I 3905) by omega) (show (I 3905) ≤ v296 by omega) (m_cl_ST (I1 := I) (show m_ST lo I A lo (w_up I 2774 ((I 2774) + 1)) A from m_ST_refl) (show m_TR lo I A from hTR) (show 0 ≤ (I 3905) by omega)) (t_N_mk20 t_up_same (show 0 ≤ (I 3905) by omega) (show (I 3905) ≤ v296 by omega) (show 0 ≤ (8 * (24 - (I 2775)) + (0)) by omega) (fun q q1 q2 => by omega))
            have s318 : m_ST lo I A (t_up lo v296 (I 3905) (8 * (24 - (I 2775)) + (0))) I295a A295a := m_ST_nd (l := (I 3905)) (show m_ST lo I A lo (w_up I 2774 ((I 2774) + 1)) A from m_ST_refl) f301 (show (I 3905) ≤ (I 3905) by omega) (show (I 3905) ≤ (I 3905) by omega)
            have rk319 : m_RK (t_up lo v296 (I 3905) (8 * (24 - (I 2775)) + (0))) (I 3905) (I295a 3905) (8 * (24 - (I 2775)) + (0)) := fun q q1 q2 => by rw [show q = v296 by omega, t_up_same]; exact Int.le_refl _
            have k320 : m_kd (t_up lo v296 (I 3905) (8 * (24 - (I 2775)) + (0))) I295a A295a (I 3905) (8 * (24 - (I 2775)) + (0)) v296 (fun k => k = 20) := m_kd_new f301 (show 0 ≤ (I 3905) by omega) (show (I 3905) ≤ v296 by omega) rfl
            have rt321 : m_rt (t_up lo v296 (I 3905) (8 * (24 - (I 2775)) + (0))) (I295a 3905) v296 := m_rt_new f301
            show w_W _ _ _ (85, [(0, .ref 43)], [.int (Int32.ofInt (v296))], M294) _
            refine w_fin (r := .inl (some (v296))) (M' := M294) rfl ?_
            exact Or.inl ⟨v296, (t_up lo v296 (I 3905) (8 * (24 - (I 2775)) + (0))), I295a, A295a, B295a, C295a, rfl, ⟨by omega, by omega⟩, hR295a, (show m_fx I A I295a A295a by exact f300), (show ((0 ≤ (I295a 2774) ∧ (I295a 2774) < (I295a 2754) ∧ (I295a 2754) ≤ 1501 ∧ 0 ≤ (I295a 2775) ∧ (I295a 2775) ≤ 24) ∧ ((I295a 3393) = (I295a 3905) ∧ (I295a 3521) = (I295a 3905) ∧ (I295a 3649) = (I295a 3905) ∧ (I295a 3777) = (I295a 3905) ∧ 0 ≤ (I295a 3905) ∧ (I295a 3905) ≤ 3 * (I295a 2774)) ∧ ((I295a 4161) = (I295a 4033) ∧ 7 ≤ (I295a 4289) ∧ (I295a 4289) ≤ (I295a 4033) ∧ (I295a 4033) ≤ 7 + (I295a 2774)) ∧ 0 ≤ (I295a 5889) ∧ (I295a 5889) ≤ (I295a 2774)) ∧ ((I295a 2754) = (I 2754) ∧ (I 2774) + 1 ≤ (I295a 2774) ∧ (I295a 2775) = (I 2775) ∧ (I295a 4289) = (I 4289) + 0 ∧ (I295a 5889) = (I 5889)) ∧ ((I295a 3905) + 2 ≤ (I 3905) + 3 * ((I295a 2774) - (I 2774)) ∧ (I 3905) ≤ v296 ∧ v296 + 1 = (I295a 3905) ∧ (I 4033) ≤ (I295a 4033) ∧ (I295a 4033) ≤ (I 4033) + ((I295a 2774) - (I 2774))) by (repeat' apply And.intro) <;> first | assumption | omega), (show m_SC I295a A295a by exact sc316), (show m_TR (t_up lo v296 (I 3905) (8 * (24 - (I 2775)) + (0))) I295a A295a by exact tr317), (show m_ST lo I A (t_up lo v296 (I 3905) (8 * (24 - (I 2775)) + (0))) I295a A295a by exact s318), (show t_I ((A295a 53) (v296)) by exact ((m_kd_K k320 (fun k h => by have h : k = 20 := h; unfold t_I; omega))).2), (show m_rt (t_up lo v296 (I 3905) (8 * (24 - (I 2775)) + (0))) (I295a 3905) v296 by exact rt321), (show m_RK (t_up lo v296 (I 3905) (8 * (24 - (I 2775)) + (0))) (I 3905) (I295a 3905) (8 * (24 - (I 2775)) + 6) by exact m_RK_le (show m_RK (t_up lo v296 (I 3905) (8 * (24 - (I 2775)) + (0))) (I 3905) (I295a 3905) (8 * (24 - (I 2775)) + (0)) from rk319) (show (8 * (24 - (I 2775)) + (0)) ≤ 8 * (24 - (I 2775)) + 6 by omega))⟩
          · rw [e283, e284]
            replace f285 : ¬ ((A 45) ((I 2774)) = 5 ∧ (A 46) ((I 2774)) = 0) := f285
            show w_W _ _ _ (63, [(0, .ref 43)], [.int (Int32.ofInt (0))], M) _
            refine w_adv (n := 3) (F' := (89, [(0, .ref 43)], [.int (Int32.ofInt (13)), .ref 43], M)) rfl ?_
            refine w_call (cm := 231) (as := [(0, .ref 43), (1, .int (Int32.ofInt (13)))]) (rest := []) (o := some (9, 43)) rfl (w_fitR hR rfl) (m_isWord (13) hR ⟨by omega, by omega⟩ (show 0 ≤ (I 2774) ∧ (I 2774) < 1501 by omega)) (fun r322 M323 q324 => ?_)
            rcases q324 with ⟨e325, e326, f327⟩ | ⟨e328, e329, f330⟩
            · rw [e325, e326]
              replace f327 : (A 45) ((I 2774)) = 5 ∧ (A 46) ((I 2774)) = 13 := f327
              obtain ⟨n331, n332⟩ := id f327
              clear f327
              have w333 : (I 2774) + 1 < (I 2754) := m_TK_lt hTK (show (I 2774) < (I 2754) by omega) (show 1 ≤ (A 45) ((I 2774)) by omega) (show (A 45) ((I 2774)) ≤ 6 by omega)
              show w_W _ _ _ (92, [(0, .ref 43)], [.int (Int32.ofInt (1))], M) _
              refine w_adv (n := 2) (F' := (96, [(0, .ref 43)], [.ref 43], M)) rfl ?_
              refine w_call (cm := 275) (as := [(0, .ref 43)]) (rest := []) (o := some (9, 43)) rfl (w_fitR hR rfl) (m_attempt hA (lo) hR (show 20 * (24 - (I 2775)) + 11 ≤ (d : Int) by omega) (show m_TK I A by exact hTK) (show (0 ≤ (I 2774) ∧ (I 2774) < (I 2754) ∧ (I 2754) ≤ 1501 ∧ 0 ≤ (I 2775) ∧ (I 2775) ≤ 24) ∧ ((I 3393) = (I 3905) ∧ (I 3521) = (I 3905) ∧ (I 3649) = (I 3905) ∧ (I 3777) = (I 3905) ∧ 0 ≤ (I 3905) ∧ (I 3905) ≤ 3 * (I 2774)) ∧ ((I 4161) = (I 4033) ∧ 7 ≤ (I 4289) ∧ (I 4289) ≤ (I 4033) ∧ (I 4033) ≤ 7 + (I 2774)) ∧ 0 ≤ (I 5889) ∧ (I 5889) ≤ (I 2774) by (repeat' apply And.intro) <;> first | assumption | omega) (show m_SC I A by exact hSC) (show m_TR lo I A by exact hTR) (show 1 ≤ (A 45) ((I 2774)) ∧ (A 45) ((I 2774)) ≤ 6 by first | assumption | omega) (show (I 2754) - (I 2774) ≤ N by first | assumption | omega)) (fun r334 M335 q336 => ?_)
              rcases q336 with ⟨v337, lo338, I336a, A336a, B336a, C336a, e339, ⟨r340, r341⟩, hR336a, f342, f343, f344, f345, f346, f347, f348, f349⟩ | ⟨I336b, A336b, B336b, C336b, e350, hR336b, f351⟩
              · rw [e339]
                replace hR336a : w_Rep w_TM fr X u l I336a A336a B336a C336a M335 := hR336a
                replace f342 : m_fx I A I336a A336a := f342
                replace f343 : ((0 ≤ (I336a 2774) ∧ (I336a 2774) < (I336a 2754) ∧ (I336a 2754) ≤ 1501 ∧ 0 ≤ (I336a 2775) ∧ (I336a 2775) ≤ 24) ∧ ((I336a 3393) = (I336a 3905) ∧ (I336a 3521) = (I336a 3905) ∧ (I336a 3649) = (I336a 3905) ∧ (I336a 3777) = (I336a 3905) ∧ 0 ≤ (I336a 3905) ∧ (I336a 3905) ≤ 3 * (I336a 2774)) ∧ ((I336a 4161) = (I336a 4033) ∧ 7 ≤ (I336a 4289) ∧ (I336a 4289) ≤ (I336a 4033) ∧ (I336a 4033) ≤ 7 + (I336a 2774)) ∧ 0 ≤ (I336a 5889) ∧ (I336a 5889) ≤ (I336a 2774)) ∧ ((I336a 2754) = (I 2754) ∧ (I 2774) + 1 ≤ (I336a 2774) ∧ (I336a 2775) = (I 2775) ∧ (I336a 4289) = (I 4289) + 0 ∧ (I336a 5889) = (I 5889)) ∧ ((I336a 3905) + 2 ≤ (I 3905) + 3 * ((I336a 2774) - (I 2774)) ∧ (I 3905) ≤ v337 ∧ v337 + 1 = (I336a 3905) ∧ (I 4033) ≤ (I336a 4033) ∧ (I336a 4033) ≤ (I 4033) + ((I336a 2774) - (I 2774))) := f343
                obtain ⟨⟨⟨n352, n353, n354, n355, n356⟩, ⟨n357, n358, n359, n360, n361, n362⟩, ⟨n363, n364, n365, n366⟩, n367, n368⟩, ⟨n369, n370, n371, n372, n373⟩, ⟨n374, n375, n376, n377, n378⟩⟩ := id f343
                clear f343
                replace f344 : m_SC I336a A336a := f344
                replace f345 : m_TR lo338 I336a A336a := f345
                replace f346 : m_ST lo I A lo338 I336a A336a := f346
                replace f347 : (fun k => k = 21) ((A336a 53) (v337)) := f347
                replace f348 : m_rt lo338 (I336a 3905) v337 := f348
                replace f349 : m_RK lo338 (I 3905) (I336a 3905) (8 * (24 - (I 2775)) + 0) := f349
                have tk379 : m_TK I336a A336a := m_TK_fx f342 hTK
                have nn380 : (I 3905) ≤ (I336a 3905) := by omega
                have nz381 : 0 ≤ (I 3905) := by first | assumption | omega
                have ho382 : (I 2775) = (I 2775) + (0) := by omega
                have rk384 : m_RK lo338 (I 3905) (I336a 3905) (8 * (24 - (I 2775)) + (0)) := m_RK_app (I := I) (I' := I336a) (R := (8 * (24 - (I 2775)) + (0))) (show m_RK lo (I 3905) (I 3905) (8 * (24 - (I 2775)) + (0)) from fun q q1 q2 => by omega) f346 f349 (show 0 ≤ (I 3905) by first | assumption | omega) (m_r8 (by decide)) (m_r8o (k := 0) ho382 (by decide))
                have s383 : m_ST lo I A lo338 I336a A336a := f346
                have k385 : m_kd lo338 I336a A336a (I 3905) (8 * (24 - (I 2775)) + 0) v337 (fun k => k = 21) := m_kd_of (I := I) f346 f345 nz381 (show (I 3905) ≤ v337 by first | assumption | omega) (show v337 < (I336a 3905) by omega) f347 f349
                obtain ⟨j386, j387, j388, j389, j390⟩ := k385.1
                show w_W _ _ _ (99, [(0, .ref 43)], [.int (Int32.ofInt (v337))], M335) _
                refine w_fin (r := .inl (some (v337))) (M' := M335) rfl ?_
                exact Or.inl ⟨v337, lo338, I336a, A336a, B336a, C336a, rfl, ⟨by omega, by omega⟩, hR336a, (show m_fx I A I336a A336a by exact f342), (show ((0 ≤ (I336a 2774) ∧ (I336a 2774) < (I336a 2754) ∧ (I336a 2754) ≤ 1501 ∧ 0 ≤ (I336a 2775) ∧ (I336a 2775) ≤ 24) ∧ ((I336a 3393) = (I336a 3905) ∧ (I336a 3521) = (I336a 3905) ∧ (I336a 3649) = (I336a 3905) ∧ (I336a 3777) = (I336a 3905) ∧ 0 ≤ (I336a 3905) ∧ (I336a 3905) ≤ 3 * (I336a 2774)) ∧ ((I336a 4161) = (I336a 4033) ∧ 7 ≤ (I336a 4289) ∧ (I336a 4289) ≤ (I336a 4033) ∧ (I336a 4033) ≤ 7 + (I336a 2774)) ∧ 0 ≤ (I336a 5889) ∧ (I336a 5889) ≤ (I336a 2774)) ∧ ((I336a 2754) = (I 2754) ∧ (I 2774) + 1 ≤ (I336a 2774) ∧ (I336a 2775) = (I 2775) ∧ (I336a 4289) = (I 4289) + 0 ∧ (I336a 5889) = (I 5889)) ∧ ((I336a 3905) + 2 ≤ (I 3905) + 3 * ((I336a 2774) - (I 2774)) ∧ (I 3905) ≤ v337 ∧ v337 + 1 = (I336a 3905) ∧ (I 4033) ≤ (I336a 4033) ∧ (I336a 4033) ≤ (I 4033) + ((I336a 2774) - (I 2774))) by (repeat' apply And.intro) <;> first | assumption | omega), (show m_SC I336a A336a by exact f344), (show m_TR lo338 I336a A336a by exact f345), (show m_ST lo I A lo338 I336a A336a by exact s383), (show t_I ((A336a 53) (v337)) by exact ((m_kd_K k385 (fun k h => by have h : k = 21 := h; unfold t_I; omega))).2), (show m_rt lo338 (I336a 3905) v337 by exact f348), (show m_RK lo338 (I 3905) (I336a 3905) (8 * (24 - (I 2775)) + 6) by exact m_RK_le (show m_RK lo338 (I 3905) (I336a 3905) (8 * (24 - (I 2775)) + (0)) from rk384) (show (8 * (24 - (I 2775)) + (0)) ≤ 8 * (24 - (I 2775)) + 6 by omega))⟩
              · rw [e350]
                replace hR336b : w_Rep w_TM fr X u l I336b A336b B336b C336b M335 := hR336b
                replace f351 : m_fx I A I336b A336b := f351
                exact Or.inr (⟨I336b, A336b, B336b, C336b, rfl, hR336b, (show m_fx I A I336b A336b by exact f351)⟩)
            · rw [e328, e329]
              replace f330 : ¬ ((A 45) ((I 2774)) = 5 ∧ (A 46) ((I 2774)) = 13) := f330
              show w_W _ _ _ (92, [(0, .ref 43)], [.int (Int32.ofInt (0))], M) _
              refine w_adv (n := 1) (F' := (100, [(0, .ref 43)], [], M)) rfl ?_
              have jn118 : ((I 2774) + 1 < (I 2754)) → w_W (z_P L xs) (d + 1) 233 (118, [(0, .ref 43)], [], M) (m_item_Q fr X u l I A B C M lo) := by
                intro hj118_0
                refine w_adv (n := 2) (F' := (121, [(0, .ref 43)], [.int (Int32.ofInt (15)), .ref 43], M)) rfl ?_
                refine w_call (cm := 231) (as := [(0, .ref 43), (1, .int (Int32.ofInt (15)))]) (rest := []) (o := some (9, 43)) rfl (w_fitR hR rfl) (m_isWord (15) hR ⟨by omega, by omega⟩ (show 0 ≤ (I 2774) ∧ (I 2774) < 1501 by omega)) (fun r391 M392 q393 => ?_)
                rcases q393 with ⟨e394, e395, f396⟩ | ⟨e397, e398, f399⟩
                · rw [e394, e395]
                  replace f396 : (A 45) ((I 2774)) = 5 ∧ (A 46) ((I 2774)) = 15 := f396
                  obtain ⟨n400, n401⟩ := id f396
                  clear f396
                  have w402 : (I 2774) + 1 < (I 2754) := m_TK_lt hTK (show (I 2774) < (I 2754) by omega) (show 1 ≤ (A 45) ((I 2774)) by omega) (show (A 45) ((I 2774)) ≤ 6 by omega)
                  show w_W _ _ _ (124, [(0, .ref 43)], [.int (Int32.ofInt (1))], M) _
                  refine w_adv (n := 3) (F' := (127, [(1, .int (Int32.ofInt (1))), (0, .ref 43)], [.ref 43, .ref 43], M)) rfl ?_
                  refine w_gf (v := .int (Int32.ofInt ((I 2774)))) hR rfl rfl rfl rfl ?_
                  obtain ⟨r403, r404⟩ : -2147483648 ≤ (I 2774) ∧ (I 2774) ≤ 2147483647 := hR.ri 2774
                  refine w_adv (n := 1) (F' := (131, [(1, .int (Int32.ofInt (1))), (0, .ref 43)], [.int (Int32.ofInt (1)), .int (Int32.ofInt ((I 2774))), .ref 43], M)) rfl ?_
                  refine w_add rfl ?_
                  refine w_pf hR rfl rfl rfl rfl (show w_in ((I 2774) + 1) from ⟨by omega, by omega⟩) (fun h => absurd h (by decide)) (fun M405 hR406 => ?_)
                  replace hR406 : w_Rep w_TM fr X u l (w_up I 2774 ((I 2774) + 1)) A B C M405 := hR406
                  refine w_adv (n := 6) (F' := (148, [(1, .int (Int32.ofInt (1))), (0, .ref 43)], [.ref 43, .int (Int32.ofInt (22)), .ref 43], M405)) rfl ?_
                  refine w_call (cm := 245) (as := [(0, .ref 43)]) (rest := [.int (Int32.ofInt (22)), .ref 43]) (o := some (9, 43)) rfl (w_fitR hR406 rfl) (m_exp hA (lo) hR406 (show 20 * (24 - (I 2775)) + 17 ≤ (d : Int) by omega) (show m_TK (w_up I 2774 ((I 2774) + 1)) A by exact hTK) (show (0 ≤ (I 2774) + 1 ∧ (I 2774) + 1 < (I 2754) ∧ (I 2754) ≤ 1501 ∧ 0 ≤ (I 2775) ∧ (I 2775) ≤ 24) ∧ ((I 3393) = (I 3905) ∧ (I 3521) = (I 3905) ∧ (I 3649) = (I 3905) ∧ (I 3777) = (I 3905) ∧ 0 ≤ (I 3905) ∧ (I 3905) ≤ 3 * ((I 2774) + 1)) ∧ ((I 4161) = (I 4033) ∧ 7 ≤ (I 4289) ∧ (I 4289) ≤ (I 4033) ∧ (I 4033) ≤ 7 + ((I 2774) + 1)) ∧ 0 ≤ (I 5889) ∧ (I 5889) ≤ (I 2774) + 1 by (repeat' apply And.intro) <;> first | assumption | omega) (show m_SC (w_up I 2774 ((I 2774) + 1)) A by exact hSC) (show m_TR lo (w_up I 2774 ((I 2774) + 1)) A by exact hTR) (show (I 2754) - ((I 2774) + 1) ≤ N by first | assumption | omega)) (fun r407 M408 q409 => ?_)
                  rcases q409 with ⟨v410, lo411, I409a, A409a, B409a, C409a, e412, ⟨r413, r414⟩, hR409a, f415, f416, f417, f418, f419, f420, f421, f422⟩ | ⟨I409b, A409b, B409b, C409b, e423, hR409b, f424⟩
                  · rw [e412]
                    replace hR409a : w_Rep w_TM fr X u l I409a A409a B409a C409a M408 := hR409a
                    replace f415 : m_fx (w_up I 2774 ((I 2774) + 1)) A I409a A409a := f415
                    replace f416 : ((0 ≤ (I409a 2774) ∧ (I409a 2774) < (I409a 2754) ∧ (I409a 2754) ≤ 1501 ∧ 0 ≤ (I409a 2775) ∧ (I409a 2775) ≤ 24) ∧ ((I409a 3393) = (I409a 3905) ∧ (I409a 3521) = (I409a 3905) ∧ (I409a 3649) = (I409a 3905) ∧ (I409a 3777) = (I409a 3905) ∧ 0 ≤ (I409a 3905) ∧ (I409a 3905) ≤ 3 * (I409a 2774)) ∧ ((I409a 4161) = (I409a 4033) ∧ 7 ≤ (I409a 4289) ∧ (I409a 4289) ≤ (I409a 4033) ∧ (I409a 4033) ≤ 7 + (I409a 2774)) ∧ 0 ≤ (I409a 5889) ∧ (I409a 5889) ≤ (I409a 2774)) ∧ ((I409a 2754) = (I 2754) ∧ ((I 2774) + 1) + 1 ≤ (I409a 2774) ∧ (I409a 2775) = (I 2775) ∧ (I409a 4289) = (I 4289) + 0 ∧ (I409a 5889) = (I 5889)) ∧ ((I409a 3905) + 2 ≤ (I 3905) + 3 * ((I409a 2774) - ((I 2774) + 1)) ∧ (I 3905) ≤ v410 ∧ v410 + 1 = (I409a 3905) ∧ (I 4033) ≤ (I409a 4033) ∧ (I409a 4033) ≤ (I 4033) + ((I409a 2774) - ((I 2774) + 1))) := f416
                    obtain ⟨⟨⟨n425, n426, n427, n428, n429⟩, ⟨n430, n431, n432, n433, n434, n435⟩, ⟨n436, n437, n438, n439⟩, n440, n441⟩, ⟨n442, n443, n444, n445, n446⟩, ⟨n447, n448, n449, n450, n451⟩⟩ := id f416
                    clear f416
                    replace f417 : m_SC I409a A409a := f417
                    replace f418 : m_TR lo411 I409a A409a := f418
                    replace f419 : m_ST lo (w_up I 2774 ((I 2774) + 1)) A lo411 I409a A409a := f419
                    replace f420 : t_E ((A409a 53) (v410)) := f420
                    replace f421 : m_rt lo411 (I409a 3905) v410 := f421
                    replace f422 : m_RK lo411 (I 3905) (I409a 3905) (8 * (24 - (I 2775)) + 5) := f422
                    have tk452 : m_TK I409a A409a := m_TK_fx f415 hTK
                    have nn453 : (I 3905) ≤ (I409a 3905) := by omega
                    have nz454 : 0 ≤ (I 3905) := by first | assumption | omega
                    have ho455 : (I 2775) = (I 2775) + (0) := by omega
                    have rk457 : m_RK lo411 (I 3905) (I409a 3905) (8 * (24 - (I 2775)) + (5)) := m_RK_app (I := (w_up I 2774 ((I 2774) + 1))) (I' := I409a) (R := (8 * (24 - (I 2775)) + (5))) (show m_RK lo (I 3905) (I 3905) (8 * (24 - (I 2775)) + (5)) from fun q q1 q2 => by omega) f419 f422 (show 0 ≤ (I 3905) by first | assumption | omega) (m_r8 (by decide)) (m_r8o (k := 0) ho455 (by decide))
                    have s456 : m_ST lo I A lo411 I409a A409a := f419
                    have k458 : m_kd lo411 I409a A409a (I 3905) (8 * (24 - (I 2775)) + 5) v410 t_E := m_kd_of (I := (w_up I 2774 ((I 2774) + 1))) f419 f418 nz454 (show (I 3905) ≤ v410 by first | assumption | omega) (show v410 < (I409a 3905) by omega) f420 f422
                    obtain ⟨j459, j460, j461, j462, j463⟩ := k458.1
                    show w_W _ _ _ (151, [(1, .int (Int32.ofInt (1))), (0, .ref 43)], [.int (Int32.ofInt (v410)), .int (Int32.ofInt (22)), .ref 43], M408) _
                    refine w_adv (n := 2) (F' := (153, [(1, .int (Int32.ofInt (1))), (0, .ref 43)], [.int (Int32.ofInt (0)), .int (Int32.ofInt (0)), .int (Int32.ofInt (v410)), .int (Int32.ofInt (22)), .ref 43], M408)) rfl ?_
                    refine w_call (cm := 239) (as := [(0, .ref 43), (1, .int (Int32.ofInt (22))), (2, .int (Int32.ofInt (v410))), (3, .int (Int32.ofInt (0))), (4, .int (Int32.ofInt (0)))]) (rest := []) (o := some (9, 43)) rfl (w_fitR hR409a rfl) (m_node (22) (v410) (0) (0) hR409a (show 2 ≤ d by omega) ⟨by omega, by omega⟩ ⟨by omega, by omega⟩ ⟨by omega, by omega⟩ ⟨by omega, by omega⟩ (show (I409a 3393) = (I409a 3905) by first | assumption | omega) (show (I409a 3521) = (I409a 3905) by first | assumption | omega) (show (I409a 3649) = (I409a 3905) by first | assumption | omega) (show (I409a 3777) = (I409a 3905) by first | assumption | omega) (show (I409a 3905) < 65536 by first | assumption | omega)) (fun r464 M465 q466 => ?_)
                    rcases q466 with ⟨v467, I466a, A466a, B466a, C466a, e468, ⟨r469, r470⟩, hR466a, f471, f472⟩
                    rw [e468]
                    replace hR466a : w_Rep w_TM fr X u l I466a A466a B466a C466a M465 := hR466a
                    replace f471 : m_fx I409a A409a I466a A466a := f471
                    replace f472 : m_nd I409a A409a I466a A466a v467 22 v410 0 0 := f472
                    obtain ⟨⟨n473, n474, n475, n476, n477, n478⟩, ⟨n479, n480, n481, n482, n483, n484, n485⟩⟩ : (v467 = (I409a 3905) ∧ (I466a 3905) = (I409a 3905) + 1 ∧ (I466a 3393) = (I409a 3393) + 1 ∧ (I466a 3521) = (I409a 3521) + 1 ∧ (I466a 3649) = (I409a 3649) + 1 ∧ (I466a 3777) = (I409a 3777) + 1) ∧ ((I466a 2774) = (I409a 2774) ∧ (I466a 2754) = (I409a 2754) ∧ (I466a 2775) = (I409a 2775) ∧ (I466a 4289) = (I409a 4289) ∧ (I466a 4033) = (I409a 4033) ∧ (I466a 4161) = (I409a 4161) ∧ (I466a 5889) = (I409a 5889)) := m_nd_num f472
                    have tk486 : m_TK I466a A466a := m_TK_fx f471 tk452
                    have sc487 : m_SC I466a A466a := m_SC_nd f472 f417
                    have tr488 : m_TR (t_up lo411 v467 (I 3905) (8 * (24 - (I 2775)) + (6))) I466a A466a := m_TR_nd (show m_TR lo411 I409a A409a from f418) f472 (show 0 ≤ (I 3905) by omega) (show (I 3905) ≤ v467 by omega) (m_cl_ST (I1 := I) (show m_ST lo I A lo411 I409a A409a from s456) (show m_TR lo I A from hTR) (show 0 ≤ (I 3905) by omega)) (t_N_mk22 t_up_same (show 0 ≤ (I 3905) by omega) (show (I 3905) ≤ v467 by omega) (show 0 ≤ (8 * (24 - (I 2775)) + (6)) by omega) (m_hw (show m_RK lo411 (I 3905) v467 (8 * (24 - (I 2775)) + (5)) from fun q q1 q2 => (show m_RK lo411 (I 3905) (I409a 3905) (8 * (24 - (I 2775)) + (5)) from rk457) q (show (I 3905) ≤ q by omega) (show q < (I409a 3905) by omega)) (m_r8l (by decide))) (m_ch f472 (show (I 3905) ≤ (I 3905) by omega) (show m_kd lo411 I409a A409a (I 3905) (8 * (24 - (I 2775)) + 5) v410 t_E from k458)))
                    have s489 : m_ST lo I A (t_up lo411 v467 (I 3905) (8 * (24 - (I 2775)) + (6))) I466a A466a := m_ST_nd (l := (I 3905)) (show m_ST lo I A lo411 I409a A409a from s456) f472 (show (I 3905) ≤ (I 3905) by omega) (show (I 3905) ≤ (I409a 3905) by omega)
                    have rk490 : m_RK (t_up lo411 v467 (I 3905) (8 * (24 - (I 2775)) + (6))) (I 3905) (I466a 3905) (8 * (24 - (I 2775)) + (6)) := fun q q1 q2 => m_RK_nd (show m_RK lo411 (I 3905) v467 (8 * (24 - (I 2775)) + (5)) from fun q q1 q2 => (show m_RK lo411 (I 3905) (I409a 3905) (8 * (24 - (I 2775)) + (5)) from rk457) q q1 (show q < (I409a 3905) by omega)) (m_r8 (by decide)) (m_r8 (by decide)) q q1 (show q < v467 + 1 by omega)
                    have k491 : m_kd (t_up lo411 v467 (I 3905) (8 * (24 - (I 2775)) + (6))) I466a A466a (I 3905) (8 * (24 - (I 2775)) + (6)) v467 (fun k => k = 22) := m_kd_new f472 (show 0 ≤ (I 3905) by omega) (show (I 3905) ≤ v467 by omega) rfl
                    have rt492 : m_rt (t_up lo411 v467 (I 3905) (8 * (24 - (I 2775)) + (6))) (I466a 3905) v467 := m_rt_new f472
                    show w_W _ _ _ (156, [(1, .int (Int32.ofInt (1))), (0, .ref 43)], [.int (Int32.ofInt (v467))], M465) _
                    refine w_fin (r := .inl (some (v467))) (M' := M465) rfl ?_
                    exact Or.inl ⟨v467, (t_up lo411 v467 (I 3905) (8 * (24 - (I 2775)) + (6))), I466a, A466a, B466a, C466a, rfl, ⟨by omega, by omega⟩, hR466a, (show m_fx I A I466a A466a by exact (m_fx_trans f415 f471)), (show ((0 ≤ (I466a 2774) ∧ (I466a 2774) < (I466a 2754) ∧ (I466a 2754) ≤ 1501 ∧ 0 ≤ (I466a 2775) ∧ (I466a 2775) ≤ 24) ∧ ((I466a 3393) = (I466a 3905) ∧ (I466a 3521) = (I466a 3905) ∧ (I466a 3649) = (I466a 3905) ∧ (I466a 3777) = (I466a 3905) ∧ 0 ≤ (I466a 3905) ∧ (I466a 3905) ≤ 3 * (I466a 2774)) ∧ ((I466a 4161) = (I466a 4033) ∧ 7 ≤ (I466a 4289) ∧ (I466a 4289) ≤ (I466a 4033) ∧ (I466a 4033) ≤ 7 + (I466a 2774)) ∧ 0 ≤ (I466a 5889) ∧ (I466a 5889) ≤ (I466a 2774)) ∧ ((I466a 2754) = (I 2754) ∧ (I 2774) + 1 ≤ (I466a 2774) ∧ (I466a 2775) = (I 2775) ∧ (I466a 4289) = (I 4289) + 0 ∧ (I466a 5889) = (I 5889)) ∧ ((I466a 3905) + 2 ≤ (I 3905) + 3 * ((I466a 2774) - (I 2774)) ∧ (I 3905) ≤ v467 ∧ v467 + 1 = (I466a 3905) ∧ (I 4033) ≤ (I466a 4033) ∧ (I466a 4033) ≤ (I 4033) + ((I466a 2774) - (I 2774))) by (repeat' apply And.intro) <;> first | assumption | omega), (show m_SC I466a A466a by exact sc487), (show m_TR (t_up lo411 v467 (I 3905) (8 * (24 - (I 2775)) + (6))) I466a A466a by exact tr488), (show m_ST lo I A (t_up lo411 v467 (I 3905) (8 * (24 - (I 2775)) + (6))) I466a A466a by exact s489), (show t_I ((A466a 53) (v467)) by exact ((m_kd_K k491 (fun k h => by have h : k = 22 := h; unfold t_I; omega))).2), (show m_rt (t_up lo411 v467 (I 3905) (8 * (24 - (I 2775)) + (6))) (I466a 3905) v467 by exact rt492), (show m_RK (t_up lo411 v467 (I 3905) (8 * (24 - (I 2775)) + (6))) (I 3905) (I466a 3905) (8 * (24 - (I 2775)) + 6) by exact m_RK_le (show m_RK (t_up lo411 v467 (I 3905) (8 * (24 - (I 2775)) + (6))) (I 3905) (I466a 3905) (8 * (24 - (I 2775)) + (6)) from rk490) (show (8 * (24 - (I 2775)) + (6)) ≤ 8 * (24 - (I 2775)) + 6 by omega))⟩
                  · rw [e423]
                    replace hR409b : w_Rep w_TM fr X u l I409b A409b B409b C409b M408 := hR409b
                    replace f424 : m_fx (w_up I 2774 ((I 2774) + 1)) A I409b A409b := f424
                    exact Or.inr (⟨I409b, A409b, B409b, C409b, rfl, hR409b, (show m_fx I A I409b A409b by exact f424)⟩)
                · rw [e397, e398]
                  replace f399 : ¬ ((A 45) ((I 2774)) = 5 ∧ (A 46) ((I 2774)) = 15) := f399
                  show w_W _ _ _ (124, [(0, .ref 43)], [.int (Int32.ofInt (0))], M) _
                  refine w_adv (n := 3) (F' := (127, [(1, .int (Int32.ofInt (0))), (0, .ref 43)], [.ref 43, .ref 43], M)) rfl ?_
                  refine w_gf (v := .int (Int32.ofInt ((I 2774)))) hR rfl rfl rfl rfl ?_
                  obtain ⟨r493, r494⟩ : -2147483648 ≤ (I 2774) ∧ (I 2774) ≤ 2147483647 := hR.ri 2774
                  refine w_adv (n := 1) (F' := (131, [(1, .int (Int32.ofInt (0))), (0, .ref 43)], [.int (Int32.ofInt (1)), .int (Int32.ofInt ((I 2774))), .ref 43], M)) rfl ?_
                  refine w_add rfl ?_
                  refine w_pf hR rfl rfl rfl rfl (show w_in ((I 2774) + 1) from ⟨by omega, by omega⟩) (fun h => absurd h (by decide)) (fun M495 hR496 => ?_)
                  replace hR496 : w_Rep w_TM fr X u l (w_up I 2774 ((I 2774) + 1)) A B C M495 := hR496
                  refine w_adv (n := 5) (F' := (148, [(1, .int (Int32.ofInt (0))), (0, .ref 43)], [.ref 43, .int (Int32.ofInt (23)), .ref 43], M495)) rfl ?_
                  refine w_call (cm := 245) (as := [(0, .ref 43)]) (rest := [.int (Int32.ofInt (23)), .ref 43]) (o := some (9, 43)) rfl (w_fitR hR496 rfl) (m_exp hA (lo) hR496 (show 20 * (24 - (I 2775)) + 17 ≤ (d : Int) by omega) (show m_TK (w_up I 2774 ((I 2774) + 1)) A by exact hTK) (show (0 ≤ (I 2774) + 1 ∧ (I 2774) + 1 < (I 2754) ∧ (I 2754) ≤ 1501 ∧ 0 ≤ (I 2775) ∧ (I 2775) ≤ 24) ∧ ((I 3393) = (I 3905) ∧ (I 3521) = (I 3905) ∧ (I 3649) = (I 3905) ∧ (I 3777) = (I 3905) ∧ 0 ≤ (I 3905) ∧ (I 3905) ≤ 3 * ((I 2774) + 1)) ∧ ((I 4161) = (I 4033) ∧ 7 ≤ (I 4289) ∧ (I 4289) ≤ (I 4033) ∧ (I 4033) ≤ 7 + ((I 2774) + 1)) ∧ 0 ≤ (I 5889) ∧ (I 5889) ≤ (I 2774) + 1 by (repeat' apply And.intro) <;> first | assumption | omega) (show m_SC (w_up I 2774 ((I 2774) + 1)) A by exact hSC) (show m_TR lo (w_up I 2774 ((I 2774) + 1)) A by exact hTR) (show (I 2754) - ((I 2774) + 1) ≤ N by first | assumption | omega)) (fun r497 M498 q499 => ?_)
                  rcases q499 with ⟨v500, lo501, I499a, A499a, B499a, C499a, e502, ⟨r503, r504⟩, hR499a, f505, f506, f507, f508, f509, f510, f511, f512⟩ | ⟨I499b, A499b, B499b, C499b, e513, hR499b, f514⟩
                  · rw [e502]
                    replace hR499a : w_Rep w_TM fr X u l I499a A499a B499a C499a M498 := hR499a
                    replace f505 : m_fx (w_up I 2774 ((I 2774) + 1)) A I499a A499a := f505
                    replace f506 : ((0 ≤ (I499a 2774) ∧ (I499a 2774) < (I499a 2754) ∧ (I499a 2754) ≤ 1501 ∧ 0 ≤ (I499a 2775) ∧ (I499a 2775) ≤ 24) ∧ ((I499a 3393) = (I499a 3905) ∧ (I499a 3521) = (I499a 3905) ∧ (I499a 3649) = (I499a 3905) ∧ (I499a 3777) = (I499a 3905) ∧ 0 ≤ (I499a 3905) ∧ (I499a 3905) ≤ 3 * (I499a 2774)) ∧ ((I499a 4161) = (I499a 4033) ∧ 7 ≤ (I499a 4289) ∧ (I499a 4289) ≤ (I499a 4033) ∧ (I499a 4033) ≤ 7 + (I499a 2774)) ∧ 0 ≤ (I499a 5889) ∧ (I499a 5889) ≤ (I499a 2774)) ∧ ((I499a 2754) = (I 2754) ∧ ((I 2774) + 1) + 1 ≤ (I499a 2774) ∧ (I499a 2775) = (I 2775) ∧ (I499a 4289) = (I 4289) + 0 ∧ (I499a 5889) = (I 5889)) ∧ ((I499a 3905) + 2 ≤ (I 3905) + 3 * ((I499a 2774) - ((I 2774) + 1)) ∧ (I 3905) ≤ v500 ∧ v500 + 1 = (I499a 3905) ∧ (I 4033) ≤ (I499a 4033) ∧ (I499a 4033) ≤ (I 4033) + ((I499a 2774) - ((I 2774) + 1))) := f506
                    obtain ⟨⟨⟨n515, n516, n517, n518, n519⟩, ⟨n520, n521, n522, n523, n524, n525⟩, ⟨n526, n527, n528, n529⟩, n530, n531⟩, ⟨n532, n533, n534, n535, n536⟩, ⟨n537, n538, n539, n540, n541⟩⟩ := id f506
                    clear f506
                    replace f507 : m_SC I499a A499a := f507
                    replace f508 : m_TR lo501 I499a A499a := f508
                    replace f509 : m_ST lo (w_up I 2774 ((I 2774) + 1)) A lo501 I499a A499a := f509
                    replace f510 : t_E ((A499a 53) (v500)) := f510
                    replace f511 : m_rt lo501 (I499a 3905) v500 := f511
                    replace f512 : m_RK lo501 (I 3905) (I499a 3905) (8 * (24 - (I 2775)) + 5) := f512
                    have tk542 : m_TK I499a A499a := m_TK_fx f505 hTK
                    have nn543 : (I 3905) ≤ (I499a 3905) := by omega
                    have nz544 : 0 ≤ (I 3905) := by first | assumption | omega
                    have ho545 : (I 2775) = (I 2775) + (0) := by omega
                    have rk547 : m_RK lo501 (I 3905) (I499a 3905) (8 * (24 - (I 2775)) + (5)) := m_RK_app (I := (w_up I 2774 ((I 2774) + 1))) (I' := I499a) (R := (8 * (24 - (I 2775)) + (5))) (show m_RK lo (I 3905) (I 3905) (8 * (24 - (I 2775)) + (5)) from fun q q1 q2 => by omega) f509 f512 (show 0 ≤ (I 3905) by first | assumption | omega) (m_r8 (by decide)) (m_r8o (k := 0) ho545 (by decide))
                    have s546 : m_ST lo I A lo501 I499a A499a := f509
                    have k548 : m_kd lo501 I499a A499a (I 3905) (8 * (24 - (I 2775)) + 5) v500 t_E := m_kd_of (I := (w_up I 2774 ((I 2774) + 1))) f509 f508 nz544 (show (I 3905) ≤ v500 by first | assumption | omega) (show v500 < (I499a 3905) by omega) f510 f512
                    obtain ⟨j549, j550, j551, j552, j553⟩ := k548.1
                    show w_W _ _ _ (151, [(1, .int (Int32.ofInt (0))), (0, .ref 43)], [.int (Int32.ofInt (v500)), .int (Int32.ofInt (23)), .ref 43], M498) _
                    refine w_adv (n := 2) (F' := (153, [(1, .int (Int32.ofInt (0))), (0, .ref 43)], [.int (Int32.ofInt (0)), .int (Int32.ofInt (0)), .int (Int32.ofInt (v500)), .int (Int32.ofInt (23)), .ref 43], M498)) rfl ?_
                    refine w_call (cm := 239) (as := [(0, .ref 43), (1, .int (Int32.ofInt (23))), (2, .int (Int32.ofInt (v500))), (3, .int (Int32.ofInt (0))), (4, .int (Int32.ofInt (0)))]) (rest := []) (o := some (9, 43)) rfl (w_fitR hR499a rfl) (m_node (23) (v500) (0) (0) hR499a (show 2 ≤ d by omega) ⟨by omega, by omega⟩ ⟨by omega, by omega⟩ ⟨by omega, by omega⟩ ⟨by omega, by omega⟩ (show (I499a 3393) = (I499a 3905) by first | assumption | omega) (show (I499a 3521) = (I499a 3905) by first | assumption | omega) (show (I499a 3649) = (I499a 3905) by first | assumption | omega) (show (I499a 3777) = (I499a 3905) by first | assumption | omega) (show (I499a 3905) < 65536 by first | assumption | omega)) (fun r554 M555 q556 => ?_)
                    rcases q556 with ⟨v557, I556a, A556a, B556a, C556a, e558, ⟨r559, r560⟩, hR556a, f561, f562⟩
                    rw [e558]
                    replace hR556a : w_Rep w_TM fr X u l I556a A556a B556a C556a M555 := hR556a
                    replace f561 : m_fx I499a A499a I556a A556a := f561
                    replace f562 : m_nd I499a A499a I556a A556a v557 23 v500 0 0 := f562
                    obtain ⟨⟨n563, n564, n565, n566, n567, n568⟩, ⟨n569, n570, n571, n572, n573, n574, n575⟩⟩ : (v557 = (I499a 3905) ∧ (I556a 3905) = (I499a 3905) + 1 ∧ (I556a 3393) = (I499a 3393) + 1 ∧ (I556a 3521) = (I499a 3521) + 1 ∧ (I556a 3649) = (I499a 3649) + 1 ∧ (I556a 3777) = (I499a 3777) + 1) ∧ ((I556a 2774) = (I499a 2774) ∧ (I556a 2754) = (I499a 2754) ∧ (I556a 2775) = (I499a 2775) ∧ (I556a 4289) = (I499a 4289) ∧ (I556a 4033) = (I499a 4033) ∧ (I556a 4161) = (I499a 4161) ∧ (I556a 5889) = (I499a 5889)) := m_nd_num f562
                    have tk576 : m_TK I556a A556a := m_TK_fx f561 tk542
                    have sc577 : m_SC I556a A556a := m_SC_nd f562 f507
                    have tr578 : m_TR (t_up lo501 v557 (I 3905) (8 * (24 - (I 2775)) + (6))) I556a A556a := m_TR_nd (show m_TR lo501 I499a A499a from f508) f562 (show 0 ≤ (I 3905) by omega) (show (I 3905) ≤ v557 by omega) (m_cl_ST (I1 := I) (show m_ST lo I A lo501 I499a A499a from s546) (show m_TR lo I A from hTR) (show 0 ≤ (I 3905) by omega)) (t_N_mk23 t_up_same (show 0 ≤ (I 3905) by omega) (show (I 3905) ≤ v557 by omega) (show 0 ≤ (8 * (24 - (I 2775)) + (6)) by omega) (m_hw (show m_RK lo501 (I 3905) v557 (8 * (24 - (I 2775)) + (5)) from fun q q1 q2 => (show m_RK lo501 (I 3905) (I499a 3905) (8 * (24 - (I 2775)) + (5)) from rk547) q (show (I 3905) ≤ q by omega) (show q < (I499a 3905) by omega)) (m_r8l (by decide))) (m_ch f562 (show (I 3905) ≤ (I 3905) by omega) (show m_kd lo501 I499a A499a (I 3905) (8 * (24 - (I 2775)) + 5) v500 t_E from k548)))
                    have s579 : m_ST lo I A (t_up lo501 v557 (I 3905) (8 * (24 - (I 2775)) + (6))) I556a A556a := m_ST_nd (l := (I 3905)) (show m_ST lo I A lo501 I499a A499a from s546) f562 (show (I 3905) ≤ (I 3905) by omega) (show (I 3905) ≤ (I499a 3905) by omega)
                    have rk580 : m_RK (t_up lo501 v557 (I 3905) (8 * (24 - (I 2775)) + (6))) (I 3905) (I556a 3905) (8 * (24 - (I 2775)) + (6)) := fun q q1 q2 => m_RK_nd (show m_RK lo501 (I 3905) v557 (8 * (24 - (I 2775)) + (5)) from fun q q1 q2 => (show m_RK lo501 (I 3905) (I499a 3905) (8 * (24 - (I 2775)) + (5)) from rk547) q q1 (show q < (I499a 3905) by omega)) (m_r8 (by decide)) (m_r8 (by decide)) q q1 (show q < v557 + 1 by omega)
                    have k581 : m_kd (t_up lo501 v557 (I 3905) (8 * (24 - (I 2775)) + (6))) I556a A556a (I 3905) (8 * (24 - (I 2775)) + (6)) v557 (fun k => k = 23) := m_kd_new f562 (show 0 ≤ (I 3905) by omega) (show (I 3905) ≤ v557 by omega) rfl
                    have rt582 : m_rt (t_up lo501 v557 (I 3905) (8 * (24 - (I 2775)) + (6))) (I556a 3905) v557 := m_rt_new f562
                    show w_W _ _ _ (156, [(1, .int (Int32.ofInt (0))), (0, .ref 43)], [.int (Int32.ofInt (v557))], M555) _
                    refine w_fin (r := .inl (some (v557))) (M' := M555) rfl ?_
                    exact Or.inl ⟨v557, (t_up lo501 v557 (I 3905) (8 * (24 - (I 2775)) + (6))), I556a, A556a, B556a, C556a, rfl, ⟨by omega, by omega⟩, hR556a, (show m_fx I A I556a A556a by exact (m_fx_trans f505 f561)), (show ((0 ≤ (I556a 2774) ∧ (I556a 2774) < (I556a 2754) ∧ (I556a 2754) ≤ 1501 ∧ 0 ≤ (I556a 2775) ∧ (I556a 2775) ≤ 24) ∧ ((I556a 3393) = (I556a 3905) ∧ (I556a 3521) = (I556a 3905) ∧ (I556a 3649) = (I556a 3905) ∧ (I556a 3777) = (I556a 3905) ∧ 0 ≤ (I556a 3905) ∧ (I556a 3905) ≤ 3 * (I556a 2774)) ∧ ((I556a 4161) = (I556a 4033) ∧ 7 ≤ (I556a 4289) ∧ (I556a 4289) ≤ (I556a 4033) ∧ (I556a 4033) ≤ 7 + (I556a 2774)) ∧ 0 ≤ (I556a 5889) ∧ (I556a 5889) ≤ (I556a 2774)) ∧ ((I556a 2754) = (I 2754) ∧ (I 2774) + 1 ≤ (I556a 2774) ∧ (I556a 2775) = (I 2775) ∧ (I556a 4289) = (I 4289) + 0 ∧ (I556a 5889) = (I 5889)) ∧ ((I556a 3905) + 2 ≤ (I 3905) + 3 * ((I556a 2774) - (I 2774)) ∧ (I 3905) ≤ v557 ∧ v557 + 1 = (I556a 3905) ∧ (I 4033) ≤ (I556a 4033) ∧ (I556a 4033) ≤ (I 4033) + ((I556a 2774) - (I 2774))) by (repeat' apply And.intro) <;> first | assumption | omega), (show m_SC I556a A556a by exact sc577), (show m_TR (t_up lo501 v557 (I 3905) (8 * (24 - (I 2775)) + (6))) I556a A556a by exact tr578), (show m_ST lo I A (t_up lo501 v557 (I 3905) (8 * (24 - (I 2775)) + (6))) I556a A556a by exact s579), (show t_I ((A556a 53) (v557)) by exact ((m_kd_K k581 (fun k h => by have h : k = 23 := h; unfold t_I; omega))).2), (show m_rt (t_up lo501 v557 (I 3905) (8 * (24 - (I 2775)) + (6))) (I556a 3905) v557 by exact rt582), (show m_RK (t_up lo501 v557 (I 3905) (8 * (24 - (I 2775)) + (6))) (I 3905) (I556a 3905) (8 * (24 - (I 2775)) + 6) by exact m_RK_le (show m_RK (t_up lo501 v557 (I 3905) (8 * (24 - (I 2775)) + (6))) (I 3905) (I556a 3905) (8 * (24 - (I 2775)) + (6)) from rk580) (show (8 * (24 - (I 2775)) + (6)) ≤ 8 * (24 - (I 2775)) + 6 by omega))⟩
                  · rw [e513]
                    replace hR499b : w_Rep w_TM fr X u l I499b A499b B499b C499b M498 := hR499b
                    replace f514 : m_fx (w_up I 2774 ((I 2774) + 1)) A I499b A499b := f514
                    exact Or.inr (⟨I499b, A499b, B499b, C499b, rfl, hR499b, (show m_fx I A I499b A499b by exact f514)⟩)
              refine w_adv (n := 2) (F' := (103, [(0, .ref 43)], [.int (Int32.ofInt (15)), .ref 43], M)) rfl ?_
              refine w_call (cm := 231) (as := [(0, .ref 43), (1, .int (Int32.ofInt (15)))]) (rest := []) (o := some (9, 43)) rfl (w_fitR hR rfl) (m_isWord (15) hR ⟨by omega, by omega⟩ (show 0 ≤ (I 2774) ∧ (I 2774) < 1501 by omega)) (fun r583 M584 q585 => ?_)
              rcases q585 with ⟨e586, e587, f588⟩ | ⟨e589, e590, f591⟩
              · rw [e586, e587]
                replace f588 : (A 45) ((I 2774)) = 5 ∧ (A 46) ((I 2774)) = 15 := f588
                obtain ⟨n592, n593⟩ := id f588
                clear f588
                have w594 : (I 2774) + 1 < (I 2754) := m_TK_lt hTK (show (I 2774) < (I 2754) by omega) (show 1 ≤ (A 45) ((I 2774)) by omega) (show (A 45) ((I 2774)) ≤ 6 by omega)
                show w_W _ _ _ (106, [(0, .ref 43)], [.int (Int32.ofInt (1))], M) _
                refine w_adv (n := 1) (F' := (118, [(0, .ref 43)], [], M)) rfl ?_
                exact jn118   (show (I 2774) + 1 < (I 2754) by first | assumption | omega)
              · rw [e589, e590]
                replace f591 : ¬ ((A 45) ((I 2774)) = 5 ∧ (A 46) ((I 2774)) = 15) := f591
                show w_W _ _ _ (106, [(0, .ref 43)], [.int (Int32.ofInt (0))], M) _
                refine w_adv (n := 3) (F' := (112, [(0, .ref 43)], [.int (Int32.ofInt (16)), .ref 43], M)) rfl ?_
                refine w_call (cm := 231) (as := [(0, .ref 43), (1, .int (Int32.ofInt (16)))]) (rest := []) (o := some (9, 43)) rfl (w_fitR hR rfl) (m_isWord (16) hR ⟨by omega, by omega⟩ (show 0 ≤ (I 2774) ∧ (I 2774) < 1501 by omega)) (fun r595 M596 q597 => ?_)
                rcases q597 with ⟨e598, e599, f600⟩ | ⟨e601, e602, f603⟩
                · rw [e598, e599]
                  replace f600 : (A 45) ((I 2774)) = 5 ∧ (A 46) ((I 2774)) = 16 := f600
                  obtain ⟨n604, n605⟩ := id f600
                  clear f600
                  have w606 : (I 2774) + 1 < (I 2754) := m_TK_lt hTK (show (I 2774) < (I 2754) by omega) (show 1 ≤ (A 45) ((I 2774)) by omega) (show (A 45) ((I 2774)) ≤ 6 by omega)
                  show w_W _ _ _ (115, [(0, .ref 43)], [.int (Int32.ofInt (1))], M) _
                  refine w_adv (n := 1) (F' := (118, [(0, .ref 43)], [], M)) rfl ?_
                  exact jn118   (show (I 2774) + 1 < (I 2754) by first | assumption | omega)
                · rw [e601, e602]
                  replace f603 : ¬ ((A 45) ((I 2774)) = 5 ∧ (A 46) ((I 2774)) = 16) := f603
                  show w_W _ _ _ (115, [(0, .ref 43)], [.int (Int32.ofInt (0))], M) _
                  refine w_adv (n := 1) (F' := (157, [(0, .ref 43)], [], M)) rfl ?_
                  have jn163 : ∀ (k163_0 : Int), w_in k163_0 → (k163_0 = 0 ∨ k163_0 = 1) → w_W (z_P L xs) (d + 1) 233 (163, [(0, .ref 43)], [.int (Int32.ofInt (k163_0))], M) (m_item_Q fr X u l I A B C M lo) := by
                    intro k163_0 ⟨ra_k163_0, rb_k163_0⟩ hj163_0
                    refine w_adv (n := 2) (F' := (165, [(1, .int (Int32.ofInt (k163_0))), (0, .ref 43)], [.ref 43], M)) rfl ?_
                    refine w_call (cm := 245) (as := [(0, .ref 43)]) (rest := []) (o := some (9, 43)) rfl (w_fitR hR rfl) (m_exp hA (lo) hR (show 20 * (24 - (I 2775)) + 17 ≤ (d : Int) by omega) (show m_TK I A by exact hTK) (show (0 ≤ (I 2774) ∧ (I 2774) < (I 2754) ∧ (I 2754) ≤ 1501 ∧ 0 ≤ (I 2775) ∧ (I 2775) ≤ 24) ∧ ((I 3393) = (I 3905) ∧ (I 3521) = (I 3905) ∧ (I 3649) = (I 3905) ∧ (I 3777) = (I 3905) ∧ 0 ≤ (I 3905) ∧ (I 3905) ≤ 3 * (I 2774)) ∧ ((I 4161) = (I 4033) ∧ 7 ≤ (I 4289) ∧ (I 4289) ≤ (I 4033) ∧ (I 4033) ≤ 7 + (I 2774)) ∧ 0 ≤ (I 5889) ∧ (I 5889) ≤ (I 2774) by (repeat' apply And.intro) <;> first | assumption | omega) (show m_SC I A by exact hSC) (show m_TR lo I A by exact hTR) (show (I 2754) - (I 2774) ≤ N by first | assumption | omega)) (fun r607 M608 q609 => ?_)
                    rcases q609 with ⟨v610, lo611, I609a, A609a, B609a, C609a, e612, ⟨r613, r614⟩, hR609a, f615, f616, f617, f618, f619, f620, f621, f622⟩ | ⟨I609b, A609b, B609b, C609b, e623, hR609b, f624⟩
                    · rw [e612]
                      replace hR609a : w_Rep w_TM fr X u l I609a A609a B609a C609a M608 := hR609a
                      replace f615 : m_fx I A I609a A609a := f615
                      replace f616 : ((0 ≤ (I609a 2774) ∧ (I609a 2774) < (I609a 2754) ∧ (I609a 2754) ≤ 1501 ∧ 0 ≤ (I609a 2775) ∧ (I609a 2775) ≤ 24) ∧ ((I609a 3393) = (I609a 3905) ∧ (I609a 3521) = (I609a 3905) ∧ (I609a 3649) = (I609a 3905) ∧ (I609a 3777) = (I609a 3905) ∧ 0 ≤ (I609a 3905) ∧ (I609a 3905) ≤ 3 * (I609a 2774)) ∧ ((I609a 4161) = (I609a 4033) ∧ 7 ≤ (I609a 4289) ∧ (I609a 4289) ≤ (I609a 4033) ∧ (I609a 4033) ≤ 7 + (I609a 2774)) ∧ 0 ≤ (I609a 5889) ∧ (I609a 5889) ≤ (I609a 2774)) ∧ ((I609a 2754) = (I 2754) ∧ (I 2774) + 1 ≤ (I609a 2774) ∧ (I609a 2775) = (I 2775) ∧ (I609a 4289) = (I 4289) + 0 ∧ (I609a 5889) = (I 5889)) ∧ ((I609a 3905) + 2 ≤ (I 3905) + 3 * ((I609a 2774) - (I 2774)) ∧ (I 3905) ≤ v610 ∧ v610 + 1 = (I609a 3905) ∧ (I 4033) ≤ (I609a 4033) ∧ (I609a 4033) ≤ (I 4033) + ((I609a 2774) - (I 2774))) := f616
                      obtain ⟨⟨⟨n625, n626, n627, n628, n629⟩, ⟨n630, n631, n632, n633, n634, n635⟩, ⟨n636, n637, n638, n639⟩, n640, n641⟩, ⟨n642, n643, n644, n645, n646⟩, ⟨n647, n648, n649, n650, n651⟩⟩ := id f616
                      clear f616
                      replace f617 : m_SC I609a A609a := f617
                      replace f618 : m_TR lo611 I609a A609a := f618
                      replace f619 : m_ST lo I A lo611 I609a A609a := f619
                      replace f620 : t_E ((A609a 53) (v610)) := f620
                      replace f621 : m_rt lo611 (I609a 3905) v610 := f621
                      replace f622 : m_RK lo611 (I 3905) (I609a 3905) (8 * (24 - (I 2775)) + 5) := f622
                      have tk652 : m_TK I609a A609a := m_TK_fx f615 hTK
                      have nn653 : (I 3905) ≤ (I609a 3905) := by omega
                      have nz654 : 0 ≤ (I 3905) := by first | assumption | omega
                      have ho655 : (I 2775) = (I 2775) + (0) := by omega
                      have rk657 : m_RK lo611 (I 3905) (I609a 3905) (8 * (24 - (I 2775)) + (5)) := m_RK_app (I := I) (I' := I609a) (R := (8 * (24 - (I 2775)) + (5))) (show m_RK lo (I 3905) (I 3905) (8 * (24 - (I 2775)) + (5)) from fun q q1 q2 => by omega) f619 f622 (show 0 ≤ (I 3905) by first | assumption | omega) (m_r8 (by decide)) (m_r8o (k := 0) ho655 (by decide))
                      have s656 : m_ST lo I A lo611 I609a A609a := f619
                      have k658 : m_kd lo611 I609a A609a (I 3905) (8 * (24 - (I 2775)) + 5) v610 t_E := m_kd_of (I := I) f619 f618 nz654 (show (I 3905) ≤ v610 by first | assumption | omega) (show v610 < (I609a 3905) by omega) f620 f622
                      obtain ⟨j659, j660, j661, j662, j663⟩ := k658.1
                      show w_W _ _ _ (168, [(1, .int (Int32.ofInt (k163_0))), (0, .ref 43)], [.int (Int32.ofInt (v610))], M608) _
                      refine w_adv (n := 3) (F' := (172, [(2, .int (Int32.ofInt (v610))), (1, .int (Int32.ofInt (k163_0))), (0, .ref 43)], [.int (Int32.ofInt (61)), .ref 43], M608)) rfl ?_
                      refine w_call (cm := 230) (as := [(0, .ref 43), (1, .int (Int32.ofInt (61)))]) (rest := []) (o := some (9, 43)) rfl (w_fitR hR609a rfl) (m_isSign (61) hR609a ⟨by omega, by omega⟩ (show 0 ≤ (I609a 2774) ∧ (I609a 2774) < 1501 by omega)) (fun r664 M665 q666 => ?_)
                      rcases q666 with ⟨e667, e668, f669⟩ | ⟨e670, e671, f672⟩
                      · rw [e667, e668]
                        replace f669 : (A609a 45) ((I609a 2774)) = 6 ∧ (A609a 46) ((I609a 2774)) = 61 := f669
                        obtain ⟨n673, n674⟩ := id f669
                        clear f669
                        have w675 : (I609a 2774) + 1 < (I609a 2754) := m_TK_lt tk652 (show (I609a 2774) < (I609a 2754) by omega) (show 1 ≤ (A609a 45) ((I609a 2774)) by omega) (show (A609a 45) ((I609a 2774)) ≤ 6 by omega)
                        show w_W _ _ _ (175, [(2, .int (Int32.ofInt (v610))), (1, .int (Int32.ofInt (k163_0))), (0, .ref 43)], [.int (Int32.ofInt (1))], M608) _
                        refine w_adv (n := 3) (F' := (180, [(2, .int (Int32.ofInt (v610))), (1, .int (Int32.ofInt (k163_0))), (0, .ref 43)], [.ref 43, .ref 43], M608)) rfl ?_
                        refine w_gf (v := .int (Int32.ofInt ((I609a 2774)))) hR609a rfl rfl rfl rfl ?_
                        obtain ⟨r676, r677⟩ : -2147483648 ≤ (I609a 2774) ∧ (I609a 2774) ≤ 2147483647 := hR609a.ri 2774
                        refine w_adv (n := 1) (F' := (184, [(2, .int (Int32.ofInt (v610))), (1, .int (Int32.ofInt (k163_0))), (0, .ref 43)], [.int (Int32.ofInt (1)), .int (Int32.ofInt ((I609a 2774))), .ref 43], M608)) rfl ?_
                        refine w_add rfl ?_
                        refine w_pf hR609a rfl rfl rfl rfl (show w_in ((I609a 2774) + 1) from ⟨by omega, by omega⟩) (fun h => absurd h (by decide)) (fun M678 hR679 => ?_)
                        replace hR679 : w_Rep w_TM fr X u l (w_up I609a 2774 ((I609a 2774) + 1)) A609a B609a C609a M678 := hR679
                        refine w_adv (n := 4) (F' := (193, [(2, .int (Int32.ofInt (v610))), (1, .int (Int32.ofInt (k163_0))), (0, .ref 43)], [.ref 43, .int (Int32.ofInt (v610)), .int (Int32.ofInt (24)), .ref 43], M678)) rfl ?_
                        refine w_call (cm := 245) (as := [(0, .ref 43)]) (rest := [.int (Int32.ofInt (v610)), .int (Int32.ofInt (24)), .ref 43]) (o := some (9, 43)) rfl (w_fitR hR679 rfl) (m_exp hA (lo611) hR679 (show 20 * (24 - (I609a 2775)) + 17 ≤ (d : Int) by omega) (show m_TK (w_up I609a 2774 ((I609a 2774) + 1)) A609a by exact tk652) (show (0 ≤ (I609a 2774) + 1 ∧ (I609a 2774) + 1 < (I609a 2754) ∧ (I609a 2754) ≤ 1501 ∧ 0 ≤ (I609a 2775) ∧ (I609a 2775) ≤ 24) ∧ ((I609a 3393) = (I609a 3905) ∧ (I609a 3521) = (I609a 3905) ∧ (I609a 3649) = (I609a 3905) ∧ (I609a 3777) = (I609a 3905) ∧ 0 ≤ (I609a 3905) ∧ (I609a 3905) ≤ 3 * ((I609a 2774) + 1)) ∧ ((I609a 4161) = (I609a 4033) ∧ 7 ≤ (I609a 4289) ∧ (I609a 4289) ≤ (I609a 4033) ∧ (I609a 4033) ≤ 7 + ((I609a 2774) + 1)) ∧ 0 ≤ (I609a 5889) ∧ (I609a 5889) ≤ (I609a 2774) + 1 by (repeat' apply And.intro) <;> first | assumption | omega) (show m_SC (w_up I609a 2774 ((I609a 2774) + 1)) A609a by exact f617) (show m_TR lo611 (w_up I609a 2774 ((I609a 2774) + 1)) A609a by exact f618) (show (I609a 2754) - ((I609a 2774) + 1) ≤ N by first | assumption | omega)) (fun r680 M681 q682 => ?_)
                        rcases q682 with ⟨v683, lo684, I682a, A682a, B682a, C682a, e685, ⟨r686, r687⟩, hR682a, f688, f689, f690, f691, f692, f693, f694, f695⟩ | ⟨I682b, A682b, B682b, C682b, e696, hR682b, f697⟩
                        · rw [e685]
                          replace hR682a : w_Rep w_TM fr X u l I682a A682a B682a C682a M681 := hR682a
                          replace f688 : m_fx (w_up I609a 2774 ((I609a 2774) + 1)) A609a I682a A682a := f688
                          replace f689 : ((0 ≤ (I682a 2774) ∧ (I682a 2774) < (I682a 2754) ∧ (I682a 2754) ≤ 1501 ∧ 0 ≤ (I682a 2775) ∧ (I682a 2775) ≤ 24) ∧ ((I682a 3393) = (I682a 3905) ∧ (I682a 3521) = (I682a 3905) ∧ (I682a 3649) = (I682a 3905) ∧ (I682a 3777) = (I682a 3905) ∧ 0 ≤ (I682a 3905) ∧ (I682a 3905) ≤ 3 * (I682a 2774)) ∧ ((I682a 4161) = (I682a 4033) ∧ 7 ≤ (I682a 4289) ∧ (I682a 4289) ≤ (I682a 4033) ∧ (I682a 4033) ≤ 7 + (I682a 2774)) ∧ 0 ≤ (I682a 5889) ∧ (I682a 5889) ≤ (I682a 2774)) ∧ ((I682a 2754) = (I609a 2754) ∧ ((I609a 2774) + 1) + 1 ≤ (I682a 2774) ∧ (I682a 2775) = (I609a 2775) ∧ (I682a 4289) = (I609a 4289) + 0 ∧ (I682a 5889) = (I609a 5889)) ∧ ((I682a 3905) + 2 ≤ (I609a 3905) + 3 * ((I682a 2774) - ((I609a 2774) + 1)) ∧ (I609a 3905) ≤ v683 ∧ v683 + 1 = (I682a 3905) ∧ (I609a 4033) ≤ (I682a 4033) ∧ (I682a 4033) ≤ (I609a 4033) + ((I682a 2774) - ((I609a 2774) + 1))) := f689
                          obtain ⟨⟨⟨n698, n699, n700, n701, n702⟩, ⟨n703, n704, n705, n706, n707, n708⟩, ⟨n709, n710, n711, n712⟩, n713, n714⟩, ⟨n715, n716, n717, n718, n719⟩, ⟨n720, n721, n722, n723, n724⟩⟩ := id f689
                          clear f689
                          replace f690 : m_SC I682a A682a := f690
                          replace f691 : m_TR lo684 I682a A682a := f691
                          replace f692 : m_ST lo611 (w_up I609a 2774 ((I609a 2774) + 1)) A609a lo684 I682a A682a := f692
                          replace f693 : t_E ((A682a 53) (v683)) := f693
                          replace f694 : m_rt lo684 (I682a 3905) v683 := f694
                          replace f695 : m_RK lo684 (I609a 3905) (I682a 3905) (8 * (24 - (I609a 2775)) + 5) := f695
                          have tk725 : m_TK I682a A682a := m_TK_fx f688 tk652
                          have nn726 : (I609a 3905) ≤ (I682a 3905) := by omega
                          have nz727 : 0 ≤ (I609a 3905) := by first | assumption | omega
                          have ho728 : (I609a 2775) = (I 2775) + (0) := by omega
                          have rk730 : m_RK lo684 (I 3905) (I682a 3905) (8 * (24 - (I 2775)) + (5)) := m_RK_app (I := (w_up I609a 2774 ((I609a 2774) + 1))) (I' := I682a) (R := (8 * (24 - (I 2775)) + (5))) (show m_RK lo611 (I 3905) (I609a 3905) (8 * (24 - (I 2775)) + (5)) from rk657) f692 f695 (show 0 ≤ (I 3905) by first | assumption | omega) (m_r8 (by decide)) (m_r8o (k := 0) ho728 (by decide))
                          have s729 : m_ST lo I A lo684 I682a A682a := m_ST_trans (show m_ST lo I A lo611 (w_up I609a 2774 ((I609a 2774) + 1)) A609a from s656) f692 (show 0 ≤ (I 3905) by first | assumption | omega) (show (I 3905) ≤ (I609a 3905) by first | assumption | omega) (show (I 4289) ≤ (I609a 4289) by first | assumption | omega) (show (I 5889) ≤ (I609a 5889) by first | assumption | omega)
                          have k731 : m_kd lo684 I682a A682a (I 3905) (8 * (24 - (I 2775)) + 5) v610 t_E := m_kd_ST f692 nn726 k658
                          have rt732 := m_rt_ST f692 (show 0 ≤ v610 by omega) (show v610 < (I609a 3905) by omega) f621
                          have k733 : m_kd lo684 I682a A682a (I609a 3905) (8 * (24 - (I609a 2775)) + 5) v683 t_E := m_kd_of (I := (w_up I609a 2774 ((I609a 2774) + 1))) f692 f691 nz727 (show (I609a 3905) ≤ v683 by first | assumption | omega) (show v683 < (I682a 3905) by omega) f693 f695
                          obtain ⟨j734, j735, j736, j737, j738⟩ := k733.1
                          show w_W _ _ _ (196, [(2, .int (Int32.ofInt (v610))), (1, .int (Int32.ofInt (k163_0))), (0, .ref 43)], [.int (Int32.ofInt (v683)), .int (Int32.ofInt (v610)), .int (Int32.ofInt (24)), .ref 43], M681) _
                          refine w_adv (n := 1) (F' := (197, [(2, .int (Int32.ofInt (v610))), (1, .int (Int32.ofInt (k163_0))), (0, .ref 43)], [.int (Int32.ofInt (0)), .int (Int32.ofInt (v683)), .int (Int32.ofInt (v610)), .int (Int32.ofInt (24)), .ref 43], M681)) rfl ?_
                          refine w_call (cm := 239) (as := [(0, .ref 43), (1, .int (Int32.ofInt (24))), (2, .int (Int32.ofInt (v610))), (3, .int (Int32.ofInt (v683))), (4, .int (Int32.ofInt (0)))]) (rest := []) (o := some (9, 43)) rfl (w_fitR hR682a rfl) (m_node (24) (v610) (v683) (0) hR682a (show 2 ≤ d by omega) ⟨by omega, by omega⟩ ⟨by omega, by omega⟩ ⟨by omega, by omega⟩ ⟨by omega, by omega⟩ (show (I682a 3393) = (I682a 3905) by first | assumption | omega) (show (I682a 3521) = (I682a 3905) by first | assumption | omega) (show (I682a 3649) = (I682a 3905) by first | assumption | omega) (show (I682a 3777) = (I682a 3905) by first | assumption | omega) (show (I682a 3905) < 65536 by first | assumption | omega)) (fun r739 M740 q741 => ?_)
                          rcases q741 with ⟨v742, I741a, A741a, B741a, C741a, e743, ⟨r744, r745⟩, hR741a, f746, f747⟩
                          rw [e743]
                          replace hR741a : w_Rep w_TM fr X u l I741a A741a B741a C741a M740 := hR741a
                          replace f746 : m_fx I682a A682a I741a A741a := f746
                          replace f747 : m_nd I682a A682a I741a A741a v742 24 v610 v683 0 := f747
                          obtain ⟨⟨n748, n749, n750, n751, n752, n753⟩, ⟨n754, n755, n756, n757, n758, n759, n760⟩⟩ : (v742 = (I682a 3905) ∧ (I741a 3905) = (I682a 3905) + 1 ∧ (I741a 3393) = (I682a 3393) + 1 ∧ (I741a 3521) = (I682a 3521) + 1 ∧ (I741a 3649) = (I682a 3649) + 1 ∧ (I741a 3777) = (I682a 3777) + 1) ∧ ((I741a 2774) = (I682a 2774) ∧ (I741a 2754) = (I682a 2754) ∧ (I741a 2775) = (I682a 2775) ∧ (I741a 4289) = (I682a 4289) ∧ (I741a 4033) = (I682a 4033) ∧ (I741a 4161) = (I682a 4161) ∧ (I741a 5889) = (I682a 5889)) := m_nd_num f747
                          have tk761 : m_TK I741a A741a := m_TK_fx f746 tk725
                          have sc762 : m_SC I741a A741a := m_SC_nd f747 f690
                          have tr763 : m_TR (t_up lo684 v742 (I 3905) (8 * (24 - (I 2775)) + (6))) I741a A741a := m_TR_nd (show m_TR lo684 I682a A682a from f691) f747 (show 0 ≤ (I 3905) by omega) (show (I 3905) ≤ v742 by omega) (m_cl_ST (I1 := I) (show m_ST lo I A lo684 I682a A682a from s729) (show m_TR lo I A from hTR) (show 0 ≤ (I 3905) by omega)) (t_N_mk24 t_up_same (show 0 ≤ (I 3905) by omega) (show (I 3905) ≤ v742 by omega) (show 0 ≤ (8 * (24 - (I 2775)) + (6)) by omega) (m_hw (show m_RK lo684 (I 3905) v742 (8 * (24 - (I 2775)) + (5)) from fun q q1 q2 => (show m_RK lo684 (I 3905) (I682a 3905) (8 * (24 - (I 2775)) + (5)) from rk730) q (show (I 3905) ≤ q by omega) (show q < (I682a 3905) by omega)) (m_r8l (by decide))) ⟨m_ch f747 (show (I 3905) ≤ (I 3905) by omega) (show m_kd lo684 I682a A682a (I 3905) (8 * (24 - (I 2775)) + 5) v610 t_E from k731), m_ch f747 (show (I 3905) ≤ (I609a 3905) by omega) (show m_kd lo684 I682a A682a (I609a 3905) (8 * (24 - (I609a 2775)) + 5) v683 t_E from k733), m_od f747 (show m_kd lo684 I682a A682a (I609a 3905) (8 * (24 - (I609a 2775)) + 5) v683 t_E from k733) (show v610 < (I609a 3905) by omega)⟩)
                          have s764 : m_ST lo I A (t_up lo684 v742 (I 3905) (8 * (24 - (I 2775)) + (6))) I741a A741a := m_ST_nd (l := (I 3905)) (show m_ST lo I A lo684 I682a A682a from s729) f747 (show (I 3905) ≤ (I 3905) by omega) (show (I 3905) ≤ (I682a 3905) by omega)
                          have rk765 : m_RK (t_up lo684 v742 (I 3905) (8 * (24 - (I 2775)) + (6))) (I 3905) (I741a 3905) (8 * (24 - (I 2775)) + (6)) := fun q q1 q2 => m_RK_nd (show m_RK lo684 (I 3905) v742 (8 * (24 - (I 2775)) + (5)) from fun q q1 q2 => (show m_RK lo684 (I 3905) (I682a 3905) (8 * (24 - (I 2775)) + (5)) from rk730) q q1 (show q < (I682a 3905) by omega)) (m_r8 (by decide)) (m_r8 (by decide)) q q1 (show q < v742 + 1 by omega)
                          have k766 : m_kd (t_up lo684 v742 (I 3905) (8 * (24 - (I 2775)) + (6))) I741a A741a (I 3905) (8 * (24 - (I 2775)) + (6)) v742 (fun k => k = 24) := m_kd_new f747 (show 0 ≤ (I 3905) by omega) (show (I 3905) ≤ v742 by omega) rfl
                          have rt767 : m_rt (t_up lo684 v742 (I 3905) (8 * (24 - (I 2775)) + (6))) (I741a 3905) v742 := m_rt_new f747
                          show w_W _ _ _ (200, [(2, .int (Int32.ofInt (v610))), (1, .int (Int32.ofInt (k163_0))), (0, .ref 43)], [.int (Int32.ofInt (v742))], M740) _
                          refine w_fin (r := .inl (some (v742))) (M' := M740) rfl ?_
                          exact Or.inl ⟨v742, (t_up lo684 v742 (I 3905) (8 * (24 - (I 2775)) + (6))), I741a, A741a, B741a, C741a, rfl, ⟨by omega, by omega⟩, hR741a, (show m_fx I A I741a A741a by exact (m_fx_trans (m_fx_trans f615 f688) f746)), (show ((0 ≤ (I741a 2774) ∧ (I741a 2774) < (I741a 2754) ∧ (I741a 2754) ≤ 1501 ∧ 0 ≤ (I741a 2775) ∧ (I741a 2775) ≤ 24) ∧ ((I741a 3393) = (I741a 3905) ∧ (I741a 3521) = (I741a 3905) ∧ (I741a 3649) = (I741a 3905) ∧ (I741a 3777) = (I741a 3905) ∧ 0 ≤ (I741a 3905) ∧ (I741a 3905) ≤ 3 * (I741a 2774)) ∧ ((I741a 4161) = (I741a 4033) ∧ 7 ≤ (I741a 4289) ∧ (I741a 4289) ≤ (I741a 4033) ∧ (I741a 4033) ≤ 7 + (I741a 2774)) ∧ 0 ≤ (I741a 5889) ∧ (I741a 5889) ≤ (I741a 2774)) ∧ ((I741a 2754) = (I 2754) ∧ (I 2774) + 1 ≤ (I741a 2774) ∧ (I741a 2775) = (I 2775) ∧ (I741a 4289) = (I 4289) + 0 ∧ (I741a 5889) = (I 5889)) ∧ ((I741a 3905) + 2 ≤ (I 3905) + 3 * ((I741a 2774) - (I 2774)) ∧ (I 3905) ≤ v742 ∧ v742 + 1 = (I741a 3905) ∧ (I 4033) ≤ (I741a 4033) ∧ (I741a 4033) ≤ (I 4033) + ((I741a 2774) - (I 2774))) by (repeat' apply And.intro) <;> first | assumption | omega), (show m_SC I741a A741a by exact sc762), (show m_TR (t_up lo684 v742 (I 3905) (8 * (24 - (I 2775)) + (6))) I741a A741a by exact tr763), (show m_ST lo I A (t_up lo684 v742 (I 3905) (8 * (24 - (I 2775)) + (6))) I741a A741a by exact s764), (show t_I ((A741a 53) (v742)) by exact ((m_kd_K k766 (fun k h => by have h : k = 24 := h; unfold t_I; omega))).2), (show m_rt (t_up lo684 v742 (I 3905) (8 * (24 - (I 2775)) + (6))) (I741a 3905) v742 by exact rt767), (show m_RK (t_up lo684 v742 (I 3905) (8 * (24 - (I 2775)) + (6))) (I 3905) (I741a 3905) (8 * (24 - (I 2775)) + 6) by exact m_RK_le (show m_RK (t_up lo684 v742 (I 3905) (8 * (24 - (I 2775)) + (6))) (I 3905) (I741a 3905) (8 * (24 - (I 2775)) + (6)) from rk765) (show (8 * (24 - (I 2775)) + (6)) ≤ 8 * (24 - (I 2775)) + 6 by omega))⟩
                        · rw [e696]
                          replace hR682b : w_Rep w_TM fr X u l I682b A682b B682b C682b M681 := hR682b
                          replace f697 : m_fx (w_up I609a 2774 ((I609a 2774) + 1)) A609a I682b A682b := f697
                          exact Or.inr (⟨I682b, A682b, B682b, C682b, rfl, hR682b, (show m_fx I A I682b A682b by exact (m_fx_trans f615 f697))⟩)
                      · rw [e670, e671]
                        replace f672 : ¬ ((A609a 45) ((I609a 2774)) = 6 ∧ (A609a 46) ((I609a 2774)) = 61) := f672
                        show w_W _ _ _ (175, [(2, .int (Int32.ofInt (v610))), (1, .int (Int32.ofInt (k163_0))), (0, .ref 43)], [.int (Int32.ofInt (0))], M608) _
                        refine w_adv (n := 2) (F' := (202, [(2, .int (Int32.ofInt (v610))), (1, .int (Int32.ofInt (k163_0))), (0, .ref 43)], [.int (Int32.ofInt (k163_0))], M608)) rfl ?_
                        refine w_br1 (a := k163_0) rfl rfl ⟨by omega, by omega⟩ (fun h768 => ?_) (fun h768 => ?_)
                        · have h768 : k163_0 = 0 := h768
                          show w_W _ _ _ (218, [(2, .int (Int32.ofInt (v610))), (1, .int (Int32.ofInt (k163_0))), (0, .ref 43)], [], M608) _
                          refine w_adv (n := 2) (F' := (220, [(2, .int (Int32.ofInt (v610))), (1, .int (Int32.ofInt (k163_0))), (0, .ref 43)], [.int (Int32.ofInt (1)), .ref 43], M608)) rfl ?_
                          refine w_call (cm := 232) (as := [(0, .ref 43), (1, .int (Int32.ofInt (1)))]) (rest := []) (o := some (9, 43)) rfl (w_fitR hR609a rfl) (m_fail (1) hR609a ⟨by omega, by omega⟩ (show 0 ≤ (I609a 2774) ∧ (I609a 2774) < 1501 by omega) (show 1 ≤ 1 ∧ 1 ≤ 7 by first | assumption | omega)) (fun r769 M770 q771 => ?_)
                          rcases q771 with ⟨I771a, A771a, B771a, C771a, e772, hR771a, f773⟩
                          rw [e772]
                          replace hR771a : w_Rep w_TM fr X u l I771a A771a B771a C771a M770 := hR771a
                          replace f773 : m_fx I609a A609a I771a A771a := f773
                          exact Or.inr (⟨I771a, A771a, B771a, C771a, rfl, hR771a, (show m_fx I A I771a A771a by exact (m_fx_trans f615 f773))⟩)
                        · have h768 : ¬ (k163_0 = 0) := h768
                          show w_W _ _ _ (205, [(2, .int (Int32.ofInt (v610))), (1, .int (Int32.ofInt (k163_0))), (0, .ref 43)], [], M608) _
                          refine w_adv (n := 1) (F' := (206, [(2, .int (Int32.ofInt (v610))), (1, .int (Int32.ofInt (k163_0))), (0, .ref 43)], [.ref 43], M608)) rfl ?_
                          refine w_gf (v := .ref 53) hR609a rfl rfl rfl rfl ?_
                          refine w_adv (n := 1) (F' := (210, [(2, .int (Int32.ofInt (v610))), (1, .int (Int32.ofInt (k163_0))), (0, .ref 43)], [.int (Int32.ofInt (v610)), .ref 53], M608)) rfl ?_
                          obtain ⟨r774a, r774b, r774c⟩ : 0 ≤ (I609a 3393) ∧ (I609a 3393) ≤ (C609a 53 : Int) ∧ (C609a 53 : Int) ≤ 131072 := hR609a.sz (show 53 ∈ w_TM.2.2 by decide)
                          refine w_call (cm := 238) (as := [(0, .ref 53), (1, .int (Int32.ofInt (v610)))]) (rest := []) (o := some (10, 53)) rfl (w_fitR hR609a rfl) (m_get (v610) 53 (by decide) rfl hR609a ⟨by omega, by omega⟩ (show 0 ≤ v610 by first | assumption | omega) (show v610 < (C609a 53 : Int) by first | assumption | omega)) (fun r775 M776 q777 => ?_)
                          rcases q777 with ⟨e778, e779⟩
                          rw [e778, e779]
                          obtain ⟨r780, r781⟩ : -2147483648 ≤ (A609a 53) (v610) ∧ (A609a 53) (v610) ≤ 2147483647 := hR609a.ra 53 (v610)
                          show w_W _ _ _ (213, [(2, .int (Int32.ofInt (v610))), (1, .int (Int32.ofInt (k163_0))), (0, .ref 43)], [.int (Int32.ofInt ((A609a 53) (v610)))], M608) _
                          refine w_adv (n := 1) (F' := (215, [(2, .int (Int32.ofInt (v610))), (1, .int (Int32.ofInt (k163_0))), (0, .ref 43)], [.int (Int32.ofInt (11)), .int (Int32.ofInt ((A609a 53) (v610)))], M608)) rfl ?_
                          refine w_br2 (a := (A609a 53) (v610)) (b := 11) rfl rfl ⟨by omega, by omega⟩ ⟨by omega, by omega⟩ (fun h782 => ?_) (fun h782 => ?_)
                          · have h782 : (A609a 53) (v610) = 11 := h782
                            show w_W _ _ _ (223, [(2, .int (Int32.ofInt (v610))), (1, .int (Int32.ofInt (k163_0))), (0, .ref 43)], [], M608) _
                            skip
                            refine w_adv (n := 1) (F' := (224, [(2, .int (Int32.ofInt (v610))), (1, .int (Int32.ofInt (k163_0))), (0, .ref 43)], [.int (Int32.ofInt (v610))], M608)) rfl ?_
                            refine w_fin (r := .inl (some (v610))) (M' := M608) rfl ?_
                            exact Or.inl ⟨v610, lo611, I609a, A609a, B609a, C609a, rfl, ⟨by omega, by omega⟩, hR609a, (show m_fx I A I609a A609a by exact f615), (show ((0 ≤ (I609a 2774) ∧ (I609a 2774) < (I609a 2754) ∧ (I609a 2754) ≤ 1501 ∧ 0 ≤ (I609a 2775) ∧ (I609a 2775) ≤ 24) ∧ ((I609a 3393) = (I609a 3905) ∧ (I609a 3521) = (I609a 3905) ∧ (I609a 3649) = (I609a 3905) ∧ (I609a 3777) = (I609a 3905) ∧ 0 ≤ (I609a 3905) ∧ (I609a 3905) ≤ 3 * (I609a 2774)) ∧ ((I609a 4161) = (I609a 4033) ∧ 7 ≤ (I609a 4289) ∧ (I609a 4289) ≤ (I609a 4033) ∧ (I609a 4033) ≤ 7 + (I609a 2774)) ∧ 0 ≤ (I609a 5889) ∧ (I609a 5889) ≤ (I609a 2774)) ∧ ((I609a 2754) = (I 2754) ∧ (I 2774) + 1 ≤ (I609a 2774) ∧ (I609a 2775) = (I 2775) ∧ (I609a 4289) = (I 4289) + 0 ∧ (I609a 5889) = (I 5889)) ∧ ((I609a 3905) + 2 ≤ (I 3905) + 3 * ((I609a 2774) - (I 2774)) ∧ (I 3905) ≤ v610 ∧ v610 + 1 = (I609a 3905) ∧ (I 4033) ≤ (I609a 4033) ∧ (I609a 4033) ≤ (I 4033) + ((I609a 2774) - (I 2774))) by (repeat' apply And.intro) <;> first | assumption | omega), (show m_SC I609a A609a by exact f617), (show m_TR lo611 I609a A609a by exact f618), (show m_ST lo I A lo611 I609a A609a by exact s656), (show t_I ((A609a 53) (v610)) by unfold t_I; omega), (show m_rt lo611 (I609a 3905) v610 by exact f621), (show m_RK lo611 (I 3905) (I609a 3905) (8 * (24 - (I 2775)) + 6) by exact m_RK_le (show m_RK lo611 (I 3905) (I609a 3905) (8 * (24 - (I 2775)) + (5)) from rk657) (show (8 * (24 - (I 2775)) + (5)) ≤ 8 * (24 - (I 2775)) + 6 by omega))⟩
                          · have h782 : ¬ ((A609a 53) (v610) = 11) := h782
                            show w_W _ _ _ (218, [(2, .int (Int32.ofInt (v610))), (1, .int (Int32.ofInt (k163_0))), (0, .ref 43)], [], M608) _
                            refine w_adv (n := 2) (F' := (220, [(2, .int (Int32.ofInt (v610))), (1, .int (Int32.ofInt (k163_0))), (0, .ref 43)], [.int (Int32.ofInt (1)), .ref 43], M608)) rfl ?_
                            refine w_call (cm := 232) (as := [(0, .ref 43), (1, .int (Int32.ofInt (1)))]) (rest := []) (o := some (9, 43)) rfl (w_fitR hR609a rfl) (m_fail (1) hR609a ⟨by omega, by omega⟩ (show 0 ≤ (I609a 2774) ∧ (I609a 2774) < 1501 by omega) (show 1 ≤ 1 ∧ 1 ≤ 7 by first | assumption | omega)) (fun r783 M784 q785 => ?_)
                            rcases q785 with ⟨I785a, A785a, B785a, C785a, e786, hR785a, f787⟩
                            rw [e786]
                            replace hR785a : w_Rep w_TM fr X u l I785a A785a B785a C785a M784 := hR785a
                            replace f787 : m_fx I609a A609a I785a A785a := f787
                            exact Or.inr (⟨I785a, A785a, B785a, C785a, rfl, hR785a, (show m_fx I A I785a A785a by exact (m_fx_trans f615 f787))⟩)
                    · rw [e623]
                      replace hR609b : w_Rep w_TM fr X u l I609b A609b B609b C609b M608 := hR609b
                      replace f624 : m_fx I A I609b A609b := f624
                      exact Or.inr (⟨I609b, A609b, B609b, C609b, rfl, hR609b, (show m_fx I A I609b A609b by exact f624)⟩)
                  refine w_adv (n := 2) (F' := (160, [(0, .ref 43)], [.int (Int32.ofInt (123)), .ref 43], M)) rfl ?_
                  refine w_call (cm := 230) (as := [(0, .ref 43), (1, .int (Int32.ofInt (123)))]) (rest := []) (o := some (9, 43)) rfl (w_fitR hR rfl) (m_isSign (123) hR ⟨by omega, by omega⟩ (show 0 ≤ (I 2774) ∧ (I 2774) < 1501 by omega)) (fun r788 M789 q790 => ?_)
                  rcases q790 with ⟨e791, e792, f793⟩ | ⟨e794, e795, f796⟩
                  · rw [e791, e792]
                    replace f793 : (A 45) ((I 2774)) = 6 ∧ (A 46) ((I 2774)) = 123 := f793
                    obtain ⟨n797, n798⟩ := id f793
                    clear f793
                    have w799 : (I 2774) + 1 < (I 2754) := m_TK_lt hTK (show (I 2774) < (I 2754) by omega) (show 1 ≤ (A 45) ((I 2774)) by omega) (show (A 45) ((I 2774)) ≤ 6 by omega)
                    show w_W _ _ _ (163, [(0, .ref 43)], [.int (Int32.ofInt (1))], M) _
                    exact jn163 (1) ⟨by omega, by omega⟩ (show 1 = 0 ∨ 1 = 1 by first | assumption | omega)
                  · rw [e794, e795]
                    replace f796 : ¬ ((A 45) ((I 2774)) = 6 ∧ (A 46) ((I 2774)) = 123) := f796
                    show w_W _ _ _ (163, [(0, .ref 43)], [.int (Int32.ofInt (0))], M) _
                    exact jn163 (0) ⟨by omega, by omega⟩ (show 0 = 0 ∨ 0 = 1 by first | assumption | omega)
