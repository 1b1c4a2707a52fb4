def m_local_Q (fr : Nat → Bool) (X : Nat → Option (q_C (Nat → Int32))) (u l : Nat) (I : Nat → Int) (A : Nat → Int → Int) (B C : Nat → Nat) (M : w_M) (vl : Int) (lo : Int → Int × Int) : w_X → w_M → Prop := fun r M' => (∃ v : Int, ∃ lo' : Int → Int × Int, ∃ (I' : Nat → Int) (A' : Nat → Int → Int) (B' C' : Nat → Nat), (r = .inl (some v)) ∧ (w_in v) ∧ (w_Rep w_TM fr X u l I' A' B' C' M') ∧ (m_fx I A I' A') ∧ (((0 ≤ (I' 2774) ∧ (I' 2774) < (I' 2754) ∧ (I' 2754) ≤ 1501 ∧ 0 ≤ (I' 2775) ∧ (I' 2775) ≤ 24) ∧ ((I' 3393) = (I' 3905) ∧ (I' 3521) = (I' 3905) ∧ (I' 3649) = (I' 3905) ∧ (I' 3777) = (I' 3905) ∧ 0 ≤ (I' 3905) ∧ (I' 3905) ≤ 3 * (I' 2774)) ∧ ((I' 4161) = (I' 4033) ∧ 7 ≤ (I' 4289) ∧ (I' 4289) ≤ (I' 4033) ∧ (I' 4033) ≤ 7 + (I' 2774)) ∧ 0 ≤ (I' 5889) ∧ (I' 5889) ≤ (I' 2774)) ∧ ((I' 2754) = (I 2754) ∧ (I 2774) + 1 ≤ (I' 2774) ∧ (I' 2775) = (I 2775) ∧ (I' 4289) = (I 4289) + 0 ∧ (I' 5889) = (I 5889)) ∧ ((I' 3905) + 2 ≤ (I 3905) + 3 * ((I' 2774) - (I 2774)) ∧ (I 3905) ≤ v ∧ v + 1 = (I' 3905) ∧ (I 4033) ≤ (I' 4033) ∧ (I' 4033) ≤ (I 4033) + ((I' 2774) - (I 2774)))) ∧ (m_SC I' A') ∧ (m_TR lo' I' A') ∧ (m_ST lo I A lo' I' A') ∧ ((fun k => k = 14) ((A' 53) (v))) ∧ (m_rt lo' (I' 3905) v) ∧ (m_RK lo' (I 3905) (I' 3905) (8 * (24 - (I 2775)) + 0))) ∨ (∃ (I' : Nat → Int) (A' : Nat → Int → Int) (B' C' : Nat → Nat), (r = .inr 69) ∧ (w_Rep w_TM fr X u l I' A' B' C' M') ∧ (m_fx I A I' A'))
set_option maxHeartbeats 100000000 in
set_option maxRecDepth 100000 in
theorem m_local {L : Nat} {xs : Nat → Int32} {d : Nat} {fr : Nat → Bool} {X : Nat → Option (q_C (Nat → Int32))} {u l : Nat} {I : Nat → Int} {A : Nat → Int → Int} {B C : Nat → Nat} {M : w_M} {N : Int} (hA : m_all L xs N) (vl : Int) (lo : Int → Int × Int) (hR : w_Rep w_TM fr X u l I A B C M) (hd : 20 * (24 - (I 2775)) + 11 ≤ (d : Int)) (r_vl : w_in vl) (hTK : m_TK I A) (hNU : (0 ≤ (I 2774) ∧ (I 2774) < (I 2754) ∧ (I 2754) ≤ 1501 ∧ 0 ≤ (I 2775) ∧ (I 2775) ≤ 24) ∧ ((I 3393) = (I 3905) ∧ (I 3521) = (I 3905) ∧ (I 3649) = (I 3905) ∧ (I 3777) = (I 3905) ∧ 0 ≤ (I 3905) ∧ (I 3905) ≤ 3 * (I 2774)) ∧ ((I 4161) = (I 4033) ∧ 7 ≤ (I 4289) ∧ (I 4289) ≤ (I 4033) ∧ (I 4033) ≤ 7 + (I 2774)) ∧ 0 ≤ (I 5889) ∧ (I 5889) ≤ (I 2774)) (hSC : m_SC I A) (hTR : m_TR lo I A) (hk : 1 ≤ (A 45) ((I 2774)) ∧ (A 45) ((I 2774)) ≤ 6) (hm : (I 2754) - (I 2774) ≤ N) : w_W (z_P L xs) d 234 (0, [(0, .ref 43), (1, .int (Int32.ofInt (vl)))], [], M) (m_local_Q fr X u l I A B C M vl lo) := by
  obtain ⟨ra_vl, rb_vl⟩ := r_vl
  obtain ⟨d, rfl⟩ : ∃ d0, d = d0 + 1 := ⟨d - 1, by omega⟩
  have wl : (I 2774) + 1 < (I 2754) := m_TK_lt hTK (by omega) (by omega) (by omega)
  refine w_adv (n := 1) (F' := (1, [(0, .ref 43), (1, .int (Int32.ofInt (vl)))], [.ref 43], M)) rfl ?_
  refine w_gf (v := .ref 67) hR rfl rfl rfl rfl ?_
  refine w_gf (v := .int (Int32.ofInt ((I 4289)))) hR rfl rfl rfl rfl ?_
  obtain ⟨r1, r2⟩ : -2147483648 ≤ (I 4289) ∧ (I 4289) ≤ 2147483647 := hR.ri 4289
  obtain ⟨r3a, r3b, r3c⟩ : 0 ≤ (I 4289) ∧ (I 4289) ≤ (C 67 : Int) ∧ (C 67 : Int) ≤ 131072 := hR.sz (show 67 ∈ w_TM.2.2 by decide)
  refine w_adv (n := 2) (F' := (9, [(2, .int (Int32.ofInt ((I 4289)))), (0, .ref 43), (1, .int (Int32.ofInt (vl)))], [.ref 43], M)) rfl ?_
  refine w_call (cm := 235) (as := [(0, .ref 43)]) (rest := []) (o := some (9, 43)) rfl (w_fitR hR rfl) (m_enter hR (show 2 ≤ d by omega) (show 0 ≤ (I 2774) ∧ (I 2774) < 1501 by omega) (show 0 ≤ (I 2775) ∧ (I 2775) ≤ 24 by first | assumption | omega)) (fun r4 M5 q6 => ?_)
  rcases q6 with ⟨e7, hR6a, f8⟩ | ⟨I6b, A6b, B6b, C6b, e9, hR6b, f10⟩
  · rw [e7]
    replace hR6a : w_Rep w_TM fr X u l (w_up (w_up I 2775 ((I 2775) + 1)) 2774 ((I 2774) + 1)) A B C M5 := hR6a
    replace f8 : (I 2775) < 24 := f8
    have w11 : (I 2774) + 1 < (I 2754) := m_TK_lt hTK (show (I 2774) < (I 2754) by omega) (show 1 ≤ (A 45) ((I 2774)) by omega) (show (A 45) ((I 2774)) ≤ 6 by omega)
    show w_W _ _ _ (12, [(2, .int (Int32.ofInt ((I 4289)))), (0, .ref 43), (1, .int (Int32.ofInt (vl)))], [], M5) _
    refine w_adv (n := 1) (F' := (13, [(2, .int (Int32.ofInt ((I 4289)))), (0, .ref 43), (1, .int (Int32.ofInt (vl)))], [.ref 43], M5)) rfl ?_
    refine w_gf (v := .ref 45) hR6a rfl rfl rfl rfl ?_
    refine w_adv (n := 1) (F' := (17, [(2, .int (Int32.ofInt ((I 4289)))), (0, .ref 43), (1, .int (Int32.ofInt (vl)))], [.ref 43, .ref 45], M5)) rfl ?_
    refine w_gf (v := .int (Int32.ofInt ((I 2774) + 1))) hR6a rfl rfl rfl rfl ?_
    obtain ⟨r12, r13⟩ : -2147483648 ≤ (I 2774) + 1 ∧ (I 2774) + 1 ≤ 2147483647 := hR6a.ri 2774
    refine w_la (n := 1502) hR6a rfl (Or.inl ⟨rfl, rfl⟩) rfl (show 0 ≤ (I 2774) + 1 by omega) (show (I 2774) + 1 < (1502 : Int) by omega) (by decide) ?_
    obtain ⟨r14, r15⟩ : -2147483648 ≤ (A 45) ((I 2774) + 1) ∧ (A 45) ((I 2774) + 1) ≤ 2147483647 := hR6a.ra 45 ((I 2774) + 1)
    show w_W _ _ _ (21, [(2, .int (Int32.ofInt ((I 4289)))), (0, .ref 43), (1, .int (Int32.ofInt (vl)))], [.int (Int32.ofInt ((A 45) ((I 2774) + 1)))], M5) _
    refine w_adv (n := 1) (F' := (22, [(2, .int (Int32.ofInt ((I 4289)))), (0, .ref 43), (1, .int (Int32.ofInt (vl)))], [.int (Int32.ofInt (2)), .int (Int32.ofInt ((A 45) ((I 2774) + 1)))], M5)) rfl ?_
    refine w_br2 (a := (A 45) ((I 2774) + 1)) (b := 2) rfl rfl ⟨by omega, by omega⟩ ⟨by omega, by omega⟩ (fun h16 => ?_) (fun h16 => ?_)
    · have h16 : (A 45) ((I 2774) + 1) = 2 := h16
      have w17 : ((I 2774) + 1) + 1 < (I 2754) := m_TK_lt hTK (by omega) (by omega) (by omega)
      show w_W _ _ _ (30, [(2, .int (Int32.ofInt ((I 4289)))), (0, .ref 43), (1, .int (Int32.ofInt (vl)))], [], M5) _
      refine w_adv (n := 1) (F' := (31, [(2, .int (Int32.ofInt ((I 4289)))), (0, .ref 43), (1, .int (Int32.ofInt (vl)))], [.ref 43], M5)) rfl ?_
      refine w_call (cm := 236) (as := [(0, .ref 43)]) (rest := []) (o := some (9, 43)) rfl (w_fitR hR6a rfl) (m_binds (lo) hR6a (show 20 * (24 - ((I 2775) + 1)) + 8 ≤ (d : Int) by omega) (show m_TK (w_up (w_up I 2775 ((I 2775) + 1)) 2774 ((I 2774) + 1)) A by exact hTK) (show (0 ≤ (I 2774) + 1 ∧ (I 2774) + 1 < (I 2754) ∧ (I 2754) ≤ 1501 ∧ 0 ≤ (I 2775) + 1 ∧ (I 2775) + 1 ≤ 24) ∧ ((I 3393) = (I 3905) ∧ (I 3521) = (I 3905) ∧ (I 3649) = (I 3905) ∧ (I 3777) = (I 3905) ∧ 0 ≤ (I 3905) ∧ (I 3905) ≤ 3 * ((I 2774) + 1)) ∧ ((I 4161) = (I 4033) ∧ 7 ≤ (I 4289) ∧ (I 4289) ≤ (I 4033) ∧ (I 4033) ≤ 7 + ((I 2774) + 1)) ∧ 0 ≤ (I 5889) ∧ (I 5889) ≤ (I 2774) + 1 by (repeat' apply And.intro) <;> first | assumption | omega) (show m_SC (w_up (w_up I 2775 ((I 2775) + 1)) 2774 ((I 2774) + 1)) A by exact hSC) (show m_TR lo (w_up (w_up I 2775 ((I 2775) + 1)) 2774 ((I 2774) + 1)) A by exact hTR)) (fun r18 M19 q20 => ?_)
      rcases q20 with ⟨v21, lo22, I20a, A20a, B20a, C20a, e23, ⟨r24, r25⟩, hR20a, f26, f27, f28, f29, f30, f31, f32, f33⟩ | ⟨I20b, A20b, B20b, C20b, e34, hR20b, f35⟩
      · rw [e23]
        replace hR20a : w_Rep w_TM fr X u l I20a A20a B20a C20a M19 := hR20a
        replace f26 : m_fx (w_up (w_up I 2775 ((I 2775) + 1)) 2774 ((I 2774) + 1)) A I20a A20a := f26
        replace f27 : ((0 ≤ (I20a 2774) ∧ (I20a 2774) < (I20a 2754) ∧ (I20a 2754) ≤ 1501 ∧ 0 ≤ (I20a 2775) ∧ (I20a 2775) ≤ 24) ∧ ((I20a 3393) = (I20a 3905) ∧ (I20a 3521) = (I20a 3905) ∧ (I20a 3649) = (I20a 3905) ∧ (I20a 3777) = (I20a 3905) ∧ 0 ≤ (I20a 3905) ∧ (I20a 3905) ≤ 3 * (I20a 2774)) ∧ ((I20a 4161) = (I20a 4033) ∧ 7 ≤ (I20a 4289) ∧ (I20a 4289) ≤ (I20a 4033) ∧ (I20a 4033) ≤ 7 + (I20a 2774)) ∧ 0 ≤ (I20a 5889) ∧ (I20a 5889) ≤ (I20a 2774)) ∧ ((I20a 2754) = (I 2754) ∧ ((I 2774) + 1) + 0 ≤ (I20a 2774) ∧ (I20a 2775) = (I 2775) + 1 ∧ (I 4289) ≤ (I20a 4289) ∧ (I20a 5889) = (I 5889)) ∧ ((I20a 3905) + 0 ≤ (I 3905) + 3 * ((I20a 2774) - ((I 2774) + 1)) ∧ (I 3905) ≤ (I20a 3905) ∧ -1 ≤ v21 ∧ v21 < (I20a 3905) ∧ (I 4033) ≤ (I20a 4033) ∧ (I20a 4033) ≤ (I 4033) + ((I20a 2774) - ((I 2774) + 1))) := f27
        obtain ⟨⟨⟨n36, n37, n38, n39, n40⟩, ⟨n41, n42, n43, n44, n45, n46⟩, ⟨n47, n48, n49, n50⟩, n51, n52⟩, ⟨n53, n54, n55, n56, n57⟩, ⟨n58, n59, n60, n61, n62, n63⟩⟩ := id f27
        clear f27
        replace f28 : m_SC I20a A20a := f28
        replace f29 : m_TR lo22 I20a A20a := f29
        replace f30 : m_ST lo (w_up (w_up I 2775 ((I 2775) + 1)) 2774 ((I 2774) + 1)) A lo22 I20a A20a := f30
        replace f31 : v21 = -1 ∨ m_kd lo22 I20a A20a (I 3905) (8 * (24 - ((I 2775) + 1)) + 0) v21 (fun k => k = 28) := f31
        replace f32 : v21 = -1 ∨ m_rt lo22 (I20a 3905) v21 := f32
        replace f33 : m_RK lo22 (I 3905) (I20a 3905) (8 * (24 - ((I 2775) + 1)) + 0) := f33
        have tk64 : m_TK I20a A20a := m_TK_fx f26 hTK
        have nn65 : (I 3905) ≤ (I20a 3905) := by omega
        have nz66 : 0 ≤ (I 3905) := by first | assumption | omega
        have ho67 : (I 2775) + 1 = (I 2775) + (1) := by omega
        have rk69 : m_RK lo22 (I 3905) (I20a 3905) (8 * (24 - (I 2775)) + (-8)) := m_RK_app (I := (w_up (w_up I 2775 ((I 2775) + 1)) 2774 ((I 2774) + 1))) (I' := I20a) (R := (8 * (24 - (I 2775)) + (-8))) (show m_RK lo (I 3905) (I 3905) (8 * (24 - (I 2775)) + (-8)) from fun q q1 q2 => by omega) f30 f33 (show 0 ≤ (I 3905) by first | assumption | omega) (m_r8 (by decide)) (m_r8o (k := 1) ho67 (by decide))
        have s68 : m_ST lo I A lo22 I20a A20a := f30
        show w_W _ _ _ (34, [(2, .int (Int32.ofInt ((I 4289)))), (0, .ref 43), (1, .int (Int32.ofInt (vl)))], [.int (Int32.ofInt (v21))], M19) _
        refine w_adv (n := 3) (F' := (37, [(3, .int (Int32.ofInt (v21))), (2, .int (Int32.ofInt ((I 4289)))), (0, .ref 43), (1, .int (Int32.ofInt (vl)))], [.int (Int32.ofInt (2)), .ref 43], M19)) rfl ?_
        refine w_call (cm := 241) (as := [(0, .ref 43), (1, .int (Int32.ofInt (2)))]) (rest := []) (o := some (9, 43)) rfl (w_fitR hR20a rfl) (m_needWord (2) hR20a (show 2 ≤ d by omega) ⟨by omega, by omega⟩ (show 0 ≤ (I20a 2774) ∧ (I20a 2774) < 1501 by omega)) (fun r70 M71 q72 => ?_)
        rcases q72 with ⟨e73, hR72a, f74⟩ | ⟨I72b, A72b, B72b, C72b, e75, hR72b, f76⟩
        · rw [e73]
          replace hR72a : w_Rep w_TM fr X u l (w_up I20a 2774 ((I20a 2774) + 1)) A20a B20a C20a M71 := hR72a
          replace f74 : (A20a 45) ((I20a 2774)) = 5 ∧ (A20a 46) ((I20a 2774)) = 2 := f74
          obtain ⟨n77, n78⟩ := id f74
          clear f74
          have w79 : (I20a 2774) + 1 < (I20a 2754) := m_TK_lt tk64 (show (I20a 2774) < (I20a 2754) by omega) (show 1 ≤ (A20a 45) ((I20a 2774)) by omega) (show (A20a 45) ((I20a 2774)) ≤ 6 by omega)
          show w_W _ _ _ (40, [(3, .int (Int32.ofInt (v21))), (2, .int (Int32.ofInt ((I 4289)))), (0, .ref 43), (1, .int (Int32.ofInt (vl)))], [], M71) _
          refine w_adv (n := 2) (F' := (42, [(3, .int (Int32.ofInt (v21))), (2, .int (Int32.ofInt ((I 4289)))), (0, .ref 43), (1, .int (Int32.ofInt (vl)))], [.int (Int32.ofInt (vl)), .ref 43], M71)) rfl ?_
          refine w_call (cm := 242) (as := [(0, .ref 43), (1, .int (Int32.ofInt (vl)))]) (rest := []) (o := some (9, 43)) rfl (w_fitR hR72a rfl) (m_bodyOr hA (vl) (lo22) hR72a (show 20 * (24 - (I20a 2775)) + 21 ≤ (d : Int) by omega) ⟨by omega, by omega⟩ (show m_TK (w_up I20a 2774 ((I20a 2774) + 1)) A20a by exact tk64) (show (0 ≤ (I20a 2774) + 1 ∧ (I20a 2774) + 1 < (I20a 2754) ∧ (I20a 2754) ≤ 1501 ∧ 0 ≤ (I20a 2775) ∧ (I20a 2775) ≤ 24) ∧ ((I20a 3393) = (I20a 3905) ∧ (I20a 3521) = (I20a 3905) ∧ (I20a 3649) = (I20a 3905) ∧ (I20a 3777) = (I20a 3905) ∧ 0 ≤ (I20a 3905) ∧ (I20a 3905) ≤ 3 * ((I20a 2774) + 1)) ∧ ((I20a 4161) = (I20a 4033) ∧ 7 ≤ (I20a 4289) ∧ (I20a 4289) ≤ (I20a 4033) ∧ (I20a 4033) ≤ 7 + ((I20a 2774) + 1)) ∧ 0 ≤ (I20a 5889) ∧ (I20a 5889) ≤ (I20a 2774) + 1 by (repeat' apply And.intro) <;> first | assumption | omega) (show m_SC (w_up I20a 2774 ((I20a 2774) + 1)) A20a by exact f28) (show m_TR lo22 (w_up I20a 2774 ((I20a 2774) + 1)) A20a by exact f29) (show (I20a 2754) - ((I20a 2774) + 1) < N by first | assumption | omega)) (fun r80 M81 q82 => ?_)
          rcases q82 with ⟨v83, lo84, I82a, A82a, B82a, C82a, e85, ⟨r86, r87⟩, hR82a, f88, f89, f90, f91, f92, f93, f94, f95⟩ | ⟨I82b, A82b, B82b, C82b, e96, hR82b, f97⟩
          · rw [e85]
            replace hR82a : w_Rep w_TM fr X u l I82a A82a B82a C82a M81 := hR82a
            replace f88 : m_fx (w_up I20a 2774 ((I20a 2774) + 1)) A20a I82a A82a := f88
            replace f89 : ((0 ≤ (I82a 2774) ∧ (I82a 2774) < (I82a 2754) ∧ (I82a 2754) ≤ 1501 ∧ 0 ≤ (I82a 2775) ∧ (I82a 2775) ≤ 24) ∧ ((I82a 3393) = (I82a 3905) ∧ (I82a 3521) = (I82a 3905) ∧ (I82a 3649) = (I82a 3905) ∧ (I82a 3777) = (I82a 3905) ∧ 0 ≤ (I82a 3905) ∧ (I82a 3905) ≤ 3 * (I82a 2774)) ∧ ((I82a 4161) = (I82a 4033) ∧ 7 ≤ (I82a 4289) ∧ (I82a 4289) ≤ (I82a 4033) ∧ (I82a 4033) ≤ 7 + (I82a 2774)) ∧ 0 ≤ (I82a 5889) ∧ (I82a 5889) ≤ (I82a 2774)) ∧ ((I82a 2754) = (I20a 2754) ∧ ((I20a 2774) + 1) + 1 ≤ (I82a 2774) ∧ (I82a 2775) = (I20a 2775) ∧ (I82a 4289) = (I20a 4289) + 0 ∧ (I82a 5889) = (I20a 5889)) ∧ ((I82a 3905) + 1 ≤ (I20a 3905) + 3 * ((I82a 2774) - ((I20a 2774) + 1)) ∧ (I20a 3905) ≤ v83 ∧ v83 + 1 = (I82a 3905) ∧ (I20a 4033) ≤ (I82a 4033) ∧ (I82a 4033) ≤ (I20a 4033) + ((I82a 2774) - ((I20a 2774) + 1))) := f89
            obtain ⟨⟨⟨n98, n99, n100, n101, n102⟩, ⟨n103, n104, n105, n106, n107, n108⟩, ⟨n109, n110, n111, n112⟩, n113, n114⟩, ⟨n115, n116, n117, n118, n119⟩, ⟨n120, n121, n122, n123, n124⟩⟩ := id f89
            clear f89
            replace f90 : m_SC I82a A82a := f90
            replace f91 : m_TR lo84 I82a A82a := f91
            replace f92 : m_ST lo22 (w_up I20a 2774 ((I20a 2774) + 1)) A20a lo84 I82a A82a := f92
            replace f93 : t_B ((A82a 53) (v83)) := f93
            replace f94 : m_rt lo84 (I82a 3905) v83 := f94
            replace f95 : m_RK lo84 (I20a 3905) (I82a 3905) (8 * (24 - (I20a 2775)) + 7) := f95
            have tk125 : m_TK I82a A82a := m_TK_fx f88 tk64
            have nn126 : (I20a 3905) ≤ (I82a 3905) := by omega
            have nz127 : 0 ≤ (I20a 3905) := by first | assumption | omega
            have ho128 : (I20a 2775) = (I 2775) + (1) := by omega
            have rk130 : m_RK lo84 (I 3905) (I82a 3905) (8 * (24 - (I 2775)) + (-1)) := m_RK_app (I := (w_up I20a 2774 ((I20a 2774) + 1))) (I' := I82a) (R := (8 * (24 - (I 2775)) + (-8))) (show m_RK lo22 (I 3905) (I20a 3905) (8 * (24 - (I 2775)) + (-8)) from rk69) f92 f95 (show 0 ≤ (I 3905) by first | assumption | omega) (m_r8 (by decide)) (m_r8o (k := 1) ho128 (by decide))
            have s129 : m_ST lo I A lo84 I82a A82a := m_ST_trans (show m_ST lo I A lo22 (w_up I20a 2774 ((I20a 2774) + 1)) A20a from s68) f92 (show 0 ≤ (I 3905) by first | assumption | omega) (show (I 3905) ≤ (I20a 3905) by first | assumption | omega) (show (I 4289) ≤ (I20a 4289) by first | assumption | omega) (show (I 5889) ≤ (I20a 5889) by first | assumption | omega)
            have o131 : v21 = -1 ∨ m_kd lo84 I82a A82a (I 3905) (8 * (24 - ((I 2775) + 1)) + 0) v21 (fun k => k = 28) := (show v21 = -1 ∨ m_kd lo22 (w_up I20a 2774 ((I20a 2774) + 1)) A20a (I 3905) (8 * (24 - ((I 2775) + 1)) + 0) v21 (fun k => k = 28) from f31).imp_right (fun q => m_kd_ST f92 nn126 q)
            have k132 : m_kd lo84 I82a A82a (I20a 3905) (8 * (24 - (I20a 2775)) + 7) v83 t_B := m_kd_of f92 f91 nz127 (show (I20a 3905) ≤ v83 by first | assumption | omega) (show v83 < (I82a 3905) by omega) f93 f95
            obtain ⟨j133, j134, j135, j136, j137⟩ := k132.1
            show w_W _ _ _ (45, [(3, .int (Int32.ofInt (v21))), (2, .int (Int32.ofInt ((I 4289)))), (0, .ref 43), (1, .int (Int32.ofInt (vl)))], [.int (Int32.ofInt (v83))], M81) _
            refine w_adv (n := 3) (F' := (49, [(4, .int (Int32.ofInt (v83))), (3, .int (Int32.ofInt (v21))), (2, .int (Int32.ofInt ((I 4289)))), (0, .ref 43), (1, .int (Int32.ofInt (vl)))], [.int (Int32.ofInt (3)), .ref 43], M81)) rfl ?_
            refine w_call (cm := 244) (as := [(0, .ref 43), (1, .int (Int32.ofInt (3)))]) (rest := []) (o := some (9, 43)) rfl (w_fitR hR82a rfl) (m_closeWord (3) hR82a (show 3 ≤ d by omega) ⟨by omega, by omega⟩ (show 0 ≤ (I82a 2774) ∧ (I82a 2774) < 1501 by omega) (show 1 ≤ (I82a 2775) ∧ (I82a 2775) ≤ 24 by first | assumption | omega)) (fun r138 M139 q140 => ?_)
            rcases q140 with ⟨e141, hR140a, f142⟩ | ⟨I140b, A140b, B140b, C140b, e143, hR140b, f144⟩
            · rw [e141]
              replace hR140a : w_Rep w_TM fr X u l (w_up (w_up I82a 2774 ((I82a 2774) + 1)) 2775 ((I82a 2775) - 1)) A82a B82a C82a M139 := hR140a
              replace f142 : (A82a 45) ((I82a 2774)) = 5 ∧ (A82a 46) ((I82a 2774)) = 3 := f142
              obtain ⟨n145, n146⟩ := id f142
              clear f142
              have w147 : (I82a 2774) + 1 < (I82a 2754) := m_TK_lt tk125 (show (I82a 2774) < (I82a 2754) by omega) (show 1 ≤ (A82a 45) ((I82a 2774)) by omega) (show (A82a 45) ((I82a 2774)) ≤ 6 by omega)
              show w_W _ _ _ (52, [(4, .int (Int32.ofInt (v83))), (3, .int (Int32.ofInt (v21))), (2, .int (Int32.ofInt ((I 4289)))), (0, .ref 43), (1, .int (Int32.ofInt (vl)))], [], M139) _
              refine w_adv (n := 1) (F' := (53, [(4, .int (Int32.ofInt (v83))), (3, .int (Int32.ofInt (v21))), (2, .int (Int32.ofInt ((I 4289)))), (0, .ref 43), (1, .int (Int32.ofInt (vl)))], [.ref 43], M139)) rfl ?_
              refine w_gf (v := .ref 67) hR140a rfl rfl rfl rfl ?_
              refine w_adv (n := 1) (F' := (57, [(4, .int (Int32.ofInt (v83))), (3, .int (Int32.ofInt (v21))), (2, .int (Int32.ofInt ((I 4289)))), (0, .ref 43), (1, .int (Int32.ofInt (vl)))], [.int (Int32.ofInt ((I 4289))), .ref 67], M139)) rfl ?_
              obtain ⟨r148a, r148b, r148c⟩ : 0 ≤ (I82a 4289) ∧ (I82a 4289) ≤ (C82a 67 : Int) ∧ (C82a 67 : Int) ≤ 131072 := hR140a.sz (show 67 ∈ w_TM.2.2 by decide)
              refine w_pf hR140a rfl rfl rfl rfl (show w_in ((I 4289)) from ⟨by omega, by omega⟩) (fun _ _ => (show 0 ≤ (I 4289) ∧ (I 4289) ≤ (C82a 67 : Int) by omega)) (fun M149 hR150 => ?_)
              replace hR150 : w_Rep w_TM fr X u l (w_up (w_up (w_up I82a 2774 ((I82a 2774) + 1)) 2775 ((I82a 2775) - 1)) 4289 ((I 4289))) A82a B82a C82a M149 := hR150
              have sc151 : m_SC (w_up (w_up (w_up I82a 2774 ((I82a 2774) + 1)) 2775 ((I82a 2775) - 1)) 4289 ((I 4289))) A82a := m_SC_cut f90 (show (I 4289) ≤ (I82a 4289) by omega) rfl rfl
              refine w_adv (n := 5) (F' := (67, [(4, .int (Int32.ofInt (v83))), (3, .int (Int32.ofInt (v21))), (2, .int (Int32.ofInt ((I 4289)))), (0, .ref 43), (1, .int (Int32.ofInt (vl)))], [.int (Int32.ofInt (0)), .int (Int32.ofInt (v83)), .int (Int32.ofInt (v21)), .int (Int32.ofInt (14)), .ref 43], M149)) rfl ?_
              refine w_call (cm := 239) (as := [(0, .ref 43), (1, .int (Int32.ofInt (14))), (2, .int (Int32.ofInt (v21))), (3, .int (Int32.ofInt (v83))), (4, .int (Int32.ofInt (0)))]) (rest := []) (o := some (9, 43)) rfl (w_fitR hR150 rfl) (m_node (14) (v21) (v83) (0) hR150 (show 2 ≤ d by omega) ⟨by omega, by omega⟩ ⟨by omega, by omega⟩ ⟨by omega, by omega⟩ ⟨by omega, by omega⟩ (show (I82a 3393) = (I82a 3905) by first | assumption | omega) (show (I82a 3521) = (I82a 3905) by first | assumption | omega) (show (I82a 3649) = (I82a 3905) by first | assumption | omega) (show (I82a 3777) = (I82a 3905) by first | assumption | omega) (show (I82a 3905) < 65536 by first | assumption | omega)) (fun r152 M153 q154 => ?_)
              rcases q154 with ⟨v155, I154a, A154a, B154a, C154a, e156, ⟨r157, r158⟩, hR154a, f159, f160⟩
              rw [e156]
              replace hR154a : w_Rep w_TM fr X u l I154a A154a B154a C154a M153 := hR154a
              replace f159 : m_fx (w_up (w_up (w_up I82a 2774 ((I82a 2774) + 1)) 2775 ((I82a 2775) - 1)) 4289 ((I 4289))) A82a I154a A154a := f159
              replace f160 : m_nd (w_up (w_up (w_up I82a 2774 ((I82a 2774) + 1)) 2775 ((I82a 2775) - 1)) 4289 ((I 4289))) A82a I154a A154a v155 14 v21 v83 0 := f160
              obtain ⟨⟨n161, n162, n163, n164, n165, n166⟩, ⟨n167, n168, n169, n170, n171, n172, n173⟩⟩ : (v155 = (I82a 3905) ∧ (I154a 3905) = (I82a 3905) + 1 ∧ (I154a 3393) = (I82a 3393) + 1 ∧ (I154a 3521) = (I82a 3521) + 1 ∧ (I154a 3649) = (I82a 3649) + 1 ∧ (I154a 3777) = (I82a 3777) + 1) ∧ ((I154a 2774) = (I82a 2774) + 1 ∧ (I154a 2754) = (I82a 2754) ∧ (I154a 2775) = (I82a 2775) - 1 ∧ (I154a 4289) = (I 4289) ∧ (I154a 4033) = (I82a 4033) ∧ (I154a 4161) = (I82a 4161) ∧ (I154a 5889) = (I82a 5889)) := m_nd_num f160
              have tk174 : m_TK I154a A154a := m_TK_fx f159 tk125
              have sc175 : m_SC I154a A154a := m_SC_nd f160 sc151
              have tr176 : m_TR (t_up lo84 v155 (I 3905) (8 * (24 - (I 2775)) + (0))) I154a A154a := m_TR_nd (show m_TR lo84 (w_up (w_up (w_up I82a 2774 ((I82a 2774) + 1)) 2775 ((I82a 2775) - 1)) 4289 ((I 4289))) A82a from f91) f160 (show 0 ≤ (I 3905) by omega) (show (I 3905) ≤ v155 by omega) (m_cl_ST (show m_ST lo I A lo84 (w_up (w_up (w_up I82a 2774 ((I82a 2774) + 1)) 2775 ((I82a 2775) - 1)) 4289 ((I 4289))) A82a from s129) hTR (show 0 ≤ (I 3905) by omega)) (t_N_mk14 t_up_same (show 0 ≤ (I 3905) by omega) (show (I 3905) ≤ v155 by omega) (show 0 ≤ (8 * (24 - (I 2775)) + (0)) by omega) (m_hw (show m_RK lo84 (I 3905) v155 (8 * (24 - (I 2775)) + (-1)) from fun q q1 q2 => (show m_RK lo84 (I 3905) (I82a 3905) (8 * (24 - (I 2775)) + (-1)) from rk130) q (show (I 3905) ≤ q by omega) (show q < (I82a 3905) by omega)) (m_r8l (by decide))) ⟨((show v21 = -1 ∨ m_kd lo84 (w_up (w_up (w_up I82a 2774 ((I82a 2774) + 1)) 2775 ((I82a 2775) - 1)) 4289 ((I 4289))) A82a (I 3905) (8 * (24 - ((I 2775) + 1)) + 0) v21 (fun k => k = 28) from o131).imp_right (fun q => m_ch f160 (show (I 3905) ≤ (I 3905) by omega) q)), m_ch f160 (show (I 3905) ≤ (I20a 3905) by omega) k132, ((show v21 = -1 ∨ m_kd lo84 (w_up (w_up (w_up I82a 2774 ((I82a 2774) + 1)) 2775 ((I82a 2775) - 1)) 4289 ((I 4289))) A82a (I 3905) (8 * (24 - ((I 2775) + 1)) + 0) v21 (fun k => k = 28) from o131).imp_right (fun q => m_od f160 k132 (show v21 < (I20a 3905) by have := q.1; omega))), (by omega)⟩)
              have s177 : m_ST lo I A (t_up lo84 v155 (I 3905) (8 * (24 - (I 2775)) + (0))) I154a A154a := m_ST_nd (l := (I 3905)) (show m_ST lo I A lo84 (w_up (w_up (w_up I82a 2774 ((I82a 2774) + 1)) 2775 ((I82a 2775) - 1)) 4289 ((I 4289))) A82a from s129) f160 (show (I 3905) ≤ (I 3905) by omega) (show (I 3905) ≤ (I82a 3905) by omega)
              have rk178 : m_RK (t_up lo84 v155 (I 3905) (8 * (24 - (I 2775)) + (0))) (I 3905) (I154a 3905) (8 * (24 - (I 2775)) + (0)) := fun q q1 q2 => m_RK_nd (show m_RK lo84 (I 3905) v155 (8 * (24 - (I 2775)) + (-1)) from fun q q1 q2 => (show m_RK lo84 (I 3905) (I82a 3905) (8 * (24 - (I 2775)) + (-1)) from rk130) q q1 (show q < (I82a 3905) by omega)) (m_r8 (by decide)) (m_r8 (by decide)) q q1 (show q < v155 + 1 by omega)
              have k179 : m_kd (t_up lo84 v155 (I 3905) (8 * (24 - (I 2775)) + (0))) I154a A154a (I 3905) (8 * (24 - (I 2775)) + (0)) v155 (fun k => k = 14) := m_kd_new f160 (show 0 ≤ (I 3905) by omega) (show (I 3905) ≤ v155 by omega) rfl
              have rt180 : m_rt (t_up lo84 v155 (I 3905) (8 * (24 - (I 2775)) + (0))) (I154a 3905) v155 := m_rt_new f160
              show w_W _ _ _ (70, [(4, .int (Int32.ofInt (v83))), (3, .int (Int32.ofInt (v21))), (2, .int (Int32.ofInt ((I 4289)))), (0, .ref 43), (1, .int (Int32.ofInt (vl)))], [.int (Int32.ofInt (v155))], M153) _
              refine w_fin (r := .inl (some (v155))) (M' := M153) rfl ?_
              exact Or.inl ⟨v155, (t_up lo84 v155 (I 3905) (8 * (24 - (I 2775)) + (0))), I154a, A154a, B154a, C154a, rfl, ⟨by omega, by omega⟩, hR154a, (show m_fx I A I154a A154a by exact (m_fx_trans (m_fx_trans f26 f88) f159)), (show ((0 ≤ (I154a 2774) ∧ (I154a 2774) < (I154a 2754) ∧ (I154a 2754) ≤ 1501 ∧ 0 ≤ (I154a 2775) ∧ (I154a 2775) ≤ 24) ∧ ((I154a 3393) = (I154a 3905) ∧ (I154a 3521) = (I154a 3905) ∧ (I154a 3649) = (I154a 3905) ∧ (I154a 3777) = (I154a 3905) ∧ 0 ≤ (I154a 3905) ∧ (I154a 3905) ≤ 3 * (I154a 2774)) ∧ ((I154a 4161) = (I154a 4033) ∧ 7 ≤ (I154a 4289) ∧ (I154a 4289) ≤ (I154a 4033) ∧ (I154a 4033) ≤ 7 + (I154a 2774)) ∧ 0 ≤ (I154a 5889) ∧ (I154a 5889) ≤ (I154a 2774)) ∧ ((I154a 2754) = (I 2754) ∧ (I 2774) + 1 ≤ (I154a 2774) ∧ (I154a 2775) = (I 2775) ∧ (I154a 4289) = (I 4289) + 0 ∧ (I154a 5889) = (I 5889)) ∧ ((I154a 3905) + 2 ≤ (I 3905) + 3 * ((I154a 2774) - (I 2774)) ∧ (I 3905) ≤ v155 ∧ v155 + 1 = (I154a 3905) ∧ (I 4033) ≤ (I154a 4033) ∧ (I154a 4033) ≤ (I 4033) + ((I154a 2774) - (I 2774))) by (repeat' apply And.intro) <;> first | assumption | omega), (show m_SC I154a A154a by exact sc175), (show m_TR (t_up lo84 v155 (I 3905) (8 * (24 - (I 2775)) + (0))) I154a A154a by exact tr176), (show m_ST lo I A (t_up lo84 v155 (I 3905) (8 * (24 - (I 2775)) + (0))) I154a A154a by exact s177), (show (fun k => k = 14) ((A154a 53) (v155)) by exact (k179).2), (show m_rt (t_up lo84 v155 (I 3905) (8 * (24 - (I 2775)) + (0))) (I154a 3905) v155 by exact rt180), (show m_RK (t_up lo84 v155 (I 3905) (8 * (24 - (I 2775)) + (0))) (I 3905) (I154a 3905) (8 * (24 - (I 2775)) + 0) by exact m_RK_le (show m_RK (t_up lo84 v155 (I 3905) (8 * (24 - (I 2775)) + (0))) (I 3905) (I154a 3905) (8 * (24 - (I 2775)) + (0)) from rk178) (show (8 * (24 - (I 2775)) + (0)) ≤ 8 * (24 - (I 2775)) + 0 by omega))⟩
            · rw [e143]
              replace hR140b : w_Rep w_TM fr X u l I140b A140b B140b C140b M139 := hR140b
              replace f144 : m_fx I82a A82a I140b A140b := f144
              exact Or.inr (⟨I140b, A140b, B140b, C140b, rfl, hR140b, (show m_fx I A I140b A140b by exact (m_fx_trans (m_fx_trans f26 f88) f144))⟩)
          · rw [e96]
            replace hR82b : w_Rep w_TM fr X u l I82b A82b B82b C82b M81 := hR82b
            replace f97 : m_fx (w_up I20a 2774 ((I20a 2774) + 1)) A20a I82b A82b := f97
            exact Or.inr (⟨I82b, A82b, B82b, C82b, rfl, hR82b, (show m_fx I A I82b A82b by exact (m_fx_trans f26 f97))⟩)
        · rw [e75]
          replace hR72b : w_Rep w_TM fr X u l I72b A72b B72b C72b M71 := hR72b
          replace f76 : m_fx I20a A20a I72b A72b := f76
          exact Or.inr (⟨I72b, A72b, B72b, C72b, rfl, hR72b, (show m_fx I A I72b A72b by exact (m_fx_trans f26 f76))⟩)
      · rw [e34]
        replace hR20b : w_Rep w_TM fr X u l I20b A20b B20b C20b M19 := hR20b
        replace f35 : m_fx (w_up (w_up I 2775 ((I 2775) + 1)) 2774 ((I 2774) + 1)) A I20b A20b := f35
        exact Or.inr (⟨I20b, A20b, B20b, C20b, rfl, hR20b, (show m_fx I A I20b A20b by exact f35)⟩)
    · have h16 : ¬ ((A 45) ((I 2774) + 1) = 2) := h16
      show w_W _ _ _ (25, [(2, .int (Int32.ofInt ((I 4289)))), (0, .ref 43), (1, .int (Int32.ofInt (vl)))], [], M5) _
      refine w_adv (n := 2) (F' := (27, [(2, .int (Int32.ofInt ((I 4289)))), (0, .ref 43), (1, .int (Int32.ofInt (vl)))], [.int (Int32.ofInt (1)), .ref 43], M5)) rfl ?_
      refine w_call (cm := 232) (as := [(0, .ref 43), (1, .int (Int32.ofInt (1)))]) (rest := []) (o := some (9, 43)) rfl (w_fitR hR6a rfl) (m_fail (1) hR6a ⟨by omega, by omega⟩ (show 0 ≤ (I 2774) + 1 ∧ (I 2774) + 1 < 1501 by omega) (show 1 ≤ 1 ∧ 1 ≤ 7 by first | assumption | omega)) (fun r181 M182 q183 => ?_)
      rcases q183 with ⟨I183a, A183a, B183a, C183a, e184, hR183a, f185⟩
      rw [e184]
      replace hR183a : w_Rep w_TM fr X u l I183a A183a B183a C183a M182 := hR183a
      replace f185 : m_fx (w_up (w_up I 2775 ((I 2775) + 1)) 2774 ((I 2774) + 1)) A I183a A183a := f185
      exact Or.inr (⟨I183a, A183a, B183a, C183a, rfl, hR183a, (show m_fx I A I183a A183a by exact f185)⟩)
  · rw [e9]
    replace hR6b : w_Rep w_TM fr X u l I6b A6b B6b C6b M5 := hR6b
    replace f10 : m_fx I A I6b A6b := f10
    exact Or.inr (⟨I6b, A6b, B6b, C6b, rfl, hR6b, (show m_fx I A I6b A6b by exact f10)⟩)
def m_choice_Q (fr : Nat → Bool) (X : Nat → Option (q_C (Nat → Int32))) (u l : Nat) (I : Nat → Int) (A : Nat → Int → Int) (B C : Nat → Nat) (M : w_M) (vl : Int) (lo : Int → Int × Int) : w_X → w_M → Prop := fun r M' => (∃ v : Int, ∃ lo' : Int → Int × Int, ∃ (I' : Nat → Int) (A' : Nat → Int → Int) (B' C' : Nat → Nat), (r = .inl (some v)) ∧ (w_in v) ∧ (w_Rep w_TM fr X u l I' A' B' C' M') ∧ (m_fx I A I' A') ∧ (((0 ≤ (I' 2774) ∧ (I' 2774) < (I' 2754) ∧ (I' 2754) ≤ 1501 ∧ 0 ≤ (I' 2775) ∧ (I' 2775) ≤ 24) ∧ ((I' 3393) = (I' 3905) ∧ (I' 3521) = (I' 3905) ∧ (I' 3649) = (I' 3905) ∧ (I' 3777) = (I' 3905) ∧ 0 ≤ (I' 3905) ∧ (I' 3905) ≤ 3 * (I' 2774)) ∧ ((I' 4161) = (I' 4033) ∧ 7 ≤ (I' 4289) ∧ (I' 4289) ≤ (I' 4033) ∧ (I' 4033) ≤ 7 + (I' 2774)) ∧ 0 ≤ (I' 5889) ∧ (I' 5889) ≤ (I' 2774)) ∧ ((I' 2754) = (I 2754) ∧ (I 2774) + 1 ≤ (I' 2774) ∧ (I' 2775) = (I 2775) ∧ (I' 4289) = (I 4289) + 0 ∧ (I' 5889) = (I 5889)) ∧ ((I' 3905) + 2 ≤ (I 3905) + 3 * ((I' 2774) - (I 2774)) ∧ (I 3905) ≤ v ∧ v + 1 = (I' 3905) ∧ (I 4033) ≤ (I' 4033) ∧ (I' 4033) ≤ (I 4033) + ((I' 2774) - (I 2774)))) ∧ (m_SC I' A') ∧ (m_TR lo' I' A') ∧ (m_ST lo I A lo' I' A') ∧ ((fun k => k = 15) ((A' 53) (v))) ∧ (m_rt lo' (I' 3905) v) ∧ (m_RK lo' (I 3905) (I' 3905) (8 * (24 - (I 2775)) + 0))) ∨ (∃ (I' : Nat → Int) (A' : Nat → Int → Int) (B' C' : Nat → Nat), (r = .inr 69) ∧ (w_Rep w_TM fr X u l I' A' B' C' M') ∧ (m_fx I A I' A'))
set_option maxHeartbeats 100000000 in
set_option maxRecDepth 100000 in
theorem m_choice {L : Nat} {xs : Nat → Int32} {d : Nat} {fr : Nat → Bool} {X : Nat → Option (q_C (Nat → Int32))} {u l : Nat} {I : Nat → Int} {A : Nat → Int → Int} {B C : Nat → Nat} {M : w_M} {N : Int} (hA : m_all L xs N) (vl : Int) (lo : Int → Int × Int) (hR : w_Rep w_TM fr X u l I A B C M) (hd : 20 * (24 - (I 2775)) + 11 ≤ (d : Int)) (r_vl : w_in vl) (hTK : m_TK I A) (hNU : (0 ≤ (I 2774) ∧ (I 2774) < (I 2754) ∧ (I 2754) ≤ 1501 ∧ 0 ≤ (I 2775) ∧ (I 2775) ≤ 24) ∧ ((I 3393) = (I 3905) ∧ (I 3521) = (I 3905) ∧ (I 3649) = (I 3905) ∧ (I 3777) = (I 3905) ∧ 0 ≤ (I 3905) ∧ (I 3905) ≤ 3 * (I 2774)) ∧ ((I 4161) = (I 4033) ∧ 7 ≤ (I 4289) ∧ (I 4289) ≤ (I 4033) ∧ (I 4033) ≤ 7 + (I 2774)) ∧ 0 ≤ (I 5889) ∧ (I 5889) ≤ (I 2774)) (hSC : m_SC I A) (hTR : m_TR lo I A) (hk : 1 ≤ (A 45) ((I 2774)) ∧ (A 45) ((I 2774)) ≤ 6) (hm : (I 2754) - (I 2774) ≤ N) : w_W (z_P L xs) d 268 (0, [(0, .ref 43), (1, .int (Int32.ofInt (vl)))], [], M) (m_choice_Q fr X u l I A B C M vl lo) := by
  obtain ⟨ra_vl, rb_vl⟩ := r_vl
  obtain ⟨d, rfl⟩ : ∃ d0, d = d0 + 1 := ⟨d - 1, by omega⟩
  have wl : (I 2774) + 1 < (I 2754) := m_TK_lt hTK (by omega) (by omega) (by omega)
  refine w_adv (n := 1) (F' := (1, [(0, .ref 43), (1, .int (Int32.ofInt (vl)))], [.ref 43], M)) rfl ?_
  refine w_call (cm := 235) (as := [(0, .ref 43)]) (rest := []) (o := some (9, 43)) rfl (w_fitR hR rfl) (m_enter hR (show 2 ≤ d by omega) (show 0 ≤ (I 2774) ∧ (I 2774) < 1501 by omega) (show 0 ≤ (I 2775) ∧ (I 2775) ≤ 24 by first | assumption | omega)) (fun r1 M2 q3 => ?_)
  rcases q3 with ⟨e4, hR3a, f5⟩ | ⟨I3b, A3b, B3b, C3b, e6, hR3b, f7⟩
  · rw [e4]
    replace hR3a : w_Rep w_TM fr X u l (w_up (w_up I 2775 ((I 2775) + 1)) 2774 ((I 2774) + 1)) A B C M2 := hR3a
    replace f5 : (I 2775) < 24 := f5
    have w8 : (I 2774) + 1 < (I 2754) := m_TK_lt hTK (show (I 2774) < (I 2754) by omega) (show 1 ≤ (A 45) ((I 2774)) by omega) (show (A 45) ((I 2774)) ≤ 6 by omega)
    show w_W _ _ _ (4, [(0, .ref 43), (1, .int (Int32.ofInt (vl)))], [], M2) _
    refine w_adv (n := 1) (F' := (5, [(0, .ref 43), (1, .int (Int32.ofInt (vl)))], [.ref 43], M2)) rfl ?_
    refine w_call (cm := 245) (as := [(0, .ref 43)]) (rest := []) (o := some (9, 43)) rfl (w_fitR hR3a rfl) (hA.1 (lo) hR3a (show 20 * (24 - ((I 2775) + 1)) + 17 ≤ (d : Int) by omega) (show m_TK (w_up (w_up I 2775 ((I 2775) + 1)) 2774 ((I 2774) + 1)) A by exact hTK) (show (0 ≤ (I 2774) + 1 ∧ (I 2774) + 1 < (I 2754) ∧ (I 2754) ≤ 1501 ∧ 0 ≤ (I 2775) + 1 ∧ (I 2775) + 1 ≤ 24) ∧ ((I 3393) = (I 3905) ∧ (I 3521) = (I 3905) ∧ (I 3649) = (I 3905) ∧ (I 3777) = (I 3905) ∧ 0 ≤ (I 3905) ∧ (I 3905) ≤ 3 * ((I 2774) + 1)) ∧ ((I 4161) = (I 4033) ∧ 7 ≤ (I 4289) ∧ (I 4289) ≤ (I 4033) ∧ (I 4033) ≤ 7 + ((I 2774) + 1)) ∧ 0 ≤ (I 5889) ∧ (I 5889) ≤ (I 2774) + 1 by (repeat' apply And.intro) <;> first | assumption | omega) (show m_SC (w_up (w_up I 2775 ((I 2775) + 1)) 2774 ((I 2774) + 1)) A by exact hSC) (show m_TR lo (w_up (w_up I 2775 ((I 2775) + 1)) 2774 ((I 2774) + 1)) A by exact hTR) (show (I 2754) - ((I 2774) + 1) < N by first | assumption | omega)) (fun r9 M10 q11 => ?_)
    rcases q11 with ⟨v12, lo13, I11a, A11a, B11a, C11a, e14, ⟨r15, r16⟩, hR11a, f17, f18, f19, f20, f21, f22, f23, f24⟩ | ⟨I11b, A11b, B11b, C11b, e25, hR11b, f26⟩
    · rw [e14]
      replace hR11a : w_Rep w_TM fr X u l I11a A11a B11a C11a M10 := hR11a
      replace f17 : m_fx (w_up (w_up I 2775 ((I 2775) + 1)) 2774 ((I 2774) + 1)) A I11a A11a := f17
      replace f18 : ((0 ≤ (I11a 2774) ∧ (I11a 2774) < (I11a 2754) ∧ (I11a 2754) ≤ 1501 ∧ 0 ≤ (I11a 2775) ∧ (I11a 2775) ≤ 24) ∧ ((I11a 3393) = (I11a 3905) ∧ (I11a 3521) = (I11a 3905) ∧ (I11a 3649) = (I11a 3905) ∧ (I11a 3777) = (I11a 3905) ∧ 0 ≤ (I11a 3905) ∧ (I11a 3905) ≤ 3 * (I11a 2774)) ∧ ((I11a 4161) = (I11a 4033) ∧ 7 ≤ (I11a 4289) ∧ (I11a 4289) ≤ (I11a 4033) ∧ (I11a 4033) ≤ 7 + (I11a 2774)) ∧ 0 ≤ (I11a 5889) ∧ (I11a 5889) ≤ (I11a 2774)) ∧ ((I11a 2754) = (I 2754) ∧ ((I 2774) + 1) + 1 ≤ (I11a 2774) ∧ (I11a 2775) = (I 2775) + 1 ∧ (I11a 4289) = (I 4289) + 0 ∧ (I11a 5889) = (I 5889)) ∧ ((I11a 3905) + 2 ≤ (I 3905) + 3 * ((I11a 2774) - ((I 2774) + 1)) ∧ (I 3905) ≤ v12 ∧ v12 + 1 = (I11a 3905) ∧ (I 4033) ≤ (I11a 4033) ∧ (I11a 4033) ≤ (I 4033) + ((I11a 2774) - ((I 2774) + 1))) := f18
      obtain ⟨⟨⟨n27, n28, n29, n30, n31⟩, ⟨n32, n33, n34, n35, n36, n37⟩, ⟨n38, n39, n40, n41⟩, n42, n43⟩, ⟨n44, n45, n46, n47, n48⟩, ⟨n49, n50, n51, n52, n53⟩⟩ := id f18
      clear f18
      replace f19 : m_SC I11a A11a := f19
      replace f20 : m_TR lo13 I11a A11a := f20
      replace f21 : m_ST lo (w_up (w_up I 2775 ((I 2775) + 1)) 2774 ((I 2774) + 1)) A lo13 I11a A11a := f21
      replace f22 : t_E ((A11a 53) (v12)) := f22
      replace f23 : m_rt lo13 (I11a 3905) v12 := f23
      replace f24 : m_RK lo13 (I 3905) (I11a 3905) (8 * (24 - ((I 2775) + 1)) + 5) := f24
      have tk54 : m_TK I11a A11a := m_TK_fx f17 hTK
      have nn55 : (I 3905) ≤ (I11a 3905) := by omega
      have nz56 : 0 ≤ (I 3905) := by first | assumption | omega
      have ho57 : (I 2775) + 1 = (I 2775) + (1) := by omega
      have rk59 : m_RK lo13 (I 3905) (I11a 3905) (8 * (24 - (I 2775)) + (-3)) := m_RK_app (I := (w_up (w_up I 2775 ((I 2775) + 1)) 2774 ((I 2774) + 1))) (I' := I11a) (R := (8 * (24 - (I 2775)) + (-3))) (show m_RK lo (I 3905) (I 3905) (8 * (24 - (I 2775)) + (-3)) from fun q q1 q2 => by omega) f21 f24 (show 0 ≤ (I 3905) by first | assumption | omega) (m_r8 (by decide)) (m_r8o (k := 1) ho57 (by decide))
      have s58 : m_ST lo I A lo13 I11a A11a := f21
      have k60 : m_kd lo13 I11a A11a (I 3905) (8 * (24 - ((I 2775) + 1)) + 5) v12 t_E := m_kd_of f21 f20 nz56 (show (I 3905) ≤ v12 by first | assumption | omega) (show v12 < (I11a 3905) by omega) f22 f24
      obtain ⟨j61, j62, j63, j64, j65⟩ := k60.1
      show w_W _ _ _ (8, [(0, .ref 43), (1, .int (Int32.ofInt (vl)))], [.int (Int32.ofInt (v12))], M10) _
      refine w_adv (n := 3) (F' := (11, [(2, .int (Int32.ofInt (v12))), (0, .ref 43), (1, .int (Int32.ofInt (vl)))], [.int (Int32.ofInt (5)), .ref 43], M10)) rfl ?_
      refine w_call (cm := 241) (as := [(0, .ref 43), (1, .int (Int32.ofInt (5)))]) (rest := []) (o := some (9, 43)) rfl (w_fitR hR11a rfl) (m_needWord (5) hR11a (show 2 ≤ d by omega) ⟨by omega, by omega⟩ (show 0 ≤ (I11a 2774) ∧ (I11a 2774) < 1501 by omega)) (fun r66 M67 q68 => ?_)
      rcases q68 with ⟨e69, hR68a, f70⟩ | ⟨I68b, A68b, B68b, C68b, e71, hR68b, f72⟩
      · rw [e69]
        replace hR68a : w_Rep w_TM fr X u l (w_up I11a 2774 ((I11a 2774) + 1)) A11a B11a C11a M67 := hR68a
        replace f70 : (A11a 45) ((I11a 2774)) = 5 ∧ (A11a 46) ((I11a 2774)) = 5 := f70
        obtain ⟨n73, n74⟩ := id f70
        clear f70
        have w75 : (I11a 2774) + 1 < (I11a 2754) := m_TK_lt tk54 (show (I11a 2774) < (I11a 2754) by omega) (show 1 ≤ (A11a 45) ((I11a 2774)) by omega) (show (A11a 45) ((I11a 2774)) ≤ 6 by omega)
        show w_W _ _ _ (14, [(2, .int (Int32.ofInt (v12))), (0, .ref 43), (1, .int (Int32.ofInt (vl)))], [], M67) _
        refine w_adv (n := 2) (F' := (16, [(2, .int (Int32.ofInt (v12))), (0, .ref 43), (1, .int (Int32.ofInt (vl)))], [.int (Int32.ofInt (vl)), .ref 43], M67)) rfl ?_
        refine w_call (cm := 242) (as := [(0, .ref 43), (1, .int (Int32.ofInt (vl)))]) (rest := []) (o := some (9, 43)) rfl (w_fitR hR68a rfl) (m_bodyOr hA (vl) (lo13) hR68a (show 20 * (24 - (I11a 2775)) + 21 ≤ (d : Int) by omega) ⟨by omega, by omega⟩ (show m_TK (w_up I11a 2774 ((I11a 2774) + 1)) A11a by exact tk54) (show (0 ≤ (I11a 2774) + 1 ∧ (I11a 2774) + 1 < (I11a 2754) ∧ (I11a 2754) ≤ 1501 ∧ 0 ≤ (I11a 2775) ∧ (I11a 2775) ≤ 24) ∧ ((I11a 3393) = (I11a 3905) ∧ (I11a 3521) = (I11a 3905) ∧ (I11a 3649) = (I11a 3905) ∧ (I11a 3777) = (I11a 3905) ∧ 0 ≤ (I11a 3905) ∧ (I11a 3905) ≤ 3 * ((I11a 2774) + 1)) ∧ ((I11a 4161) = (I11a 4033) ∧ 7 ≤ (I11a 4289) ∧ (I11a 4289) ≤ (I11a 4033) ∧ (I11a 4033) ≤ 7 + ((I11a 2774) + 1)) ∧ 0 ≤ (I11a 5889) ∧ (I11a 5889) ≤ (I11a 2774) + 1 by (repeat' apply And.intro) <;> first | assumption | omega) (show m_SC (w_up I11a 2774 ((I11a 2774) + 1)) A11a by exact f19) (show m_TR lo13 (w_up I11a 2774 ((I11a 2774) + 1)) A11a by exact f20) (show (I11a 2754) - ((I11a 2774) + 1) < N by first | assumption | omega)) (fun r76 M77 q78 => ?_)
        rcases q78 with ⟨v79, lo80, I78a, A78a, B78a, C78a, e81, ⟨r82, r83⟩, hR78a, f84, f85, f86, f87, f88, f89, f90, f91⟩ | ⟨I78b, A78b, B78b, C78b, e92, hR78b, f93⟩
        · rw [e81]
          replace hR78a : w_Rep w_TM fr X u l I78a A78a B78a C78a M77 := hR78a
          replace f84 : m_fx (w_up I11a 2774 ((I11a 2774) + 1)) A11a I78a A78a := f84
          replace f85 : ((0 ≤ (I78a 2774) ∧ (I78a 2774) < (I78a 2754) ∧ (I78a 2754) ≤ 1501 ∧ 0 ≤ (I78a 2775) ∧ (I78a 2775) ≤ 24) ∧ ((I78a 3393) = (I78a 3905) ∧ (I78a 3521) = (I78a 3905) ∧ (I78a 3649) = (I78a 3905) ∧ (I78a 3777) = (I78a 3905) ∧ 0 ≤ (I78a 3905) ∧ (I78a 3905) ≤ 3 * (I78a 2774)) ∧ ((I78a 4161) = (I78a 4033) ∧ 7 ≤ (I78a 4289) ∧ (I78a 4289) ≤ (I78a 4033) ∧ (I78a 4033) ≤ 7 + (I78a 2774)) ∧ 0 ≤ (I78a 5889) ∧ (I78a 5889) ≤ (I78a 2774)) ∧ ((I78a 2754) = (I11a 2754) ∧ ((I11a 2774) + 1) + 1 ≤ (I78a 2774) ∧ (I78a 2775) = (I11a 2775) ∧ (I78a 4289) = (I11a 4289) + 0 ∧ (I78a 5889) = (I11a 5889)) ∧ ((I78a 3905) + 1 ≤ (I11a 3905) + 3 * ((I78a 2774) - ((I11a 2774) + 1)) ∧ (I11a 3905) ≤ v79 ∧ v79 + 1 = (I78a 3905) ∧ (I11a 4033) ≤ (I78a 4033) ∧ (I78a 4033) ≤ (I11a 4033) + ((I78a 2774) - ((I11a 2774) + 1))) := f85
          obtain ⟨⟨⟨n94, n95, n96, n97, n98⟩, ⟨n99, n100, n101, n102, n103, n104⟩, ⟨n105, n106, n107, n108⟩, n109, n110⟩, ⟨n111, n112, n113, n114, n115⟩, ⟨n116, n117, n118, n119, n120⟩⟩ := id f85
          clear f85
          replace f86 : m_SC I78a A78a := f86
          replace f87 : m_TR lo80 I78a A78a := f87
          replace f88 : m_ST lo13 (w_up I11a 2774 ((I11a 2774) + 1)) A11a lo80 I78a A78a := f88
          replace f89 : t_B ((A78a 53) (v79)) := f89
          replace f90 : m_rt lo80 (I78a 3905) v79 := f90
          replace f91 : m_RK lo80 (I11a 3905) (I78a 3905) (8 * (24 - (I11a 2775)) + 7) := f91
          have tk121 : m_TK I78a A78a := m_TK_fx f84 tk54
          have nn122 : (I11a 3905) ≤ (I78a 3905) := by omega
          have nz123 : 0 ≤ (I11a 3905) := by first | assumption | omega
          have ho124 : (I11a 2775) = (I 2775) + (1) := by omega
          have rk126 : m_RK lo80 (I 3905) (I78a 3905) (8 * (24 - (I 2775)) + (-1)) := m_RK_app (I := (w_up I11a 2774 ((I11a 2774) + 1))) (I' := I78a) (R := (8 * (24 - (I 2775)) + (-3))) (show m_RK lo13 (I 3905) (I11a 3905) (8 * (24 - (I 2775)) + (-3)) from rk59) f88 f91 (show 0 ≤ (I 3905) by first | assumption | omega) (m_r8 (by decide)) (m_r8o (k := 1) ho124 (by decide))
          have s125 : m_ST lo I A lo80 I78a A78a := m_ST_trans (show m_ST lo I A lo13 (w_up I11a 2774 ((I11a 2774) + 1)) A11a from s58) f88 (show 0 ≤ (I 3905) by first | assumption | omega) (show (I 3905) ≤ (I11a 3905) by first | assumption | omega) (show (I 4289) ≤ (I11a 4289) by first | assumption | omega) (show (I 5889) ≤ (I11a 5889) by first | assumption | omega)
          have k127 : m_kd lo80 I78a A78a (I 3905) (8 * (24 - ((I 2775) + 1)) + 5) v12 t_E := m_kd_ST f88 nn122 k60
          have rt128 := m_rt_ST f88 (show 0 ≤ v12 by omega) (show v12 < (I11a 3905) by omega) f23
          have k129 : m_kd lo80 I78a A78a (I11a 3905) (8 * (24 - (I11a 2775)) + 7) v79 t_B := m_kd_of f88 f87 nz123 (show (I11a 3905) ≤ v79 by first | assumption | omega) (show v79 < (I78a 3905) by omega) f89 f91
          obtain ⟨j130, j131, j132, j133, j134⟩ := k129.1
          show w_W _ _ _ (19, [(2, .int (Int32.ofInt (v12))), (0, .ref 43), (1, .int (Int32.ofInt (vl)))], [.int (Int32.ofInt (v79))], M77) _
          refine w_adv (n := 4) (F' := (24, [(4, .int (Int32.ofInt ((-1)))), (3, .int (Int32.ofInt (v79))), (2, .int (Int32.ofInt (v12))), (0, .ref 43), (1, .int (Int32.ofInt (vl)))], [.int (Int32.ofInt (vl))], M77)) rfl ?_
          refine w_br1 (a := vl) rfl rfl ⟨by omega, by omega⟩ (fun h135 => ?_) (fun h135 => ?_)
          · have h135 : ¬ vl = 0 := h135
            show w_W _ _ _ (36, [(4, .int (Int32.ofInt ((-1)))), (3, .int (Int32.ofInt (v79))), (2, .int (Int32.ofInt (v12))), (0, .ref 43), (1, .int (Int32.ofInt (vl)))], [], M77) _
            refine w_adv (n := 2) (F' := (39, [(4, .int (Int32.ofInt ((-1)))), (3, .int (Int32.ofInt (v79))), (2, .int (Int32.ofInt (v12))), (0, .ref 43), (1, .int (Int32.ofInt (vl)))], [.int (Int32.ofInt (6)), .ref 43], M77)) rfl ?_
            refine w_call (cm := 241) (as := [(0, .ref 43), (1, .int (Int32.ofInt (6)))]) (rest := []) (o := some (9, 43)) rfl (w_fitR hR78a rfl) (m_needWord (6) hR78a (show 2 ≤ d by omega) ⟨by omega, by omega⟩ (show 0 ≤ (I78a 2774) ∧ (I78a 2774) < 1501 by omega)) (fun r136 M137 q138 => ?_)
            rcases q138 with ⟨e139, hR138a, f140⟩ | ⟨I138b, A138b, B138b, C138b, e141, hR138b, f142⟩
            · rw [e139]
              replace hR138a : w_Rep w_TM fr X u l (w_up I78a 2774 ((I78a 2774) + 1)) A78a B78a C78a M137 := hR138a
              replace f140 : (A78a 45) ((I78a 2774)) = 5 ∧ (A78a 46) ((I78a 2774)) = 6 := f140
              obtain ⟨n143, n144⟩ := id f140
              clear f140
              have w145 : (I78a 2774) + 1 < (I78a 2754) := m_TK_lt tk121 (show (I78a 2774) < (I78a 2754) by omega) (show 1 ≤ (A78a 45) ((I78a 2774)) by omega) (show (A78a 45) ((I78a 2774)) ≤ 6 by omega)
              show w_W _ _ _ (42, [(4, .int (Int32.ofInt ((-1)))), (3, .int (Int32.ofInt (v79))), (2, .int (Int32.ofInt (v12))), (0, .ref 43), (1, .int (Int32.ofInt (vl)))], [], M137) _
              refine w_adv (n := 2) (F' := (44, [(4, .int (Int32.ofInt ((-1)))), (3, .int (Int32.ofInt (v79))), (2, .int (Int32.ofInt (v12))), (0, .ref 43), (1, .int (Int32.ofInt (vl)))], [.int (Int32.ofInt (vl)), .ref 43], M137)) rfl ?_
              refine w_call (cm := 242) (as := [(0, .ref 43), (1, .int (Int32.ofInt (vl)))]) (rest := []) (o := some (9, 43)) rfl (w_fitR hR138a rfl) (m_bodyOr hA (vl) (lo80) hR138a (show 20 * (24 - (I78a 2775)) + 21 ≤ (d : Int) by omega) ⟨by omega, by omega⟩ (show m_TK (w_up I78a 2774 ((I78a 2774) + 1)) A78a by exact tk121) (show (0 ≤ (I78a 2774) + 1 ∧ (I78a 2774) + 1 < (I78a 2754) ∧ (I78a 2754) ≤ 1501 ∧ 0 ≤ (I78a 2775) ∧ (I78a 2775) ≤ 24) ∧ ((I78a 3393) = (I78a 3905) ∧ (I78a 3521) = (I78a 3905) ∧ (I78a 3649) = (I78a 3905) ∧ (I78a 3777) = (I78a 3905) ∧ 0 ≤ (I78a 3905) ∧ (I78a 3905) ≤ 3 * ((I78a 2774) + 1)) ∧ ((I78a 4161) = (I78a 4033) ∧ 7 ≤ (I78a 4289) ∧ (I78a 4289) ≤ (I78a 4033) ∧ (I78a 4033) ≤ 7 + ((I78a 2774) + 1)) ∧ 0 ≤ (I78a 5889) ∧ (I78a 5889) ≤ (I78a 2774) + 1 by (repeat' apply And.intro) <;> first | assumption | omega) (show m_SC (w_up I78a 2774 ((I78a 2774) + 1)) A78a by exact f86) (show m_TR lo80 (w_up I78a 2774 ((I78a 2774) + 1)) A78a by exact f87) (show (I78a 2754) - ((I78a 2774) + 1) < N by first | assumption | omega)) (fun r146 M147 q148 => ?_)
              rcases q148 with ⟨v149, lo150, I148a, A148a, B148a, C148a, e151, ⟨r152, r153⟩, hR148a, f154, f155, f156, f157, f158, f159, f160, f161⟩ | ⟨I148b, A148b, B148b, C148b, e162, hR148b, f163⟩
              · rw [e151]
                replace hR148a : w_Rep w_TM fr X u l I148a A148a B148a C148a M147 := hR148a
                replace f154 : m_fx (w_up I78a 2774 ((I78a 2774) + 1)) A78a I148a A148a := f154
                replace f155 : ((0 ≤ (I148a 2774) ∧ (I148a 2774) < (I148a 2754) ∧ (I148a 2754) ≤ 1501 ∧ 0 ≤ (I148a 2775) ∧ (I148a 2775) ≤ 24) ∧ ((I148a 3393) = (I148a 3905) ∧ (I148a 3521) = (I148a 3905) ∧ (I148a 3649) = (I148a 3905) ∧ (I148a 3777) = (I148a 3905) ∧ 0 ≤ (I148a 3905) ∧ (I148a 3905) ≤ 3 * (I148a 2774)) ∧ ((I148a 4161) = (I148a 4033) ∧ 7 ≤ (I148a 4289) ∧ (I148a 4289) ≤ (I148a 4033) ∧ (I148a 4033) ≤ 7 + (I148a 2774)) ∧ 0 ≤ (I148a 5889) ∧ (I148a 5889) ≤ (I148a 2774)) ∧ ((I148a 2754) = (I78a 2754) ∧ ((I78a 2774) + 1) + 1 ≤ (I148a 2774) ∧ (I148a 2775) = (I78a 2775) ∧ (I148a 4289) = (I78a 4289) + 0 ∧ (I148a 5889) = (I78a 5889)) ∧ ((I148a 3905) + 1 ≤ (I78a 3905) + 3 * ((I148a 2774) - ((I78a 2774) + 1)) ∧ (I78a 3905) ≤ v149 ∧ v149 + 1 = (I148a 3905) ∧ (I78a 4033) ≤ (I148a 4033) ∧ (I148a 4033) ≤ (I78a 4033) + ((I148a 2774) - ((I78a 2774) + 1))) := f155
                obtain ⟨⟨⟨n164, n165, n166, n167, n168⟩, ⟨n169, n170, n171, n172, n173, n174⟩, ⟨n175, n176, n177, n178⟩, n179, n180⟩, ⟨n181, n182, n183, n184, n185⟩, ⟨n186, n187, n188, n189, n190⟩⟩ := id f155
                clear f155
                replace f156 : m_SC I148a A148a := f156
                replace f157 : m_TR lo150 I148a A148a := f157
                replace f158 : m_ST lo80 (w_up I78a 2774 ((I78a 2774) + 1)) A78a lo150 I148a A148a := f158
                replace f159 : t_B ((A148a 53) (v149)) := f159
                replace f160 : m_rt lo150 (I148a 3905) v149 := f160
                replace f161 : m_RK lo150 (I78a 3905) (I148a 3905) (8 * (24 - (I78a 2775)) + 7) := f161
                have tk191 : m_TK I148a A148a := m_TK_fx f154 tk121
                have nn192 : (I78a 3905) ≤ (I148a 3905) := by omega
                have nz193 : 0 ≤ (I78a 3905) := by first | assumption | omega
                have ho194 : (I78a 2775) = (I 2775) + (1) := by omega
                have rk196 : m_RK lo150 (I 3905) (I148a 3905) (8 * (24 - (I 2775)) + (-1)) := m_RK_app (I := (w_up I78a 2774 ((I78a 2774) + 1))) (I' := I148a) (R := (8 * (24 - (I 2775)) + (-1))) (show m_RK lo80 (I 3905) (I78a 3905) (8 * (24 - (I 2775)) + (-1)) from rk126) f158 f161 (show 0 ≤ (I 3905) by first | assumption | omega) (m_r8 (by decide)) (m_r8o (k := 1) ho194 (by decide))
                have s195 : m_ST lo I A lo150 I148a A148a := m_ST_trans (show m_ST lo I A lo80 (w_up I78a 2774 ((I78a 2774) + 1)) A78a from s125) f158 (show 0 ≤ (I 3905) by first | assumption | omega) (show (I 3905) ≤ (I78a 3905) by first | assumption | omega) (show (I 4289) ≤ (I78a 4289) by first | assumption | omega) (show (I 5889) ≤ (I78a 5889) by first | assumption | omega)
                have k197 : m_kd lo150 I148a A148a (I 3905) (8 * (24 - ((I 2775) + 1)) + 5) v12 t_E := m_kd_ST f158 nn192 k127
                have rt198 := m_rt_ST f158 (show 0 ≤ v12 by omega) (show v12 < (I78a 3905) by omega) rt128
                have k199 : m_kd lo150 I148a A148a (I11a 3905) (8 * (24 - (I11a 2775)) + 7) v79 t_B := m_kd_ST f158 nn192 k129
                have rt200 := m_rt_ST f158 (show 0 ≤ v79 by omega) (show v79 < (I78a 3905) by omega) f90
                have k201 : m_kd lo150 I148a A148a (I78a 3905) (8 * (24 - (I78a 2775)) + 7) v149 t_B := m_kd_of f158 f157 nz193 (show (I78a 3905) ≤ v149 by first | assumption | omega) (show v149 < (I148a 3905) by omega) f159 f161
                obtain ⟨j202, j203, j204, j205, j206⟩ := k201.1
                show w_W _ _ _ (47, [(4, .int (Int32.ofInt ((-1)))), (3, .int (Int32.ofInt (v79))), (2, .int (Int32.ofInt (v12))), (0, .ref 43), (1, .int (Int32.ofInt (vl)))], [.int (Int32.ofInt (v149))], M147) _
                refine w_adv (n := 3) (F' := (51, [(4, .int (Int32.ofInt (v149))), (3, .int (Int32.ofInt (v79))), (2, .int (Int32.ofInt (v12))), (0, .ref 43), (1, .int (Int32.ofInt (vl)))], [.int (Int32.ofInt (3)), .ref 43], M147)) rfl ?_
                refine w_call (cm := 244) (as := [(0, .ref 43), (1, .int (Int32.ofInt (3)))]) (rest := []) (o := some (9, 43)) rfl (w_fitR hR148a rfl) (m_closeWord (3) hR148a (show 3 ≤ d by omega) ⟨by omega, by omega⟩ (show 0 ≤ (I148a 2774) ∧ (I148a 2774) < 1501 by omega) (show 1 ≤ (I148a 2775) ∧ (I148a 2775) ≤ 24 by first | assumption | omega)) (fun r207 M208 q209 => ?_)
                rcases q209 with ⟨e210, hR209a, f211⟩ | ⟨I209b, A209b, B209b, C209b, e212, hR209b, f213⟩
                · rw [e210]
                  replace hR209a : w_Rep w_TM fr X u l (w_up (w_up I148a 2774 ((I148a 2774) + 1)) 2775 ((I148a 2775) - 1)) A148a B148a C148a M208 := hR209a
                  replace f211 : (A148a 45) ((I148a 2774)) = 5 ∧ (A148a 46) ((I148a 2774)) = 3 := f211
                  obtain ⟨n214, n215⟩ := id f211
                  clear f211
                  have w216 : (I148a 2774) + 1 < (I148a 2754) := m_TK_lt tk191 (show (I148a 2774) < (I148a 2754) by omega) (show 1 ≤ (A148a 45) ((I148a 2774)) by omega) (show (A148a 45) ((I148a 2774)) ≤ 6 by omega)
                  show w_W _ _ _ (54, [(4, .int (Int32.ofInt (v149))), (3, .int (Int32.ofInt (v79))), (2, .int (Int32.ofInt (v12))), (0, .ref 43), (1, .int (Int32.ofInt (vl)))], [], M208) _
                  refine w_adv (n := 5) (F' := (61, [(4, .int (Int32.ofInt (v149))), (3, .int (Int32.ofInt (v79))), (2, .int (Int32.ofInt (v12))), (0, .ref 43), (1, .int (Int32.ofInt (vl)))], [.int (Int32.ofInt (v149)), .int (Int32.ofInt (v79)), .int (Int32.ofInt (v12)), .int (Int32.ofInt (15)), .ref 43], M208)) rfl ?_
                  refine w_call (cm := 239) (as := [(0, .ref 43), (1, .int (Int32.ofInt (15))), (2, .int (Int32.ofInt (v12))), (3, .int (Int32.ofInt (v79))), (4, .int (Int32.ofInt (v149)))]) (rest := []) (o := some (9, 43)) rfl (w_fitR hR209a rfl) (m_node (15) (v12) (v79) (v149) hR209a (show 2 ≤ d by omega) ⟨by omega, by omega⟩ ⟨by omega, by omega⟩ ⟨by omega, by omega⟩ ⟨by omega, by omega⟩ (show (I148a 3393) = (I148a 3905) by first | assumption | omega) (show (I148a 3521) = (I148a 3905) by first | assumption | omega) (show (I148a 3649) = (I148a 3905) by first | assumption | omega) (show (I148a 3777) = (I148a 3905) by first | assumption | omega) (show (I148a 3905) < 65536 by first | assumption | omega)) (fun r217 M218 q219 => ?_)
                  rcases q219 with ⟨v220, I219a, A219a, B219a, C219a, e221, ⟨r222, r223⟩, hR219a, f224, f225⟩
                  rw [e221]
                  replace hR219a : w_Rep w_TM fr X u l I219a A219a B219a C219a M218 := hR219a
                  replace f224 : m_fx (w_up (w_up I148a 2774 ((I148a 2774) + 1)) 2775 ((I148a 2775) - 1)) A148a I219a A219a := f224
                  replace f225 : m_nd (w_up (w_up I148a 2774 ((I148a 2774) + 1)) 2775 ((I148a 2775) - 1)) A148a I219a A219a v220 15 v12 v79 v149 := f225
                  obtain ⟨⟨n226, n227, n228, n229, n230, n231⟩, ⟨n232, n233, n234, n235, n236, n237, n238⟩⟩ : (v220 = (I148a 3905) ∧ (I219a 3905) = (I148a 3905) + 1 ∧ (I219a 3393) = (I148a 3393) + 1 ∧ (I219a 3521) = (I148a 3521) + 1 ∧ (I219a 3649) = (I148a 3649) + 1 ∧ (I219a 3777) = (I148a 3777) + 1) ∧ ((I219a 2774) = (I148a 2774) + 1 ∧ (I219a 2754) = (I148a 2754) ∧ (I219a 2775) = (I148a 2775) - 1 ∧ (I219a 4289) = (I148a 4289) ∧ (I219a 4033) = (I148a 4033) ∧ (I219a 4161) = (I148a 4161) ∧ (I219a 5889) = (I148a 5889)) := m_nd_num f225
                  have tk239 : m_TK I219a A219a := m_TK_fx f224 tk191
                  have sc240 : m_SC I219a A219a := m_SC_nd f225 f156
                  have tr241 : m_TR (t_up lo150 v220 (I 3905) (8 * (24 - (I 2775)) + (0))) I219a A219a := m_TR_nd (show m_TR lo150 (w_up (w_up I148a 2774 ((I148a 2774) + 1)) 2775 ((I148a 2775) - 1)) A148a from f157) f225 (show 0 ≤ (I 3905) by omega) (show (I 3905) ≤ v220 by omega) (m_cl_ST (show m_ST lo I A lo150 (w_up (w_up I148a 2774 ((I148a 2774) + 1)) 2775 ((I148a 2775) - 1)) A148a from s195) hTR (show 0 ≤ (I 3905) by omega)) (t_N_mk15 t_up_same (show 0 ≤ (I 3905) by omega) (show (I 3905) ≤ v220 by omega) (show 0 ≤ (8 * (24 - (I 2775)) + (0)) by omega) (m_hw (show m_RK lo150 (I 3905) v220 (8 * (24 - (I 2775)) + (-1)) from fun q q1 q2 => (show m_RK lo150 (I 3905) (I148a 3905) (8 * (24 - (I 2775)) + (-1)) from rk196) q (show (I 3905) ≤ q by omega) (show q < (I148a 3905) by omega)) (m_r8l (by decide))) ⟨m_ch f225 (show (I 3905) ≤ (I 3905) by omega) k197, m_ch f225 (show (I 3905) ≤ (I11a 3905) by omega) k199, Or.inr (m_ch f225 (show (I 3905) ≤ (I78a 3905) by omega) k201), m_od f225 k199 (show v12 < (I11a 3905) by omega), Or.inr (m_od f225 k201 (show v79 < (I78a 3905) by omega))⟩)
                  have s242 : m_ST lo I A (t_up lo150 v220 (I 3905) (8 * (24 - (I 2775)) + (0))) I219a A219a := m_ST_nd (l := (I 3905)) (show m_ST lo I A lo150 (w_up (w_up I148a 2774 ((I148a 2774) + 1)) 2775 ((I148a 2775) - 1)) A148a from s195) f225 (show (I 3905) ≤ (I 3905) by omega) (show (I 3905) ≤ (I148a 3905) by omega)
                  have rk243 : m_RK (t_up lo150 v220 (I 3905) (8 * (24 - (I 2775)) + (0))) (I 3905) (I219a 3905) (8 * (24 - (I 2775)) + (0)) := fun q q1 q2 => m_RK_nd (show m_RK lo150 (I 3905) v220 (8 * (24 - (I 2775)) + (-1)) from fun q q1 q2 => (show m_RK lo150 (I 3905) (I148a 3905) (8 * (24 - (I 2775)) + (-1)) from rk196) q q1 (show q < (I148a 3905) by omega)) (m_r8 (by decide)) (m_r8 (by decide)) q q1 (show q < v220 + 1 by omega)
                  have k244 : m_kd (t_up lo150 v220 (I 3905) (8 * (24 - (I 2775)) + (0))) I219a A219a (I 3905) (8 * (24 - (I 2775)) + (0)) v220 (fun k => k = 15) := m_kd_new f225 (show 0 ≤ (I 3905) by omega) (show (I 3905) ≤ v220 by omega) rfl
                  have rt245 : m_rt (t_up lo150 v220 (I 3905) (8 * (24 - (I 2775)) + (0))) (I219a 3905) v220 := m_rt_new f225
                  show w_W _ _ _ (64, [(4, .int (Int32.ofInt (v149))), (3, .int (Int32.ofInt (v79))), (2, .int (Int32.ofInt (v12))), (0, .ref 43), (1, .int (Int32.ofInt (vl)))], [.int (Int32.ofInt (v220))], M218) _
                  refine w_fin (r := .inl (some (v220))) (M' := M218) rfl ?_
                  exact Or.inl ⟨v220, (t_up lo150 v220 (I 3905) (8 * (24 - (I 2775)) + (0))), I219a, A219a, B219a, C219a, rfl, ⟨by omega, by omega⟩, hR219a, (show m_fx I A I219a A219a by exact (m_fx_trans (m_fx_trans (m_fx_trans f17 f84) f154) f224)), (show ((0 ≤ (I219a 2774) ∧ (I219a 2774) < (I219a 2754) ∧ (I219a 2754) ≤ 1501 ∧ 0 ≤ (I219a 2775) ∧ (I219a 2775) ≤ 24) ∧ ((I219a 3393) = (I219a 3905) ∧ (I219a 3521) = (I219a 3905) ∧ (I219a 3649) = (I219a 3905) ∧ (I219a 3777) = (I219a 3905) ∧ 0 ≤ (I219a 3905) ∧ (I219a 3905) ≤ 3 * (I219a 2774)) ∧ ((I219a 4161) = (I219a 4033) ∧ 7 ≤ (I219a 4289) ∧ (I219a 4289) ≤ (I219a 4033) ∧ (I219a 4033) ≤ 7 + (I219a 2774)) ∧ 0 ≤ (I219a 5889) ∧ (I219a 5889) ≤ (I219a 2774)) ∧ ((I219a 2754) = (I 2754) ∧ (I 2774) + 1 ≤ (I219a 2774) ∧ (I219a 2775) = (I 2775) ∧ (I219a 4289) = (I 4289) + 0 ∧ (I219a 5889) = (I 5889)) ∧ ((I219a 3905) + 2 ≤ (I 3905) + 3 * ((I219a 2774) - (I 2774)) ∧ (I 3905) ≤ v220 ∧ v220 + 1 = (I219a 3905) ∧ (I 4033) ≤ (I219a 4033) ∧ (I219a 4033) ≤ (I 4033) + ((I219a 2774) - (I 2774))) by (repeat' apply And.intro) <;> first | assumption | omega), (show m_SC I219a A219a by exact sc240), (show m_TR (t_up lo150 v220 (I 3905) (8 * (24 - (I 2775)) + (0))) I219a A219a by exact tr241), (show m_ST lo I A (t_up lo150 v220 (I 3905) (8 * (24 - (I 2775)) + (0))) I219a A219a by exact s242), (show (fun k => k = 15) ((A219a 53) (v220)) by exact (k244).2), (show m_rt (t_up lo150 v220 (I 3905) (8 * (24 - (I 2775)) + (0))) (I219a 3905) v220 by exact rt245), (show m_RK (t_up lo150 v220 (I 3905) (8 * (24 - (I 2775)) + (0))) (I 3905) (I219a 3905) (8 * (24 - (I 2775)) + 0) by exact m_RK_le (show m_RK (t_up lo150 v220 (I 3905) (8 * (24 - (I 2775)) + (0))) (I 3905) (I219a 3905) (8 * (24 - (I 2775)) + (0)) from rk243) (show (8 * (24 - (I 2775)) + (0)) ≤ 8 * (24 - (I 2775)) + 0 by omega))⟩
                · rw [e212]
                  replace hR209b : w_Rep w_TM fr X u l I209b A209b B209b C209b M208 := hR209b
                  replace f213 : m_fx I148a A148a I209b A209b := f213
                  exact Or.inr (⟨I209b, A209b, B209b, C209b, rfl, hR209b, (show m_fx I A I209b A209b by exact (m_fx_trans (m_fx_trans (m_fx_trans f17 f84) f154) f213))⟩)
              · rw [e162]
                replace hR148b : w_Rep w_TM fr X u l I148b A148b B148b C148b M147 := hR148b
                replace f163 : m_fx (w_up I78a 2774 ((I78a 2774) + 1)) A78a I148b A148b := f163
                exact Or.inr (⟨I148b, A148b, B148b, C148b, rfl, hR148b, (show m_fx I A I148b A148b by exact (m_fx_trans (m_fx_trans f17 f84) f163))⟩)
            · rw [e141]
              replace hR138b : w_Rep w_TM fr X u l I138b A138b B138b C138b M137 := hR138b
              replace f142 : m_fx I78a A78a I138b A138b := f142
              exact Or.inr (⟨I138b, A138b, B138b, C138b, rfl, hR138b, (show m_fx I A I138b A138b by exact (m_fx_trans (m_fx_trans f17 f84) f142))⟩)
          · have h135 : ¬ (¬ vl = 0) := h135
            show w_W _ _ _ (27, [(4, .int (Int32.ofInt ((-1)))), (3, .int (Int32.ofInt (v79))), (2, .int (Int32.ofInt (v12))), (0, .ref 43), (1, .int (Int32.ofInt (vl)))], [], M77) _
            refine w_adv (n := 2) (F' := (30, [(4, .int (Int32.ofInt ((-1)))), (3, .int (Int32.ofInt (v79))), (2, .int (Int32.ofInt (v12))), (0, .ref 43), (1, .int (Int32.ofInt (vl)))], [.int (Int32.ofInt (6)), .ref 43], M77)) rfl ?_
            refine w_call (cm := 231) (as := [(0, .ref 43), (1, .int (Int32.ofInt (6)))]) (rest := []) (o := some (9, 43)) rfl (w_fitR hR78a rfl) (m_isWord (6) hR78a ⟨by omega, by omega⟩ (show 0 ≤ (I78a 2774) ∧ (I78a 2774) < 1501 by omega)) (fun r246 M247 q248 => ?_)
            rcases q248 with ⟨e249, e250, f251⟩ | ⟨e252, e253, f254⟩
            · rw [e249, e250]
              replace f251 : (A78a 45) ((I78a 2774)) = 5 ∧ (A78a 46) ((I78a 2774)) = 6 := f251
              obtain ⟨n255, n256⟩ := id f251
              clear f251
              have w257 : (I78a 2774) + 1 < (I78a 2754) := m_TK_lt tk121 (by omega) (by omega) (by omega)
              show w_W _ _ _ (33, [(4, .int (Int32.ofInt ((-1)))), (3, .int (Int32.ofInt (v79))), (2, .int (Int32.ofInt (v12))), (0, .ref 43), (1, .int (Int32.ofInt (vl)))], [.int (Int32.ofInt (1))], M77) _
              refine w_adv (n := 3) (F' := (39, [(4, .int (Int32.ofInt ((-1)))), (3, .int (Int32.ofInt (v79))), (2, .int (Int32.ofInt (v12))), (0, .ref 43), (1, .int (Int32.ofInt (vl)))], [.int (Int32.ofInt (6)), .ref 43], M77)) rfl ?_
              refine w_call (cm := 241) (as := [(0, .ref 43), (1, .int (Int32.ofInt (6)))]) (rest := []) (o := some (9, 43)) rfl (w_fitR hR78a rfl) (m_needWord (6) hR78a (show 2 ≤ d by omega) ⟨by omega, by omega⟩ (show 0 ≤ (I78a 2774) ∧ (I78a 2774) < 1501 by omega)) (fun r258 M259 q260 => ?_)
              rcases q260 with ⟨e261, hR260a, f262⟩ | ⟨I260b, A260b, B260b, C260b, e263, hR260b, f264⟩
              · rw [e261]
                replace hR260a : w_Rep w_TM fr X u l (w_up I78a 2774 ((I78a 2774) + 1)) A78a B78a C78a M259 := hR260a
                replace f262 : (A78a 45) ((I78a 2774)) = 5 ∧ (A78a 46) ((I78a 2774)) = 6 := f262
                obtain ⟨n265, n266⟩ := id f262
                clear f262
                have w267 : (I78a 2774) + 1 < (I78a 2754) := m_TK_lt tk121 (show (I78a 2774) < (I78a 2754) by omega) (show 1 ≤ (A78a 45) ((I78a 2774)) by omega) (show (A78a 45) ((I78a 2774)) ≤ 6 by omega)
                show w_W _ _ _ (42, [(4, .int (Int32.ofInt ((-1)))), (3, .int (Int32.ofInt (v79))), (2, .int (Int32.ofInt (v12))), (0, .ref 43), (1, .int (Int32.ofInt (vl)))], [], M259) _
                refine w_adv (n := 2) (F' := (44, [(4, .int (Int32.ofInt ((-1)))), (3, .int (Int32.ofInt (v79))), (2, .int (Int32.ofInt (v12))), (0, .ref 43), (1, .int (Int32.ofInt (vl)))], [.int (Int32.ofInt (vl)), .ref 43], M259)) rfl ?_
                refine w_call (cm := 242) (as := [(0, .ref 43), (1, .int (Int32.ofInt (vl)))]) (rest := []) (o := some (9, 43)) rfl (w_fitR hR260a rfl) (m_bodyOr hA (vl) (lo80) hR260a (show 20 * (24 - (I78a 2775)) + 21 ≤ (d : Int) by omega) ⟨by omega, by omega⟩ (show m_TK (w_up I78a 2774 ((I78a 2774) + 1)) A78a by exact tk121) (show (0 ≤ (I78a 2774) + 1 ∧ (I78a 2774) + 1 < (I78a 2754) ∧ (I78a 2754) ≤ 1501 ∧ 0 ≤ (I78a 2775) ∧ (I78a 2775) ≤ 24) ∧ ((I78a 3393) = (I78a 3905) ∧ (I78a 3521) = (I78a 3905) ∧ (I78a 3649) = (I78a 3905) ∧ (I78a 3777) = (I78a 3905) ∧ 0 ≤ (I78a 3905) ∧ (I78a 3905) ≤ 3 * ((I78a 2774) + 1)) ∧ ((I78a 4161) = (I78a 4033) ∧ 7 ≤ (I78a 4289) ∧ (I78a 4289) ≤ (I78a 4033) ∧ (I78a 4033) ≤ 7 + ((I78a 2774) + 1)) ∧ 0 ≤ (I78a 5889) ∧ (I78a 5889) ≤ (I78a 2774) + 1 by (repeat' apply And.intro) <;> first | assumption | omega) (show m_SC (w_up I78a 2774 ((I78a 2774) + 1)) A78a by exact f86) (show m_TR lo80 (w_up I78a 2774 ((I78a 2774) + 1)) A78a by exact f87) (show (I78a 2754) - ((I78a 2774) + 1) < N by first | assumption | omega)) (fun r268 M269 q270 => ?_)
                rcases q270 with ⟨v271, lo272, I270a, A270a, B270a, C270a, e273, ⟨r274, r275⟩, hR270a, f276, f277, f278, f279, f280, f281, f282, f283⟩ | ⟨I270b, A270b, B270b, C270b, e284, hR270b, f285⟩
                · rw [e273]
                  replace hR270a : w_Rep w_TM fr X u l I270a A270a B270a C270a M269 := hR270a
                  replace f276 : m_fx (w_up I78a 2774 ((I78a 2774) + 1)) A78a I270a A270a := f276
                  replace f277 : ((0 ≤ (I270a 2774) ∧ (I270a 2774) < (I270a 2754) ∧ (I270a 2754) ≤ 1501 ∧ 0 ≤ (I270a 2775) ∧ (I270a 2775) ≤ 24) ∧ ((I270a 3393) = (I270a 3905) ∧ (I270a 3521) = (I270a 3905) ∧ (I270a 3649) = (I270a 3905) ∧ (I270a 3777) = (I270a 3905) ∧ 0 ≤ (I270a 3905) ∧ (I270a 3905) ≤ 3 * (I270a 2774)) ∧ ((I270a 4161) = (I270a 4033) ∧ 7 ≤ (I270a 4289) ∧ (I270a 4289) ≤ (I270a 4033) ∧ (I270a 4033) ≤ 7 + (I270a 2774)) ∧ 0 ≤ (I270a 5889) ∧ (I270a 5889) ≤ (I270a 2774)) ∧ ((I270a 2754) = (I78a 2754) ∧ ((I78a 2774) + 1) + 1 ≤ (I270a 2774) ∧ (I270a 2775) = (I78a 2775) ∧ (I270a 4289) = (I78a 4289) + 0 ∧ (I270a 5889) = (I78a 5889)) ∧ ((I270a 3905) + 1 ≤ (I78a 3905) + 3 * ((I270a 2774) - ((I78a 2774) + 1)) ∧ (I78a 3905) ≤ v271 ∧ v271 + 1 = (I270a 3905) ∧ (I78a 4033) ≤ (I270a 4033) ∧ (I270a 4033) ≤ (I78a 4033) + ((I270a 2774) - ((I78a 2774) + 1))) := f277
                  obtain ⟨⟨⟨n286, n287, n288, n289, n290⟩, ⟨n291, n292, n293, n294, n295, n296⟩, ⟨n297, n298, n299, n300⟩, n301, n302⟩, ⟨n303, n304, n305, n306, n307⟩, ⟨n308, n309, n310, n311, n312⟩⟩ := id f277
                  clear f277
                  replace f278 : m_SC I270a A270a := f278
                  replace f279 : m_TR lo272 I270a A270a := f279
                  replace f280 : m_ST lo80 (w_up I78a 2774 ((I78a 2774) + 1)) A78a lo272 I270a A270a := f280
                  replace f281 : t_B ((A270a 53) (v271)) := f281
                  replace f282 : m_rt lo272 (I270a 3905) v271 := f282
                  replace f283 : m_RK lo272 (I78a 3905) (I270a 3905) (8 * (24 - (I78a 2775)) + 7) := f283
                  have tk313 : m_TK I270a A270a := m_TK_fx f276 tk121
                  have nn314 : (I78a 3905) ≤ (I270a 3905) := by omega
                  have nz315 : 0 ≤ (I78a 3905) := by first | assumption | omega
                  have ho316 : (I78a 2775) = (I 2775) + (1) := by omega
                  have rk318 : m_RK lo272 (I 3905) (I270a 3905) (8 * (24 - (I 2775)) + (-1)) := m_RK_app (I := (w_up I78a 2774 ((I78a 2774) + 1))) (I' := I270a) (R := (8 * (24 - (I 2775)) + (-1))) (show m_RK lo80 (I 3905) (I78a 3905) (8 * (24 - (I 2775)) + (-1)) from rk126) f280 f283 (show 0 ≤ (I 3905) by first | assumption | omega) (m_r8 (by decide)) (m_r8o (k := 1) ho316 (by decide))
                  have s317 : m_ST lo I A lo272 I270a A270a := m_ST_trans (show m_ST lo I A lo80 (w_up I78a 2774 ((I78a 2774) + 1)) A78a from s125) f280 (show 0 ≤ (I 3905) by first | assumption | omega) (show (I 3905) ≤ (I78a 3905) by first | assumption | omega) (show (I 4289) ≤ (I78a 4289) by first | assumption | omega) (show (I 5889) ≤ (I78a 5889) by first | assumption | omega)
                  have k319 : m_kd lo272 I270a A270a (I 3905) (8 * (24 - ((I 2775) + 1)) + 5) v12 t_E := m_kd_ST f280 nn314 k127
                  have rt320 := m_rt_ST f280 (show 0 ≤ v12 by omega) (show v12 < (I78a 3905) by omega) rt128
                  have k321 : m_kd lo272 I270a A270a (I11a 3905) (8 * (24 - (I11a 2775)) + 7) v79 t_B := m_kd_ST f280 nn314 k129
                  have rt322 := m_rt_ST f280 (show 0 ≤ v79 by omega) (show v79 < (I78a 3905) by omega) f90
                  have k323 : m_kd lo272 I270a A270a (I78a 3905) (8 * (24 - (I78a 2775)) + 7) v271 t_B := m_kd_of f280 f279 nz315 (show (I78a 3905) ≤ v271 by first | assumption | omega) (show v271 < (I270a 3905) by omega) f281 f283
                  obtain ⟨j324, j325, j326, j327, j328⟩ := k323.1
                  show w_W _ _ _ (47, [(4, .int (Int32.ofInt ((-1)))), (3, .int (Int32.ofInt (v79))), (2, .int (Int32.ofInt (v12))), (0, .ref 43), (1, .int (Int32.ofInt (vl)))], [.int (Int32.ofInt (v271))], M269) _
                  refine w_adv (n := 3) (F' := (51, [(4, .int (Int32.ofInt (v271))), (3, .int (Int32.ofInt (v79))), (2, .int (Int32.ofInt (v12))), (0, .ref 43), (1, .int (Int32.ofInt (vl)))], [.int (Int32.ofInt (3)), .ref 43], M269)) rfl ?_
                  refine w_call (cm := 244) (as := [(0, .ref 43), (1, .int (Int32.ofInt (3)))]) (rest := []) (o := some (9, 43)) rfl (w_fitR hR270a rfl) (m_closeWord (3) hR270a (show 3 ≤ d by omega) ⟨by omega, by omega⟩ (show 0 ≤ (I270a 2774) ∧ (I270a 2774) < 1501 by omega) (show 1 ≤ (I270a 2775) ∧ (I270a 2775) ≤ 24 by first | assumption | omega)) (fun r329 M330 q331 => ?_)
                  rcases q331 with ⟨e332, hR331a, f333⟩ | ⟨I331b, A331b, B331b, C331b, e334, hR331b, f335⟩
                  · rw [e332]
                    replace hR331a : w_Rep w_TM fr X u l (w_up (w_up I270a 2774 ((I270a 2774) + 1)) 2775 ((I270a 2775) - 1)) A270a B270a C270a M330 := hR331a
                    replace f333 : (A270a 45) ((I270a 2774)) = 5 ∧ (A270a 46) ((I270a 2774)) = 3 := f333
                    obtain ⟨n336, n337⟩ := id f333
                    clear f333
                    have w338 : (I270a 2774) + 1 < (I270a 2754) := m_TK_lt tk313 (show (I270a 2774) < (I270a 2754) by omega) (show 1 ≤ (A270a 45) ((I270a 2774)) by omega) (show (A270a 45) ((I270a 2774)) ≤ 6 by omega)
                    show w_W _ _ _ (54, [(4, .int (Int32.ofInt (v271))), (3, .int (Int32.ofInt (v79))), (2, .int (Int32.ofInt (v12))), (0, .ref 43), (1, .int (Int32.ofInt (vl)))], [], M330) _
                    refine w_adv (n := 5) (F' := (61, [(4, .int (Int32.ofInt (v271))), (3, .int (Int32.ofInt (v79))), (2, .int (Int32.ofInt (v12))), (0, .ref 43), (1, .int (Int32.ofInt (vl)))], [.int (Int32.ofInt (v271)), .int (Int32.ofInt (v79)), .int (Int32.ofInt (v12)), .int (Int32.ofInt (15)), .ref 43], M330)) rfl ?_
                    refine w_call (cm := 239) (as := [(0, .ref 43), (1, .int (Int32.ofInt (15))), (2, .int (Int32.ofInt (v12))), (3, .int (Int32.ofInt (v79))), (4, .int (Int32.ofInt (v271)))]) (rest := []) (o := some (9, 43)) rfl (w_fitR hR331a rfl) (m_node (15) (v12) (v79) (v271) hR331a (show 2 ≤ d by omega) ⟨by omega, by omega⟩ ⟨by omega, by omega⟩ ⟨by omega, by omega⟩ ⟨by omega, by omega⟩ (show (I270a 3393) = (I270a 3905) by first | assumption | omega) (show (I270a 3521) = (I270a 3905) by first | assumption | omega) (show (I270a 3649) = (I270a 3905) by first | assumption | omega) (show (I270a 3777) = (I270a 3905) by first | assumption | omega) (show (I270a 3905) < 65536 by first | assumption | omega)) (fun r339 M340 q341 => ?_)
                    rcases q341 with ⟨v342, I341a, A341a, B341a, C341a, e343, ⟨r344, r345⟩, hR341a, f346, f347⟩
                    rw [e343]
                    replace hR341a : w_Rep w_TM fr X u l I341a A341a B341a C341a M340 := hR341a
                    replace f346 : m_fx (w_up (w_up I270a 2774 ((I270a 2774) + 1)) 2775 ((I270a 2775) - 1)) A270a I341a A341a := f346
                    replace f347 : m_nd (w_up (w_up I270a 2774 ((I270a 2774) + 1)) 2775 ((I270a 2775) - 1)) A270a I341a A341a v342 15 v12 v79 v271 := f347
                    obtain ⟨⟨n348, n349, n350, n351, n352, n353⟩, ⟨n354, n355, n356, n357, n358, n359, n360⟩⟩ : (v342 = (I270a 3905) ∧ (I341a 3905) = (I270a 3905) + 1 ∧ (I341a 3393) = (I270a 3393) + 1 ∧ (I341a 3521) = (I270a 3521) + 1 ∧ (I341a 3649) = (I270a 3649) + 1 ∧ (I341a 3777) = (I270a 3777) + 1) ∧ ((I341a 2774) = (I270a 2774) + 1 ∧ (I341a 2754) = (I270a 2754) ∧ (I341a 2775) = (I270a 2775) - 1 ∧ (I341a 4289) = (I270a 4289) ∧ (I341a 4033) = (I270a 4033) ∧ (I341a 4161) = (I270a 4161) ∧ (I341a 5889) = (I270a 5889)) := m_nd_num f347
                    have tk361 : m_TK I341a A341a := m_TK_fx f346 tk313
                    have sc362 : m_SC I341a A341a := m_SC_nd f347 f278
                    have tr363 : m_TR (t_up lo272 v342 (I 3905) (8 * (24 - (I 2775)) + (0))) I341a A341a := m_TR_nd (show m_TR lo272 (w_up (w_up I270a 2774 ((I270a 2774) + 1)) 2775 ((I270a 2775) - 1)) A270a from f279) f347 (show 0 ≤ (I 3905) by omega) (show (I 3905) ≤ v342 by omega) (m_cl_ST (show m_ST lo I A lo272 (w_up (w_up I270a 2774 ((I270a 2774) + 1)) 2775 ((I270a 2775) - 1)) A270a from s317) hTR (show 0 ≤ (I 3905) by omega)) (t_N_mk15 t_up_same (show 0 ≤ (I 3905) by omega) (show (I 3905) ≤ v342 by omega) (show 0 ≤ (8 * (24 - (I 2775)) + (0)) by omega) (m_hw (show m_RK lo272 (I 3905) v342 (8 * (24 - (I 2775)) + (-1)) from fun q q1 q2 => (show m_RK lo272 (I 3905) (I270a 3905) (8 * (24 - (I 2775)) + (-1)) from rk318) q (show (I 3905) ≤ q by omega) (show q < (I270a 3905) by omega)) (m_r8l (by decide))) ⟨m_ch f347 (show (I 3905) ≤ (I 3905) by omega) k319, m_ch f347 (show (I 3905) ≤ (I11a 3905) by omega) k321, Or.inr (m_ch f347 (show (I 3905) ≤ (I78a 3905) by omega) k323), m_od f347 k321 (show v12 < (I11a 3905) by omega), Or.inr (m_od f347 k323 (show v79 < (I78a 3905) by omega))⟩)
                    have s364 : m_ST lo I A (t_up lo272 v342 (I 3905) (8 * (24 - (I 2775)) + (0))) I341a A341a := m_ST_nd (l := (I 3905)) (show m_ST lo I A lo272 (w_up (w_up I270a 2774 ((I270a 2774) + 1)) 2775 ((I270a 2775) - 1)) A270a from s317) f347 (show (I 3905) ≤ (I 3905) by omega) (show (I 3905) ≤ (I270a 3905) by omega)
                    have rk365 : m_RK (t_up lo272 v342 (I 3905) (8 * (24 - (I 2775)) + (0))) (I 3905) (I341a 3905) (8 * (24 - (I 2775)) + (0)) := fun q q1 q2 => m_RK_nd (show m_RK lo272 (I 3905) v342 (8 * (24 - (I 2775)) + (-1)) from fun q q1 q2 => (show m_RK lo272 (I 3905) (I270a 3905) (8 * (24 - (I 2775)) + (-1)) from rk318) q q1 (show q < (I270a 3905) by omega)) (m_r8 (by decide)) (m_r8 (by decide)) q q1 (show q < v342 + 1 by omega)
                    have k366 : m_kd (t_up lo272 v342 (I 3905) (8 * (24 - (I 2775)) + (0))) I341a A341a (I 3905) (8 * (24 - (I 2775)) + (0)) v342 (fun k => k = 15) := m_kd_new f347 (show 0 ≤ (I 3905) by omega) (show (I 3905) ≤ v342 by omega) rfl
                    have rt367 : m_rt (t_up lo272 v342 (I 3905) (8 * (24 - (I 2775)) + (0))) (I341a 3905) v342 := m_rt_new f347
                    show w_W _ _ _ (64, [(4, .int (Int32.ofInt (v271))), (3, .int (Int32.ofInt (v79))), (2, .int (Int32.ofInt (v12))), (0, .ref 43), (1, .int (Int32.ofInt (vl)))], [.int (Int32.ofInt (v342))], M340) _
                    refine w_fin (r := .inl (some (v342))) (M' := M340) rfl ?_
                    exact Or.inl ⟨v342, (t_up lo272 v342 (I 3905) (8 * (24 - (I 2775)) + (0))), I341a, A341a, B341a, C341a, rfl, ⟨by omega, by omega⟩, hR341a, (show m_fx I A I341a A341a by exact (m_fx_trans (m_fx_trans (m_fx_trans f17 f84) f276) f346)), (show ((0 ≤ (I341a 2774) ∧ (I341a 2774) < (I341a 2754) ∧ (I341a 2754) ≤ 1501 ∧ 0 ≤ (I341a 2775) ∧ (I341a 2775) ≤ 24) ∧ ((I341a 3393) = (I341a 3905) ∧ (I341a 3521) = (I341a 3905) ∧ (I341a 3649) = (I341a 3905) ∧ (I341a 3777) = (I341a 3905) ∧ 0 ≤ (I341a 3905) ∧ (I341a 3905) ≤ 3 * (I341a 2774)) ∧ ((I341a 4161) = (I341a 4033) ∧ 7 ≤ (I341a 4289) ∧ (I341a 4289) ≤ (I341a 4033) ∧ (I341a 4033) ≤ 7 + (I341a 2774)) ∧ 0 ≤ (I341a 5889) ∧ (I341a 5889) ≤ (I341a 2774)) ∧ ((I341a 2754) = (I 2754) ∧ (I 2774) + 1 ≤ (I341a 2774) ∧ (I341a 2775) = (I 2775) ∧ (I341a 4289) = (I 4289) + 0 ∧ (I341a 5889) = (I 5889)) ∧ ((I341a 3905) + 2 ≤ (I 3905) + 3 * ((I341a 2774) - (I 2774)) ∧ (I 3905) ≤ v342 ∧ v342 + 1 = (I341a 3905) ∧ (I 4033) ≤ (I341a 4033) ∧ (I341a 4033) ≤ (I 4033) + ((I341a 2774) - (I 2774))) by (repeat' apply And.intro) <;> first | assumption | omega), (show m_SC I341a A341a by exact sc362), (show m_TR (t_up lo272 v342 (I 3905) (8 * (24 - (I 2775)) + (0))) I341a A341a by exact tr363), (show m_ST lo I A (t_up lo272 v342 (I 3905) (8 * (24 - (I 2775)) + (0))) I341a A341a by exact s364), (show (fun k => k = 15) ((A341a 53) (v342)) by exact (k366).2), (show m_rt (t_up lo272 v342 (I 3905) (8 * (24 - (I 2775)) + (0))) (I341a 3905) v342 by exact rt367), (show m_RK (t_up lo272 v342 (I 3905) (8 * (24 - (I 2775)) + (0))) (I 3905) (I341a 3905) (8 * (24 - (I 2775)) + 0) by exact m_RK_le (show m_RK (t_up lo272 v342 (I 3905) (8 * (24 - (I 2775)) + (0))) (I 3905) (I341a 3905) (8 * (24 - (I 2775)) + (0)) from rk365) (show (8 * (24 - (I 2775)) + (0)) ≤ 8 * (24 - (I 2775)) + 0 by omega))⟩
                  · rw [e334]
                    replace hR331b : w_Rep w_TM fr X u l I331b A331b B331b C331b M330 := hR331b
                    replace f335 : m_fx I270a A270a I331b A331b := f335
                    exact Or.inr (⟨I331b, A331b, B331b, C331b, rfl, hR331b, (show m_fx I A I331b A331b by exact (m_fx_trans (m_fx_trans (m_fx_trans f17 f84) f276) f335))⟩)
                · rw [e284]
                  replace hR270b : w_Rep w_TM fr X u l I270b A270b B270b C270b M269 := hR270b
                  replace f285 : m_fx (w_up I78a 2774 ((I78a 2774) + 1)) A78a I270b A270b := f285
                  exact Or.inr (⟨I270b, A270b, B270b, C270b, rfl, hR270b, (show m_fx I A I270b A270b by exact (m_fx_trans (m_fx_trans f17 f84) f285))⟩)
              · rw [e263]
                replace hR260b : w_Rep w_TM fr X u l I260b A260b B260b C260b M259 := hR260b
                replace f264 : m_fx I78a A78a I260b A260b := f264
                exact Or.inr (⟨I260b, A260b, B260b, C260b, rfl, hR260b, (show m_fx I A I260b A260b by exact (m_fx_trans (m_fx_trans f17 f84) f264))⟩)
            · rw [e252, e253]
              replace f254 : ¬ ((A78a 45) ((I78a 2774)) = 5 ∧ (A78a 46) ((I78a 2774)) = 6) := f254
              show w_W _ _ _ (33, [(4, .int (Int32.ofInt ((-1)))), (3, .int (Int32.ofInt (v79))), (2, .int (Int32.ofInt (v12))), (0, .ref 43), (1, .int (Int32.ofInt (vl)))], [.int (Int32.ofInt (0))], M77) _
              refine w_adv (n := 3) (F' := (51, [(4, .int (Int32.ofInt ((-1)))), (3, .int (Int32.ofInt (v79))), (2, .int (Int32.ofInt (v12))), (0, .ref 43), (1, .int (Int32.ofInt (vl)))], [.int (Int32.ofInt (3)), .ref 43], M77)) rfl ?_
              refine w_call (cm := 244) (as := [(0, .ref 43), (1, .int (Int32.ofInt (3)))]) (rest := []) (o := some (9, 43)) rfl (w_fitR hR78a rfl) (m_closeWord (3) hR78a (show 3 ≤ d by omega) ⟨by omega, by omega⟩ (show 0 ≤ (I78a 2774) ∧ (I78a 2774) < 1501 by omega) (show 1 ≤ (I78a 2775) ∧ (I78a 2775) ≤ 24 by first | assumption | omega)) (fun r368 M369 q370 => ?_)
              rcases q370 with ⟨e371, hR370a, f372⟩ | ⟨I370b, A370b, B370b, C370b, e373, hR370b, f374⟩
              · rw [e371]
                replace hR370a : w_Rep w_TM fr X u l (w_up (w_up I78a 2774 ((I78a 2774) + 1)) 2775 ((I78a 2775) - 1)) A78a B78a C78a M369 := hR370a
                replace f372 : (A78a 45) ((I78a 2774)) = 5 ∧ (A78a 46) ((I78a 2774)) = 3 := f372
                obtain ⟨n375, n376⟩ := id f372
                clear f372
                have w377 : (I78a 2774) + 1 < (I78a 2754) := m_TK_lt tk121 (show (I78a 2774) < (I78a 2754) by omega) (show 1 ≤ (A78a 45) ((I78a 2774)) by omega) (show (A78a 45) ((I78a 2774)) ≤ 6 by omega)
                show w_W _ _ _ (54, [(4, .int (Int32.ofInt ((-1)))), (3, .int (Int32.ofInt (v79))), (2, .int (Int32.ofInt (v12))), (0, .ref 43), (1, .int (Int32.ofInt (vl)))], [], M369) _
                refine w_adv (n := 5) (F' := (61, [(4, .int (Int32.ofInt ((-1)))), (3, .int (Int32.ofInt (v79))), (2, .int (Int32.ofInt (v12))), (0, .ref 43), (1, .int (Int32.ofInt (vl)))], [.int (Int32.ofInt ((-1))), .int (Int32.ofInt (v79)), .int (Int32.ofInt (v12)), .int (Int32.ofInt (15)), .ref 43], M369)) rfl ?_
                refine w_call (cm := 239) (as := [(0, .ref 43), (1, .int (Int32.ofInt (15))), (2, .int (Int32.ofInt (v12))), (3, .int (Int32.ofInt (v79))), (4, .int (Int32.ofInt ((-1))))]) (rest := []) (o := some (9, 43)) rfl (w_fitR hR370a rfl) (m_node (15) (v12) (v79) ((-1)) hR370a (show 2 ≤ d by omega) ⟨by omega, by omega⟩ ⟨by omega, by omega⟩ ⟨by omega, by omega⟩ ⟨by omega, by omega⟩ (show (I78a 3393) = (I78a 3905) by first | assumption | omega) (show (I78a 3521) = (I78a 3905) by first | assumption | omega) (show (I78a 3649) = (I78a 3905) by first | assumption | omega) (show (I78a 3777) = (I78a 3905) by first | assumption | omega) (show (I78a 3905) < 65536 by first | assumption | omega)) (fun r378 M379 q380 => ?_)
                rcases q380 with ⟨v381, I380a, A380a, B380a, C380a, e382, ⟨r383, r384⟩, hR380a, f385, f386⟩
                rw [e382]
                replace hR380a : w_Rep w_TM fr X u l I380a A380a B380a C380a M379 := hR380a
                replace f385 : m_fx (w_up (w_up I78a 2774 ((I78a 2774) + 1)) 2775 ((I78a 2775) - 1)) A78a I380a A380a := f385
                replace f386 : m_nd (w_up (w_up I78a 2774 ((I78a 2774) + 1)) 2775 ((I78a 2775) - 1)) A78a I380a A380a v381 15 v12 v79 (-1) := f386
                obtain ⟨⟨n387, n388, n389, n390, n391, n392⟩, ⟨n393, n394, n395, n396, n397, n398, n399⟩⟩ : (v381 = (I78a 3905) ∧ (I380a 3905) = (I78a 3905) + 1 ∧ (I380a 3393) = (I78a 3393) + 1 ∧ (I380a 3521) = (I78a 3521) + 1 ∧ (I380a 3649) = (I78a 3649) + 1 ∧ (I380a 3777) = (I78a 3777) + 1) ∧ ((I380a 2774) = (I78a 2774) + 1 ∧ (I380a 2754) = (I78a 2754) ∧ (I380a 2775) = (I78a 2775) - 1 ∧ (I380a 4289) = (I78a 4289) ∧ (I380a 4033) = (I78a 4033) ∧ (I380a 4161) = (I78a 4161) ∧ (I380a 5889) = (I78a 5889)) := m_nd_num f386
                have tk400 : m_TK I380a A380a := m_TK_fx f385 tk121
                have sc401 : m_SC I380a A380a := m_SC_nd f386 f86
                have tr402 : m_TR (t_up lo80 v381 (I 3905) (8 * (24 - (I 2775)) + (0))) I380a A380a := m_TR_nd (show m_TR lo80 (w_up (w_up I78a 2774 ((I78a 2774) + 1)) 2775 ((I78a 2775) - 1)) A78a from f87) f386 (show 0 ≤ (I 3905) by omega) (show (I 3905) ≤ v381 by omega) (m_cl_ST (show m_ST lo I A lo80 (w_up (w_up I78a 2774 ((I78a 2774) + 1)) 2775 ((I78a 2775) - 1)) A78a from s125) hTR (show 0 ≤ (I 3905) by omega)) (t_N_mk15 t_up_same (show 0 ≤ (I 3905) by omega) (show (I 3905) ≤ v381 by omega) (show 0 ≤ (8 * (24 - (I 2775)) + (0)) by omega) (m_hw (show m_RK lo80 (I 3905) v381 (8 * (24 - (I 2775)) + (-1)) from fun q q1 q2 => (show m_RK lo80 (I 3905) (I78a 3905) (8 * (24 - (I 2775)) + (-1)) from rk126) q (show (I 3905) ≤ q by omega) (show q < (I78a 3905) by omega)) (m_r8l (by decide))) ⟨m_ch f386 (show (I 3905) ≤ (I 3905) by omega) k127, m_ch f386 (show (I 3905) ≤ (I11a 3905) by omega) k129, Or.inl rfl, m_od f386 k129 (show v12 < (I11a 3905) by omega), Or.inl rfl⟩)
                have s403 : m_ST lo I A (t_up lo80 v381 (I 3905) (8 * (24 - (I 2775)) + (0))) I380a A380a := m_ST_nd (l := (I 3905)) (show m_ST lo I A lo80 (w_up (w_up I78a 2774 ((I78a 2774) + 1)) 2775 ((I78a 2775) - 1)) A78a from s125) f386 (show (I 3905) ≤ (I 3905) by omega) (show (I 3905) ≤ (I78a 3905) by omega)
                have rk404 : m_RK (t_up lo80 v381 (I 3905) (8 * (24 - (I 2775)) + (0))) (I 3905) (I380a 3905) (8 * (24 - (I 2775)) + (0)) := fun q q1 q2 => m_RK_nd (show m_RK lo80 (I 3905) v381 (8 * (24 - (I 2775)) + (-1)) from fun q q1 q2 => (show m_RK lo80 (I 3905) (I78a 3905) (8 * (24 - (I 2775)) + (-1)) from rk126) q q1 (show q < (I78a 3905) by omega)) (m_r8 (by decide)) (m_r8 (by decide)) q q1 (show q < v381 + 1 by omega)
                have k405 : m_kd (t_up lo80 v381 (I 3905) (8 * (24 - (I 2775)) + (0))) I380a A380a (I 3905) (8 * (24 - (I 2775)) + (0)) v381 (fun k => k = 15) := m_kd_new f386 (show 0 ≤ (I 3905) by omega) (show (I 3905) ≤ v381 by omega) rfl
                have rt406 : m_rt (t_up lo80 v381 (I 3905) (8 * (24 - (I 2775)) + (0))) (I380a 3905) v381 := m_rt_new f386
                show w_W _ _ _ (64, [(4, .int (Int32.ofInt ((-1)))), (3, .int (Int32.ofInt (v79))), (2, .int (Int32.ofInt (v12))), (0, .ref 43), (1, .int (Int32.ofInt (vl)))], [.int (Int32.ofInt (v381))], M379) _
                refine w_fin (r := .inl (some (v381))) (M' := M379) rfl ?_
                exact Or.inl ⟨v381, (t_up lo80 v381 (I 3905) (8 * (24 - (I 2775)) + (0))), I380a, A380a, B380a, C380a, rfl, ⟨by omega, by omega⟩, hR380a, (show m_fx I A I380a A380a by exact (m_fx_trans (m_fx_trans f17 f84) f385)), (show ((0 ≤ (I380a 2774) ∧ (I380a 2774) < (I380a 2754) ∧ (I380a 2754) ≤ 1501 ∧ 0 ≤ (I380a 2775) ∧ (I380a 2775) ≤ 24) ∧ ((I380a 3393) = (I380a 3905) ∧ (I380a 3521) = (I380a 3905) ∧ (I380a 3649) = (I380a 3905) ∧ (I380a 3777) = (I380a 3905) ∧ 0 ≤ (I380a 3905) ∧ (I380a 3905) ≤ 3 * (I380a 2774)) ∧ ((I380a 4161) = (I380a 4033) ∧ 7 ≤ (I380a 4289) ∧ (I380a 4289) ≤ (I380a 4033) ∧ (I380a 4033) ≤ 7 + (I380a 2774)) ∧ 0 ≤ (I380a 5889) ∧ (I380a 5889) ≤ (I380a 2774)) ∧ ((I380a 2754) = (I 2754) ∧ (I 2774) + 1 ≤ (I380a 2774) ∧ (I380a 2775) = (I 2775) ∧ (I380a 4289) = (I 4289) + 0 ∧ (I380a 5889) = (I 5889)) ∧ ((I380a 3905) + 2 ≤ (I 3905) + 3 * ((I380a 2774) - (I 2774)) ∧ (I 3905) ≤ v381 ∧ v381 + 1 = (I380a 3905) ∧ (I 4033) ≤ (I380a 4033) ∧ (I380a 4033) ≤ (I 4033) + ((I380a 2774) - (I 2774))) by (repeat' apply And.intro) <;> first | assumption | omega), (show m_SC I380a A380a by exact sc401), (show m_TR (t_up lo80 v381 (I 3905) (8 * (24 - (I 2775)) + (0))) I380a A380a by exact tr402), (show m_ST lo I A (t_up lo80 v381 (I 3905) (8 * (24 - (I 2775)) + (0))) I380a A380a by exact s403), (show (fun k => k = 15) ((A380a 53) (v381)) by exact (k405).2), (show m_rt (t_up lo80 v381 (I 3905) (8 * (24 - (I 2775)) + (0))) (I380a 3905) v381 by exact rt406), (show m_RK (t_up lo80 v381 (I 3905) (8 * (24 - (I 2775)) + (0))) (I 3905) (I380a 3905) (8 * (24 - (I 2775)) + 0) by exact m_RK_le (show m_RK (t_up lo80 v381 (I 3905) (8 * (24 - (I 2775)) + (0))) (I 3905) (I380a 3905) (8 * (24 - (I 2775)) + (0)) from rk404) (show (8 * (24 - (I 2775)) + (0)) ≤ 8 * (24 - (I 2775)) + 0 by omega))⟩
              · rw [e373]
                replace hR370b : w_Rep w_TM fr X u l I370b A370b B370b C370b M369 := hR370b
                replace f374 : m_fx I78a A78a I370b A370b := f374
                exact Or.inr (⟨I370b, A370b, B370b, C370b, rfl, hR370b, (show m_fx I A I370b A370b by exact (m_fx_trans (m_fx_trans f17 f84) f374))⟩)
        · rw [e92]
          replace hR78b : w_Rep w_TM fr X u l I78b A78b B78b C78b M77 := hR78b
          replace f93 : m_fx (w_up I11a 2774 ((I11a 2774) + 1)) A11a I78b A78b := f93
          exact Or.inr (⟨I78b, A78b, B78b, C78b, rfl, hR78b, (show m_fx I A I78b A78b by exact (m_fx_trans f17 f93))⟩)
      · rw [e71]
        replace hR68b : w_Rep w_TM fr X u l I68b A68b B68b C68b M67 := hR68b
        replace f72 : m_fx I11a A11a I68b A68b := f72
        exact Or.inr (⟨I68b, A68b, B68b, C68b, rfl, hR68b, (show m_fx I A I68b A68b by exact (m_fx_trans f17 f72))⟩)
    · rw [e25]
      replace hR11b : w_Rep w_TM fr X u l I11b A11b B11b C11b M10 := hR11b
      replace f26 : m_fx (w_up (w_up I 2775 ((I 2775) + 1)) 2774 ((I 2774) + 1)) A I11b A11b := f26
      exact Or.inr (⟨I11b, A11b, B11b, C11b, rfl, hR11b, (show m_fx I A I11b A11b by exact f26)⟩)
  · rw [e6]
    replace hR3b : w_Rep w_TM fr X u l I3b A3b B3b C3b M2 := hR3b
    replace f7 : m_fx I A I3b A3b := f7
    exact Or.inr (⟨I3b, A3b, B3b, C3b, rfl, hR3b, (show m_fx I A I3b A3b by exact f7)⟩)
