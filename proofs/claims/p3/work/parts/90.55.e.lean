def m_atomic_Q (fr : Nat → Bool) (X : Nat → Option (q_C (Nat → Int32))) (u l : Nat) (I : Nat → Int) (A : Nat → Int → Int) (B C : Nat → Nat) (M : w_M) (lo : Int → Int × Int) : w_X → w_M → Prop := fun r M' => (∃ v : Int, ∃ lo' : Int → Int × Int, ∃ (I' : Nat → Int) (A' : Nat → Int → Int) (B' C' : Nat → Nat), (r = .inl (some v)) ∧ (w_in v) ∧ (w_Rep w_TM fr X u l I' A' B' C' M') ∧ (m_fx I A I' A') ∧ (((0 ≤ (I' 2774) ∧ (I' 2774) < (I' 2754) ∧ (I' 2754) ≤ 1501 ∧ 0 ≤ (I' 2775) ∧ (I' 2775) ≤ 24) ∧ ((I' 3393) = (I' 3905) ∧ (I' 3521) = (I' 3905) ∧ (I' 3649) = (I' 3905) ∧ (I' 3777) = (I' 3905) ∧ 0 ≤ (I' 3905) ∧ (I' 3905) ≤ 3 * (I' 2774)) ∧ ((I' 4161) = (I' 4033) ∧ 7 ≤ (I' 4289) ∧ (I' 4289) ≤ (I' 4033) ∧ (I' 4033) ≤ 7 + (I' 2774)) ∧ 0 ≤ (I' 5889) ∧ (I' 5889) ≤ (I' 2774)) ∧ ((I' 2754) = (I 2754) ∧ (I 2774) + 1 ≤ (I' 2774) ∧ (I' 2775) = (I 2775) ∧ (I' 4289) = (I 4289) + 0 ∧ (I' 5889) = (I 5889)) ∧ ((I' 3905) + 2 ≤ (I 3905) + 3 * ((I' 2774) - (I 2774)) ∧ (I 3905) ≤ v ∧ v + 1 = (I' 3905) ∧ (I 4033) ≤ (I' 4033) ∧ (I' 4033) ≤ (I 4033) + ((I' 2774) - (I 2774)))) ∧ (m_SC I' A') ∧ (m_TR lo' I' A') ∧ (m_ST lo I A lo' I' A') ∧ (t_E ((A' 53) (v))) ∧ (m_rt lo' (I' 3905) v) ∧ (m_RK lo' (I 3905) (I' 3905) (8 * (24 - (I 2775)) + 0))) ∨ (∃ (I' : Nat → Int) (A' : Nat → Int → Int) (B' C' : Nat → Nat), (r = .inr 69) ∧ (w_Rep w_TM fr X u l I' A' B' C' M') ∧ (m_fx I A I' A'))
set_option maxHeartbeats 100000000 in
set_option maxRecDepth 100000 in
theorem m_atomic {L : Nat} {xs : Nat → Int32} {d : Nat} {fr : Nat → Bool} {X : Nat → Option (q_C (Nat → Int32))} {u l : Nat} {I : Nat → Int} {A : Nat → Int → Int} {B C : Nat → Nat} {M : w_M} {N : Int} (hA : m_all L xs N) (lo : Int → Int × Int) (hR : w_Rep w_TM fr X u l I A B C M) (hd : 20 * (24 - (I 2775)) + 12 ≤ (d : Int)) (hTK : m_TK I A) (hNU : (0 ≤ (I 2774) ∧ (I 2774) < (I 2754) ∧ (I 2754) ≤ 1501 ∧ 0 ≤ (I 2775) ∧ (I 2775) ≤ 24) ∧ ((I 3393) = (I 3905) ∧ (I 3521) = (I 3905) ∧ (I 3649) = (I 3905) ∧ (I 3777) = (I 3905) ∧ 0 ≤ (I 3905) ∧ (I 3905) ≤ 3 * (I 2774)) ∧ ((I 4161) = (I 4033) ∧ 7 ≤ (I 4289) ∧ (I 4289) ≤ (I 4033) ∧ (I 4033) ≤ 7 + (I 2774)) ∧ 0 ≤ (I 5889) ∧ (I 5889) ≤ (I 2774)) (hSC : m_SC I A) (hTR : m_TR lo I A) (hm : (I 2754) - (I 2774) ≤ N) : w_W (z_P L xs) d 250 (0, [(0, .ref 43)], [], M) (m_atomic_Q fr X u l I A B C M lo) := by
  obtain ⟨d, rfl⟩ : ∃ d0, d = d0 + 1 := ⟨d - 1, by omega⟩
  refine w_adv (n := 1) (F' := (1, [(0, .ref 43)], [.ref 43], M)) rfl ?_
  refine w_gf (v := .ref 45) hR rfl rfl rfl rfl ?_
  refine w_adv (n := 1) (F' := (5, [(0, .ref 43)], [.ref 43, .ref 45], M)) rfl ?_
  refine w_gf (v := .int (Int32.ofInt ((I 2774)))) hR rfl rfl rfl rfl ?_
  obtain ⟨r1, r2⟩ : -2147483648 ≤ (I 2774) ∧ (I 2774) ≤ 2147483647 := hR.ri 2774
  refine w_la (n := 1502) hR rfl (Or.inl ⟨rfl, rfl⟩) rfl (show 0 ≤ (I 2774) by omega) (show (I 2774) < (1502 : Int) by omega) (by decide) ?_
  obtain ⟨r3, r4⟩ : -2147483648 ≤ (A 45) ((I 2774)) ∧ (A 45) ((I 2774)) ≤ 2147483647 := hR.ra 45 ((I 2774))
  show w_W _ _ _ (9, [(0, .ref 43)], [.int (Int32.ofInt ((A 45) ((I 2774))))], M) _
  refine w_adv (n := 3) (F' := (12, [(1, .int (Int32.ofInt ((A 45) ((I 2774))))), (0, .ref 43)], [.int (Int32.ofInt (4)), .int (Int32.ofInt ((A 45) ((I 2774))))], M)) rfl ?_
  refine w_br2 (a := (A 45) ((I 2774))) (b := 4) rfl rfl ⟨by omega, by omega⟩ ⟨by omega, by omega⟩ (fun h5 => ?_) (fun h5 => ?_)
  · have h5 : (A 45) ((I 2774)) = 4 := h5
    have w6 : (I 2774) + 1 < (I 2754) := m_TK_lt hTK (show (I 2774) < (I 2754) by omega) (show 1 ≤ (A 45) ((I 2774)) by omega) (show (A 45) ((I 2774)) ≤ 6 by omega)
    show w_W _ _ _ (20, [(1, .int (Int32.ofInt ((A 45) ((I 2774))))), (0, .ref 43)], [], M) _
    refine w_adv (n := 2) (F' := (22, [(1, .int (Int32.ofInt ((A 45) ((I 2774))))), (0, .ref 43)], [.ref 43, .ref 43], M)) rfl ?_
    refine w_gf (v := .int (Int32.ofInt ((I 2774)))) hR rfl rfl rfl rfl ?_
    refine w_adv (n := 1) (F' := (26, [(1, .int (Int32.ofInt ((A 45) ((I 2774))))), (0, .ref 43)], [.int (Int32.ofInt (1)), .int (Int32.ofInt ((I 2774))), .ref 43], M)) rfl ?_
    refine w_add rfl ?_
    refine w_pf hR rfl rfl rfl rfl (show w_in ((I 2774) + 1) from ⟨by omega, by omega⟩) (fun h => absurd h (by decide)) (fun M7 hR8 => ?_)
    replace hR8 : w_Rep w_TM fr X u l (w_up I 2774 ((I 2774) + 1)) A B C M7 := hR8
    refine w_adv (n := 3) (F' := (33, [(1, .int (Int32.ofInt ((A 45) ((I 2774))))), (0, .ref 43)], [.int (Int32.ofInt (4)), .int (Int32.ofInt ((A 45) ((I 2774)))), .ref 43], M7)) rfl ?_
    refine w_br2 (a := (A 45) ((I 2774))) (b := 4) rfl rfl ⟨by omega, by omega⟩ ⟨by omega, by omega⟩ (fun h9 => ?_) (fun h9 => ?_)
    · have h9 : ¬ (A 45) ((I 2774)) = 4 := h9
      show w_W _ _ _ (40, [(1, .int (Int32.ofInt ((A 45) ((I 2774))))), (0, .ref 43)], [.ref 43], M7) _
      refine w_adv (n := 2) (F' := (42, [(1, .int (Int32.ofInt ((A 45) ((I 2774))))), (0, .ref 43)], [.ref 43, .int (Int32.ofInt (4)), .ref 43], M7)) rfl ?_
      refine w_gf (v := .ref 46) hR8 rfl rfl rfl rfl ?_
      refine w_adv (n := 1) (F' := (46, [(1, .int (Int32.ofInt ((A 45) ((I 2774))))), (0, .ref 43)], [.ref 43, .ref 46, .int (Int32.ofInt (4)), .ref 43], M7)) rfl ?_
      refine w_gf (v := .int (Int32.ofInt ((I 2774) + 1))) hR8 rfl rfl rfl rfl ?_
      refine w_adv (n := 1) (F' := (50, [(1, .int (Int32.ofInt ((A 45) ((I 2774))))), (0, .ref 43)], [.int (Int32.ofInt (1)), .int (Int32.ofInt ((I 2774) + 1)), .ref 46, .int (Int32.ofInt (4)), .ref 43], M7)) rfl ?_
      refine w_sub rfl ?_
      refine w_la (n := 1502) hR8 rfl (Or.inl ⟨rfl, rfl⟩) rfl (show 0 ≤ ((I 2774) + 1) - 1 by omega) (show ((I 2774) + 1) - 1 < (1502 : Int) by omega) (by decide) ?_
      obtain ⟨r10, r11⟩ : -2147483648 ≤ (A 46) (((I 2774) + 1) - 1) ∧ (A 46) (((I 2774) + 1) - 1) ≤ 2147483647 := hR8.ra 46 (((I 2774) + 1) - 1)
      show w_W _ _ _ (52, [(1, .int (Int32.ofInt ((A 45) ((I 2774))))), (0, .ref 43)], [.int (Int32.ofInt ((A 46) (((I 2774) + 1) - 1))), .int (Int32.ofInt (4)), .ref 43], M7) _
      refine w_adv (n := 2) (F' := (54, [(1, .int (Int32.ofInt ((A 45) ((I 2774))))), (0, .ref 43)], [.int (Int32.ofInt (0)), .int (Int32.ofInt (0)), .int (Int32.ofInt ((A 46) (((I 2774) + 1) - 1))), .int (Int32.ofInt (4)), .ref 43], M7)) rfl ?_
      refine w_call (cm := 239) (as := [(0, .ref 43), (1, .int (Int32.ofInt (4))), (2, .int (Int32.ofInt ((A 46) (((I 2774) + 1) - 1)))), (3, .int (Int32.ofInt (0))), (4, .int (Int32.ofInt (0)))]) (rest := []) (o := some (9, 43)) rfl (w_fitR hR8 rfl) (m_node (4) ((A 46) (((I 2774) + 1) - 1)) (0) (0) hR8 (show 2 ≤ d by omega) ⟨by omega, by omega⟩ ⟨by omega, by omega⟩ ⟨by omega, by omega⟩ ⟨by omega, by omega⟩ (show (I 3393) = (I 3905) by first | assumption | omega) (show (I 3521) = (I 3905) by first | assumption | omega) (show (I 3649) = (I 3905) by first | assumption | omega) (show (I 3777) = (I 3905) by first | assumption | omega) (show (I 3905) < 65536 by first | assumption | omega)) (fun r12 M13 q14 => ?_)
      rcases q14 with ⟨v15, I14a, A14a, B14a, C14a, e16, ⟨r17, r18⟩, hR14a, f19, f20⟩
      rw [e16]
      replace hR14a : w_Rep w_TM fr X u l I14a A14a B14a C14a M13 := hR14a
      replace f19 : m_fx (w_up I 2774 ((I 2774) + 1)) A I14a A14a := f19
      replace f20 : m_nd (w_up I 2774 ((I 2774) + 1)) A I14a A14a v15 4 ((A 46) (((I 2774) + 1) - 1)) 0 0 := f20
      obtain ⟨⟨n21, n22, n23, n24, n25, n26⟩, ⟨n27, n28, n29, n30, n31, n32, n33⟩⟩ : (v15 = (I 3905) ∧ (I14a 3905) = (I 3905) + 1 ∧ (I14a 3393) = (I 3393) + 1 ∧ (I14a 3521) = (I 3521) + 1 ∧ (I14a 3649) = (I 3649) + 1 ∧ (I14a 3777) = (I 3777) + 1) ∧ ((I14a 2774) = (I 2774) + 1 ∧ (I14a 2754) = (I 2754) ∧ (I14a 2775) = (I 2775) ∧ (I14a 4289) = (I 4289) ∧ (I14a 4033) = (I 4033) ∧ (I14a 4161) = (I 4161) ∧ (I14a 5889) = (I 5889)) := m_nd_num f20
      have tk34 : m_TK I14a A14a := m_TK_fx f19 hTK
      have sc35 : m_SC I14a A14a := m_SC_nd f20 hSC
      have tr36 : m_TR (t_up lo v15 (I 3905) (8 * (24 - (I 2775)) + (0))) I14a A14a := m_TR_nd (show m_TR lo (w_up I 2774 ((I 2774) + 1)) A from hTR) f20 (show 0 ≤ (I 3905) by omega) (show (I 3905) ≤ v15 by omega) (m_cl_ST (I1 := I) (show m_ST lo I A lo (w_up I 2774 ((I 2774) + 1)) A from m_ST_refl) (show m_TR lo I A from hTR) (show 0 ≤ (I 3905) by omega)) (t_N_mk4 t_up_same (show 0 ≤ (I 3905) by omega) (show (I 3905) ≤ v15 by omega) (show 0 ≤ (8 * (24 - (I 2775)) + (0)) by omega) (fun q q1 q2 => by omega))
      have s37 : m_ST lo I A (t_up lo v15 (I 3905) (8 * (24 - (I 2775)) + (0))) I14a A14a := m_ST_nd (l := (I 3905)) (show m_ST lo I A lo (w_up I 2774 ((I 2774) + 1)) A from m_ST_refl) f20 (show (I 3905) ≤ (I 3905) by omega) (show (I 3905) ≤ (I 3905) by omega)
      have rk38 : m_RK (t_up lo v15 (I 3905) (8 * (24 - (I 2775)) + (0))) (I 3905) (I14a 3905) (8 * (24 - (I 2775)) + (0)) := fun q q1 q2 => by rw [show q = v15 by omega, t_up_same]; exact Int.le_refl _
      have k39 : m_kd (t_up lo v15 (I 3905) (8 * (24 - (I 2775)) + (0))) I14a A14a (I 3905) (8 * (24 - (I 2775)) + (0)) v15 (fun k => k = 4) := m_kd_new f20 (show 0 ≤ (I 3905) by omega) (show (I 3905) ≤ v15 by omega) rfl
      have rt40 : m_rt (t_up lo v15 (I 3905) (8 * (24 - (I 2775)) + (0))) (I14a 3905) v15 := m_rt_new f20
      show w_W _ _ _ (57, [(1, .int (Int32.ofInt ((A 45) ((I 2774))))), (0, .ref 43)], [.int (Int32.ofInt (v15))], M13) _
      refine w_fin (r := .inl (some (v15))) (M' := M13) rfl ?_
      exact Or.inl ⟨v15, (t_up lo v15 (I 3905) (8 * (24 - (I 2775)) + (0))), I14a, A14a, B14a, C14a, rfl, ⟨by omega, by omega⟩, hR14a, (show m_fx I A I14a A14a by exact f19), (show ((0 ≤ (I14a 2774) ∧ (I14a 2774) < (I14a 2754) ∧ (I14a 2754) ≤ 1501 ∧ 0 ≤ (I14a 2775) ∧ (I14a 2775) ≤ 24) ∧ ((I14a 3393) = (I14a 3905) ∧ (I14a 3521) = (I14a 3905) ∧ (I14a 3649) = (I14a 3905) ∧ (I14a 3777) = (I14a 3905) ∧ 0 ≤ (I14a 3905) ∧ (I14a 3905) ≤ 3 * (I14a 2774)) ∧ ((I14a 4161) = (I14a 4033) ∧ 7 ≤ (I14a 4289) ∧ (I14a 4289) ≤ (I14a 4033) ∧ (I14a 4033) ≤ 7 + (I14a 2774)) ∧ 0 ≤ (I14a 5889) ∧ (I14a 5889) ≤ (I14a 2774)) ∧ ((I14a 2754) = (I 2754) ∧ (I 2774) + 1 ≤ (I14a 2774) ∧ (I14a 2775) = (I 2775) ∧ (I14a 4289) = (I 4289) + 0 ∧ (I14a 5889) = (I 5889)) ∧ ((I14a 3905) + 2 ≤ (I 3905) + 3 * ((I14a 2774) - (I 2774)) ∧ (I 3905) ≤ v15 ∧ v15 + 1 = (I14a 3905) ∧ (I 4033) ≤ (I14a 4033) ∧ (I14a 4033) ≤ (I 4033) + ((I14a 2774) - (I 2774))) by (repeat' apply And.intro) <;> first | assumption | omega), (show m_SC I14a A14a by exact sc35), (show m_TR (t_up lo v15 (I 3905) (8 * (24 - (I 2775)) + (0))) I14a A14a by exact tr36), (show m_ST lo I A (t_up lo v15 (I 3905) (8 * (24 - (I 2775)) + (0))) I14a A14a by exact s37), (show t_E ((A14a 53) (v15)) by exact ((m_kd_K k39 (fun k h => by have h : k = 4 := h; unfold t_E; omega))).2), (show m_rt (t_up lo v15 (I 3905) (8 * (24 - (I 2775)) + (0))) (I14a 3905) v15 by exact rt40), (show m_RK (t_up lo v15 (I 3905) (8 * (24 - (I 2775)) + (0))) (I 3905) (I14a 3905) (8 * (24 - (I 2775)) + 0) by exact m_RK_le (show m_RK (t_up lo v15 (I 3905) (8 * (24 - (I 2775)) + (0))) (I 3905) (I14a 3905) (8 * (24 - (I 2775)) + (0)) from rk38) (show (8 * (24 - (I 2775)) + (0)) ≤ 8 * (24 - (I 2775)) + 0 by omega))⟩
    · have h9 : ¬ (¬ (A 45) ((I 2774)) = 4) := h9
      show w_W _ _ _ (36, [(1, .int (Int32.ofInt ((A 45) ((I 2774))))), (0, .ref 43)], [.ref 43], M7) _
      refine w_adv (n := 3) (F' := (42, [(1, .int (Int32.ofInt ((A 45) ((I 2774))))), (0, .ref 43)], [.ref 43, .int (Int32.ofInt (1)), .ref 43], M7)) rfl ?_
      refine w_gf (v := .ref 46) hR8 rfl rfl rfl rfl ?_
      refine w_adv (n := 1) (F' := (46, [(1, .int (Int32.ofInt ((A 45) ((I 2774))))), (0, .ref 43)], [.ref 43, .ref 46, .int (Int32.ofInt (1)), .ref 43], M7)) rfl ?_
      refine w_gf (v := .int (Int32.ofInt ((I 2774) + 1))) hR8 rfl rfl rfl rfl ?_
      refine w_adv (n := 1) (F' := (50, [(1, .int (Int32.ofInt ((A 45) ((I 2774))))), (0, .ref 43)], [.int (Int32.ofInt (1)), .int (Int32.ofInt ((I 2774) + 1)), .ref 46, .int (Int32.ofInt (1)), .ref 43], M7)) rfl ?_
      refine w_sub rfl ?_
      refine w_la (n := 1502) hR8 rfl (Or.inl ⟨rfl, rfl⟩) rfl (show 0 ≤ ((I 2774) + 1) - 1 by omega) (show ((I 2774) + 1) - 1 < (1502 : Int) by omega) (by decide) ?_
      obtain ⟨r41, r42⟩ : -2147483648 ≤ (A 46) (((I 2774) + 1) - 1) ∧ (A 46) (((I 2774) + 1) - 1) ≤ 2147483647 := hR8.ra 46 (((I 2774) + 1) - 1)
      show w_W _ _ _ (52, [(1, .int (Int32.ofInt ((A 45) ((I 2774))))), (0, .ref 43)], [.int (Int32.ofInt ((A 46) (((I 2774) + 1) - 1))), .int (Int32.ofInt (1)), .ref 43], M7) _
      refine w_adv (n := 2) (F' := (54, [(1, .int (Int32.ofInt ((A 45) ((I 2774))))), (0, .ref 43)], [.int (Int32.ofInt (0)), .int (Int32.ofInt (0)), .int (Int32.ofInt ((A 46) (((I 2774) + 1) - 1))), .int (Int32.ofInt (1)), .ref 43], M7)) rfl ?_
      refine w_call (cm := 239) (as := [(0, .ref 43), (1, .int (Int32.ofInt (1))), (2, .int (Int32.ofInt ((A 46) (((I 2774) + 1) - 1)))), (3, .int (Int32.ofInt (0))), (4, .int (Int32.ofInt (0)))]) (rest := []) (o := some (9, 43)) rfl (w_fitR hR8 rfl) (m_node (1) ((A 46) (((I 2774) + 1) - 1)) (0) (0) hR8 (show 2 ≤ d by omega) ⟨by omega, by omega⟩ ⟨by omega, by omega⟩ ⟨by omega, by omega⟩ ⟨by omega, by omega⟩ (show (I 3393) = (I 3905) by first | assumption | omega) (show (I 3521) = (I 3905) by first | assumption | omega) (show (I 3649) = (I 3905) by first | assumption | omega) (show (I 3777) = (I 3905) by first | assumption | omega) (show (I 3905) < 65536 by first | assumption | omega)) (fun r43 M44 q45 => ?_)
      rcases q45 with ⟨v46, I45a, A45a, B45a, C45a, e47, ⟨r48, r49⟩, hR45a, f50, f51⟩
      rw [e47]
      replace hR45a : w_Rep w_TM fr X u l I45a A45a B45a C45a M44 := hR45a
      replace f50 : m_fx (w_up I 2774 ((I 2774) + 1)) A I45a A45a := f50
      replace f51 : m_nd (w_up I 2774 ((I 2774) + 1)) A I45a A45a v46 1 ((A 46) (((I 2774) + 1) - 1)) 0 0 := f51
      obtain ⟨⟨n52, n53, n54, n55, n56, n57⟩, ⟨n58, n59, n60, n61, n62, n63, n64⟩⟩ : (v46 = (I 3905) ∧ (I45a 3905) = (I 3905) + 1 ∧ (I45a 3393) = (I 3393) + 1 ∧ (I45a 3521) = (I 3521) + 1 ∧ (I45a 3649) = (I 3649) + 1 ∧ (I45a 3777) = (I 3777) + 1) ∧ ((I45a 2774) = (I 2774) + 1 ∧ (I45a 2754) = (I 2754) ∧ (I45a 2775) = (I 2775) ∧ (I45a 4289) = (I 4289) ∧ (I45a 4033) = (I 4033) ∧ (I45a 4161) = (I 4161) ∧ (I45a 5889) = (I 5889)) := m_nd_num f51
      have tk65 : m_TK I45a A45a := m_TK_fx f50 hTK
      have sc66 : m_SC I45a A45a := m_SC_nd f51 hSC
      have tr67 : m_TR (t_up lo v46 (I 3905) (8 * (24 - (I 2775)) + (0))) I45a A45a := m_TR_nd (show m_TR lo (w_up I 2774 ((I 2774) + 1)) A from hTR) f51 (show 0 ≤ (I 3905) by omega) (show (I 3905) ≤ v46 by omega) (m_cl_ST (I1 := I) (show m_ST lo I A lo (w_up I 2774 ((I 2774) + 1)) A from m_ST_refl) (show m_TR lo I A from hTR) (show 0 ≤ (I 3905) by omega)) (t_N_mk1 t_up_same (show 0 ≤ (I 3905) by omega) (show (I 3905) ≤ v46 by omega) (show 0 ≤ (8 * (24 - (I 2775)) + (0)) by omega) (fun q q1 q2 => by omega))
      have s68 : m_ST lo I A (t_up lo v46 (I 3905) (8 * (24 - (I 2775)) + (0))) I45a A45a := m_ST_nd (l := (I 3905)) (show m_ST lo I A lo (w_up I 2774 ((I 2774) + 1)) A from m_ST_refl) f51 (show (I 3905) ≤ (I 3905) by omega) (show (I 3905) ≤ (I 3905) by omega)
      have rk69 : m_RK (t_up lo v46 (I 3905) (8 * (24 - (I 2775)) + (0))) (I 3905) (I45a 3905) (8 * (24 - (I 2775)) + (0)) := fun q q1 q2 => by rw [show q = v46 by omega, t_up_same]; exact Int.le_refl _
      have k70 : m_kd (t_up lo v46 (I 3905) (8 * (24 - (I 2775)) + (0))) I45a A45a (I 3905) (8 * (24 - (I 2775)) + (0)) v46 (fun k => k = 1) := m_kd_new f51 (show 0 ≤ (I 3905) by omega) (show (I 3905) ≤ v46 by omega) rfl
      have rt71 : m_rt (t_up lo v46 (I 3905) (8 * (24 - (I 2775)) + (0))) (I45a 3905) v46 := m_rt_new f51
      show w_W _ _ _ (57, [(1, .int (Int32.ofInt ((A 45) ((I 2774))))), (0, .ref 43)], [.int (Int32.ofInt (v46))], M44) _
      refine w_fin (r := .inl (some (v46))) (M' := M44) rfl ?_
      exact Or.inl ⟨v46, (t_up lo v46 (I 3905) (8 * (24 - (I 2775)) + (0))), I45a, A45a, B45a, C45a, rfl, ⟨by omega, by omega⟩, hR45a, (show m_fx I A I45a A45a by exact f50), (show ((0 ≤ (I45a 2774) ∧ (I45a 2774) < (I45a 2754) ∧ (I45a 2754) ≤ 1501 ∧ 0 ≤ (I45a 2775) ∧ (I45a 2775) ≤ 24) ∧ ((I45a 3393) = (I45a 3905) ∧ (I45a 3521) = (I45a 3905) ∧ (I45a 3649) = (I45a 3905) ∧ (I45a 3777) = (I45a 3905) ∧ 0 ≤ (I45a 3905) ∧ (I45a 3905) ≤ 3 * (I45a 2774)) ∧ ((I45a 4161) = (I45a 4033) ∧ 7 ≤ (I45a 4289) ∧ (I45a 4289) ≤ (I45a 4033) ∧ (I45a 4033) ≤ 7 + (I45a 2774)) ∧ 0 ≤ (I45a 5889) ∧ (I45a 5889) ≤ (I45a 2774)) ∧ ((I45a 2754) = (I 2754) ∧ (I 2774) + 1 ≤ (I45a 2774) ∧ (I45a 2775) = (I 2775) ∧ (I45a 4289) = (I 4289) + 0 ∧ (I45a 5889) = (I 5889)) ∧ ((I45a 3905) + 2 ≤ (I 3905) + 3 * ((I45a 2774) - (I 2774)) ∧ (I 3905) ≤ v46 ∧ v46 + 1 = (I45a 3905) ∧ (I 4033) ≤ (I45a 4033) ∧ (I45a 4033) ≤ (I 4033) + ((I45a 2774) - (I 2774))) by (repeat' apply And.intro) <;> first | assumption | omega), (show m_SC I45a A45a by exact sc66), (show m_TR (t_up lo v46 (I 3905) (8 * (24 - (I 2775)) + (0))) I45a A45a by exact tr67), (show m_ST lo I A (t_up lo v46 (I 3905) (8 * (24 - (I 2775)) + (0))) I45a A45a by exact s68), (show t_E ((A45a 53) (v46)) by exact ((m_kd_K k70 (fun k h => by have h : k = 1 := h; unfold t_E; omega))).2), (show m_rt (t_up lo v46 (I 3905) (8 * (24 - (I 2775)) + (0))) (I45a 3905) v46 by exact rt71), (show m_RK (t_up lo v46 (I 3905) (8 * (24 - (I 2775)) + (0))) (I 3905) (I45a 3905) (8 * (24 - (I 2775)) + 0) by exact m_RK_le (show m_RK (t_up lo v46 (I 3905) (8 * (24 - (I 2775)) + (0))) (I 3905) (I45a 3905) (8 * (24 - (I 2775)) + (0)) from rk69) (show (8 * (24 - (I 2775)) + (0)) ≤ 8 * (24 - (I 2775)) + 0 by omega))⟩
  · have h5 : ¬ ((A 45) ((I 2774)) = 4) := h5
    show w_W _ _ _ (15, [(1, .int (Int32.ofInt ((A 45) ((I 2774))))), (0, .ref 43)], [], M) _
    refine w_adv (n := 2) (F' := (17, [(1, .int (Int32.ofInt ((A 45) ((I 2774))))), (0, .ref 43)], [.int (Int32.ofInt (3)), .int (Int32.ofInt ((A 45) ((I 2774))))], M)) rfl ?_
    refine w_br2 (a := (A 45) ((I 2774))) (b := 3) rfl rfl ⟨by omega, by omega⟩ ⟨by omega, by omega⟩ (fun h72 => ?_) (fun h72 => ?_)
    · have h72 : ¬ (A 45) ((I 2774)) = 3 := h72
      show w_W _ _ _ (58, [(1, .int (Int32.ofInt ((A 45) ((I 2774))))), (0, .ref 43)], [], M) _
      refine w_adv (n := 2) (F' := (60, [(1, .int (Int32.ofInt ((A 45) ((I 2774))))), (0, .ref 43)], [.int (Int32.ofInt (1)), .int (Int32.ofInt ((A 45) ((I 2774))))], M)) rfl ?_
      refine w_br2 (a := (A 45) ((I 2774))) (b := 1) rfl rfl ⟨by omega, by omega⟩ ⟨by omega, by omega⟩ (fun h73 => ?_) (fun h73 => ?_)
      · have h73 : ¬ (A 45) ((I 2774)) = 1 := h73
        show w_W _ _ _ (68, [(1, .int (Int32.ofInt ((A 45) ((I 2774))))), (0, .ref 43)], [], M) _
        refine w_adv (n := 2) (F' := (70, [(1, .int (Int32.ofInt ((A 45) ((I 2774))))), (0, .ref 43)], [.int (Int32.ofInt (2)), .int (Int32.ofInt ((A 45) ((I 2774))))], M)) rfl ?_
        refine w_br2 (a := (A 45) ((I 2774))) (b := 2) rfl rfl ⟨by omega, by omega⟩ ⟨by omega, by omega⟩ (fun h74 => ?_) (fun h74 => ?_)
        · have h74 : ¬ (A 45) ((I 2774)) = 2 := h74
          show w_W _ _ _ (97, [(1, .int (Int32.ofInt ((A 45) ((I 2774))))), (0, .ref 43)], [], M) _
          refine w_adv (n := 2) (F' := (100, [(1, .int (Int32.ofInt ((A 45) ((I 2774))))), (0, .ref 43)], [.int (Int32.ofInt (91)), .ref 43], M)) rfl ?_
          refine w_call (cm := 230) (as := [(0, .ref 43), (1, .int (Int32.ofInt (91)))]) (rest := []) (o := some (9, 43)) rfl (w_fitR hR rfl) (m_isSign (91) hR ⟨by omega, by omega⟩ (show 0 ≤ (I 2774) ∧ (I 2774) < 1501 by omega)) (fun r75 M76 q77 => ?_)
          rcases q77 with ⟨e78, e79, f80⟩ | ⟨e81, e82, f83⟩
          · rw [e78, e79]
            replace f80 : (A 45) ((I 2774)) = 6 ∧ (A 46) ((I 2774)) = 91 := f80
            obtain ⟨n84, n85⟩ := id f80
            clear f80
            have w86 : (I 2774) + 1 < (I 2754) := m_TK_lt hTK (show (I 2774) < (I 2754) by omega) (show 1 ≤ (A 45) ((I 2774)) by omega) (show (A 45) ((I 2774)) ≤ 6 by omega)
            show w_W _ _ _ (103, [(1, .int (Int32.ofInt ((A 45) ((I 2774))))), (0, .ref 43)], [.int (Int32.ofInt (1))], M) _
            refine w_adv (n := 2) (F' := (107, [(1, .int (Int32.ofInt ((A 45) ((I 2774))))), (0, .ref 43)], [.ref 43], M)) rfl ?_
            refine w_call (cm := 235) (as := [(0, .ref 43)]) (rest := []) (o := some (9, 43)) rfl (w_fitR hR rfl) (m_enter hR (show 2 ≤ d by omega) (show 0 ≤ (I 2774) ∧ (I 2774) < 1501 by omega) (show 0 ≤ (I 2775) ∧ (I 2775) ≤ 24 by first | assumption | omega)) (fun r87 M88 q89 => ?_)
            rcases q89 with ⟨e90, hR89a, f91⟩ | ⟨I89b, A89b, B89b, C89b, e92, hR89b, f93⟩
            · rw [e90]
              replace hR89a : w_Rep w_TM fr X u l (w_up (w_up I 2775 ((I 2775) + 1)) 2774 ((I 2774) + 1)) A B C M88 := hR89a
              replace f91 : (I 2775) < 24 := f91
              have w94 : (I 2774) + 1 < (I 2754) := m_TK_lt hTK (show (I 2774) < (I 2754) by omega) (show 1 ≤ (A 45) ((I 2774)) by omega) (show (A 45) ((I 2774)) ≤ 6 by omega)
              show w_W _ _ _ (110, [(1, .int (Int32.ofInt ((A 45) ((I 2774))))), (0, .ref 43)], [], M88) _
              refine w_adv (n := 4) (F' := (115, [(1, .int (Int32.ofInt ((A 45) ((I 2774))))), (0, .ref 43)], [.int (Int32.ofInt (0)), .ref 43, .int (Int32.ofInt (8)), .ref 43], M88)) rfl ?_
              refine w_call (cm := 265) (as := [(0, .ref 43), (1, .int (Int32.ofInt (0)))]) (rest := [.int (Int32.ofInt (8)), .ref 43]) (o := some (9, 43)) rfl (w_fitR hR89a rfl) (m_elements hA (0) (lo) hR89a (show 20 * (24 - ((I 2775) + 1)) + 22 ≤ (d : Int) by omega) ⟨by omega, by omega⟩ (show m_TK (w_up (w_up I 2775 ((I 2775) + 1)) 2774 ((I 2774) + 1)) A by exact hTK) (show (0 ≤ (I 2774) + 1 ∧ (I 2774) + 1 < (I 2754) ∧ (I 2754) ≤ 1501 ∧ 0 ≤ (I 2775) + 1 ∧ (I 2775) + 1 ≤ 24) ∧ ((I 3393) = (I 3905) ∧ (I 3521) = (I 3905) ∧ (I 3649) = (I 3905) ∧ (I 3777) = (I 3905) ∧ 0 ≤ (I 3905) ∧ (I 3905) ≤ 3 * ((I 2774) + 1)) ∧ ((I 4161) = (I 4033) ∧ 7 ≤ (I 4289) ∧ (I 4289) ≤ (I 4033) ∧ (I 4033) ≤ 7 + ((I 2774) + 1)) ∧ 0 ≤ (I 5889) ∧ (I 5889) ≤ (I 2774) + 1 by (repeat' apply And.intro) <;> first | assumption | omega) (show m_SC (w_up (w_up I 2775 ((I 2775) + 1)) 2774 ((I 2774) + 1)) A by exact hSC) (show m_TR lo (w_up (w_up I 2775 ((I 2775) + 1)) 2774 ((I 2774) + 1)) A by exact hTR) (show (I 2754) - ((I 2774) + 1) < N by first | assumption | omega)) (fun r95 M96 q97 => ?_)
              rcases q97 with ⟨v98, lo99, I97a, A97a, B97a, C97a, e100, ⟨r101, r102⟩, hR97a, f103, f104, f105, f106, f107, f108, f109, f110⟩ | ⟨I97b, A97b, B97b, C97b, e111, hR97b, f112⟩
              · rw [e100]
                replace hR97a : w_Rep w_TM fr X u l I97a A97a B97a C97a M96 := hR97a
                replace f103 : m_fx (w_up (w_up I 2775 ((I 2775) + 1)) 2774 ((I 2774) + 1)) A I97a A97a := f103
                replace f104 : ((0 ≤ (I97a 2774) ∧ (I97a 2774) < (I97a 2754) ∧ (I97a 2754) ≤ 1501 ∧ 0 ≤ (I97a 2775) ∧ (I97a 2775) ≤ 24) ∧ ((I97a 3393) = (I97a 3905) ∧ (I97a 3521) = (I97a 3905) ∧ (I97a 3649) = (I97a 3905) ∧ (I97a 3777) = (I97a 3905) ∧ 0 ≤ (I97a 3905) ∧ (I97a 3905) ≤ 3 * (I97a 2774)) ∧ ((I97a 4161) = (I97a 4033) ∧ 7 ≤ (I97a 4289) ∧ (I97a 4289) ≤ (I97a 4033) ∧ (I97a 4033) ≤ 7 + (I97a 2774)) ∧ 0 ≤ (I97a 5889) ∧ (I97a 5889) ≤ (I97a 2774)) ∧ ((I97a 2754) = (I 2754) ∧ ((I 2774) + 1) + 0 ≤ (I97a 2774) ∧ (I97a 2775) = (I 2775) + 1 ∧ (I97a 4289) = (I 4289) + 0 ∧ (I97a 5889) = (I 5889)) ∧ ((I97a 3905) + 0 ≤ (I 3905) + 3 * ((I97a 2774) - ((I 2774) + 1)) ∧ (I 3905) ≤ (I97a 3905) ∧ -1 ≤ v98 ∧ v98 < (I97a 3905) ∧ (I 4033) ≤ (I97a 4033) ∧ (I97a 4033) ≤ (I 4033) + ((I97a 2774) - ((I 2774) + 1))) := f104
                obtain ⟨⟨⟨n113, n114, n115, n116, n117⟩, ⟨n118, n119, n120, n121, n122, n123⟩, ⟨n124, n125, n126, n127⟩, n128, n129⟩, ⟨n130, n131, n132, n133, n134⟩, ⟨n135, n136, n137, n138, n139, n140⟩⟩ := id f104
                clear f104
                replace f105 : m_SC I97a A97a := f105
                replace f106 : m_TR lo99 I97a A97a := f106
                replace f107 : m_ST lo (w_up (w_up I 2775 ((I 2775) + 1)) 2774 ((I 2774) + 1)) A lo99 I97a A97a := f107
                replace f108 : v98 = -1 ∨ m_kd lo99 I97a A97a (I 3905) (8 * (24 - ((I 2775) + 1)) + 6) v98 (fun k => k = 29) := f108
                replace f109 : v98 = -1 ∨ m_rt lo99 (I97a 3905) v98 := f109
                replace f110 : m_RK lo99 (I 3905) (I97a 3905) (8 * (24 - ((I 2775) + 1)) + 6) := f110
                have tk141 : m_TK I97a A97a := m_TK_fx f103 hTK
                have nn142 : (I 3905) ≤ (I97a 3905) := by omega
                have nz143 : 0 ≤ (I 3905) := by first | assumption | omega
                have ho144 : (I 2775) + 1 = (I 2775) + (1) := by omega
                have rk146 : m_RK lo99 (I 3905) (I97a 3905) (8 * (24 - (I 2775)) + (-2)) := m_RK_app (I := (w_up (w_up I 2775 ((I 2775) + 1)) 2774 ((I 2774) + 1))) (I' := I97a) (R := (8 * (24 - (I 2775)) + (-2))) (show m_RK lo (I 3905) (I 3905) (8 * (24 - (I 2775)) + (-2)) from fun q q1 q2 => by omega) f107 f110 (show 0 ≤ (I 3905) by first | assumption | omega) (m_r8 (by decide)) (m_r8o (k := 1) ho144 (by decide))
                have s145 : m_ST lo I A lo99 I97a A97a := f107
                show w_W _ _ _ (118, [(1, .int (Int32.ofInt ((A 45) ((I 2774))))), (0, .ref 43)], [.int (Int32.ofInt (v98)), .int (Int32.ofInt (8)), .ref 43], M96) _
                refine w_adv (n := 2) (F' := (120, [(1, .int (Int32.ofInt ((A 45) ((I 2774))))), (0, .ref 43)], [.int (Int32.ofInt (0)), .int (Int32.ofInt (0)), .int (Int32.ofInt (v98)), .int (Int32.ofInt (8)), .ref 43], M96)) rfl ?_
                refine w_call (cm := 239) (as := [(0, .ref 43), (1, .int (Int32.ofInt (8))), (2, .int (Int32.ofInt (v98))), (3, .int (Int32.ofInt (0))), (4, .int (Int32.ofInt (0)))]) (rest := []) (o := some (9, 43)) rfl (w_fitR hR97a rfl) (m_node (8) (v98) (0) (0) hR97a (show 2 ≤ d by omega) ⟨by omega, by omega⟩ ⟨by omega, by omega⟩ ⟨by omega, by omega⟩ ⟨by omega, by omega⟩ (show (I97a 3393) = (I97a 3905) by first | assumption | omega) (show (I97a 3521) = (I97a 3905) by first | assumption | omega) (show (I97a 3649) = (I97a 3905) by first | assumption | omega) (show (I97a 3777) = (I97a 3905) by first | assumption | omega) (show (I97a 3905) < 65536 by first | assumption | omega)) (fun r147 M148 q149 => ?_)
                rcases q149 with ⟨v150, I149a, A149a, B149a, C149a, e151, ⟨r152, r153⟩, hR149a, f154, f155⟩
                rw [e151]
                replace hR149a : w_Rep w_TM fr X u l I149a A149a B149a C149a M148 := hR149a
                replace f154 : m_fx I97a A97a I149a A149a := f154
                replace f155 : m_nd I97a A97a I149a A149a v150 8 v98 0 0 := f155
                obtain ⟨⟨n156, n157, n158, n159, n160, n161⟩, ⟨n162, n163, n164, n165, n166, n167, n168⟩⟩ : (v150 = (I97a 3905) ∧ (I149a 3905) = (I97a 3905) + 1 ∧ (I149a 3393) = (I97a 3393) + 1 ∧ (I149a 3521) = (I97a 3521) + 1 ∧ (I149a 3649) = (I97a 3649) + 1 ∧ (I149a 3777) = (I97a 3777) + 1) ∧ ((I149a 2774) = (I97a 2774) ∧ (I149a 2754) = (I97a 2754) ∧ (I149a 2775) = (I97a 2775) ∧ (I149a 4289) = (I97a 4289) ∧ (I149a 4033) = (I97a 4033) ∧ (I149a 4161) = (I97a 4161) ∧ (I149a 5889) = (I97a 5889)) := m_nd_num f155
                have tk169 : m_TK I149a A149a := m_TK_fx f154 tk141
                have sc170 : m_SC I149a A149a := m_SC_nd f155 f105
                have tr171 : m_TR (t_up lo99 v150 (I 3905) (8 * (24 - (I 2775)) + (-1))) I149a A149a := m_TR_nd (show m_TR lo99 I97a A97a from f106) f155 (show 0 ≤ (I 3905) by omega) (show (I 3905) ≤ v150 by omega) (m_cl_ST (I1 := I) (show m_ST lo I A lo99 I97a A97a from s145) (show m_TR lo I A from hTR) (show 0 ≤ (I 3905) by omega)) (t_N_mk8 t_up_same (show 0 ≤ (I 3905) by omega) (show (I 3905) ≤ v150 by omega) (show 0 ≤ (8 * (24 - (I 2775)) + (-1)) by omega) (m_hw (show m_RK lo99 (I 3905) v150 (8 * (24 - (I 2775)) + (-2)) from fun q q1 q2 => (show m_RK lo99 (I 3905) (I97a 3905) (8 * (24 - (I 2775)) + (-2)) from rk146) q (show (I 3905) ≤ q by omega) (show q < (I97a 3905) by omega)) (m_r8l (by decide))) ((show v98 = -1 ∨ m_kd lo99 I97a A97a (I 3905) (8 * (24 - ((I 2775) + 1)) + 6) v98 (fun k => k = 29) from f108).imp_right (fun q => m_ch f155 (show (I 3905) ≤ (I 3905) by omega) q)))
                have s172 : m_ST lo I A (t_up lo99 v150 (I 3905) (8 * (24 - (I 2775)) + (-1))) I149a A149a := m_ST_nd (l := (I 3905)) (show m_ST lo I A lo99 I97a A97a from s145) f155 (show (I 3905) ≤ (I 3905) by omega) (show (I 3905) ≤ (I97a 3905) by omega)
                have rk173 : m_RK (t_up lo99 v150 (I 3905) (8 * (24 - (I 2775)) + (-1))) (I 3905) (I149a 3905) (8 * (24 - (I 2775)) + (-1)) := fun q q1 q2 => m_RK_nd (show m_RK lo99 (I 3905) v150 (8 * (24 - (I 2775)) + (-2)) from fun q q1 q2 => (show m_RK lo99 (I 3905) (I97a 3905) (8 * (24 - (I 2775)) + (-2)) from rk146) q q1 (show q < (I97a 3905) by omega)) (m_r8 (by decide)) (m_r8 (by decide)) q q1 (show q < v150 + 1 by omega)
                have k174 : m_kd (t_up lo99 v150 (I 3905) (8 * (24 - (I 2775)) + (-1))) I149a A149a (I 3905) (8 * (24 - (I 2775)) + (-1)) v150 (fun k => k = 8) := m_kd_new f155 (show 0 ≤ (I 3905) by omega) (show (I 3905) ≤ v150 by omega) rfl
                have rt175 : m_rt (t_up lo99 v150 (I 3905) (8 * (24 - (I 2775)) + (-1))) (I149a 3905) v150 := m_rt_new f155
                show w_W _ _ _ (123, [(1, .int (Int32.ofInt ((A 45) ((I 2774))))), (0, .ref 43)], [.int (Int32.ofInt (v150))], M148) _
                refine w_adv (n := 3) (F' := (127, [(2, .int (Int32.ofInt (v150))), (1, .int (Int32.ofInt ((A 45) ((I 2774))))), (0, .ref 43)], [.int (Int32.ofInt (93)), .ref 43], M148)) rfl ?_
                refine w_call (cm := 264) (as := [(0, .ref 43), (1, .int (Int32.ofInt (93)))]) (rest := []) (o := some (9, 43)) rfl (w_fitR hR149a rfl) (m_closeSign (93) hR149a (show 3 ≤ d by omega) ⟨by omega, by omega⟩ (show 0 ≤ (I149a 2774) ∧ (I149a 2774) < 1501 by omega) (show 1 ≤ (I149a 2775) ∧ (I149a 2775) ≤ 24 by first | assumption | omega)) (fun r176 M177 q178 => ?_)
                rcases q178 with ⟨e179, hR178a, f180⟩ | ⟨I178b, A178b, B178b, C178b, e181, hR178b, f182⟩
                · rw [e179]
                  replace hR178a : w_Rep w_TM fr X u l (w_up (w_up I149a 2774 ((I149a 2774) + 1)) 2775 ((I149a 2775) - 1)) A149a B149a C149a M177 := hR178a
                  replace f180 : (A149a 45) ((I149a 2774)) = 6 ∧ (A149a 46) ((I149a 2774)) = 93 := f180
                  obtain ⟨n183, n184⟩ := id f180
                  clear f180
                  have w185 : (I149a 2774) + 1 < (I149a 2754) := m_TK_lt tk169 (show (I149a 2774) < (I149a 2754) by omega) (show 1 ≤ (A149a 45) ((I149a 2774)) by omega) (show (A149a 45) ((I149a 2774)) ≤ 6 by omega)
                  show w_W _ _ _ (130, [(2, .int (Int32.ofInt (v150))), (1, .int (Int32.ofInt ((A 45) ((I 2774))))), (0, .ref 43)], [], M177) _
                  refine w_adv (n := 1) (F' := (131, [(2, .int (Int32.ofInt (v150))), (1, .int (Int32.ofInt ((A 45) ((I 2774))))), (0, .ref 43)], [.int (Int32.ofInt (v150))], M177)) rfl ?_
                  refine w_fin (r := .inl (some (v150))) (M' := M177) rfl ?_
                  exact Or.inl ⟨v150, (t_up lo99 v150 (I 3905) (8 * (24 - (I 2775)) + (-1))), (w_up (w_up I149a 2774 ((I149a 2774) + 1)) 2775 ((I149a 2775) - 1)), A149a, B149a, C149a, rfl, ⟨by omega, by omega⟩, hR178a, (show m_fx I A (w_up (w_up I149a 2774 ((I149a 2774) + 1)) 2775 ((I149a 2775) - 1)) A149a by exact (m_fx_trans f103 f154)), (show ((0 ≤ (I149a 2774) + 1 ∧ (I149a 2774) + 1 < (I149a 2754) ∧ (I149a 2754) ≤ 1501 ∧ 0 ≤ (I149a 2775) - 1 ∧ (I149a 2775) - 1 ≤ 24) ∧ ((I149a 3393) = (I149a 3905) ∧ (I149a 3521) = (I149a 3905) ∧ (I149a 3649) = (I149a 3905) ∧ (I149a 3777) = (I149a 3905) ∧ 0 ≤ (I149a 3905) ∧ (I149a 3905) ≤ 3 * ((I149a 2774) + 1)) ∧ ((I149a 4161) = (I149a 4033) ∧ 7 ≤ (I149a 4289) ∧ (I149a 4289) ≤ (I149a 4033) ∧ (I149a 4033) ≤ 7 + ((I149a 2774) + 1)) ∧ 0 ≤ (I149a 5889) ∧ (I149a 5889) ≤ (I149a 2774) + 1) ∧ ((I149a 2754) = (I 2754) ∧ (I 2774) + 1 ≤ (I149a 2774) + 1 ∧ (I149a 2775) - 1 = (I 2775) ∧ (I149a 4289) = (I 4289) + 0 ∧ (I149a 5889) = (I 5889)) ∧ ((I149a 3905) + 2 ≤ (I 3905) + 3 * (((I149a 2774) + 1) - (I 2774)) ∧ (I 3905) ≤ v150 ∧ v150 + 1 = (I149a 3905) ∧ (I 4033) ≤ (I149a 4033) ∧ (I149a 4033) ≤ (I 4033) + (((I149a 2774) + 1) - (I 2774))) by (repeat' apply And.intro) <;> first | assumption | omega), (show m_SC (w_up (w_up I149a 2774 ((I149a 2774) + 1)) 2775 ((I149a 2775) - 1)) A149a by exact sc170), (show m_TR (t_up lo99 v150 (I 3905) (8 * (24 - (I 2775)) + (-1))) (w_up (w_up I149a 2774 ((I149a 2774) + 1)) 2775 ((I149a 2775) - 1)) A149a by exact tr171), (show m_ST lo I A (t_up lo99 v150 (I 3905) (8 * (24 - (I 2775)) + (-1))) (w_up (w_up I149a 2774 ((I149a 2774) + 1)) 2775 ((I149a 2775) - 1)) A149a by exact s172), (show t_E ((A149a 53) (v150)) by exact ((m_kd_K k174 (fun k h => by have h : k = 8 := h; unfold t_E; omega))).2), (show m_rt (t_up lo99 v150 (I 3905) (8 * (24 - (I 2775)) + (-1))) (I149a 3905) v150 by exact rt175), (show m_RK (t_up lo99 v150 (I 3905) (8 * (24 - (I 2775)) + (-1))) (I 3905) (I149a 3905) (8 * (24 - (I 2775)) + 0) by exact m_RK_le (show m_RK (t_up lo99 v150 (I 3905) (8 * (24 - (I 2775)) + (-1))) (I 3905) (I149a 3905) (8 * (24 - (I 2775)) + (-1)) from rk173) (show (8 * (24 - (I 2775)) + (-1)) ≤ 8 * (24 - (I 2775)) + 0 by omega))⟩
                · rw [e181]
                  replace hR178b : w_Rep w_TM fr X u l I178b A178b B178b C178b M177 := hR178b
                  replace f182 : m_fx I149a A149a I178b A178b := f182
                  exact Or.inr (⟨I178b, A178b, B178b, C178b, rfl, hR178b, (show m_fx I A I178b A178b by exact (m_fx_trans (m_fx_trans f103 f154) f182))⟩)
              · rw [e111]
                replace hR97b : w_Rep w_TM fr X u l I97b A97b B97b C97b M96 := hR97b
                replace f112 : m_fx (w_up (w_up I 2775 ((I 2775) + 1)) 2774 ((I 2774) + 1)) A I97b A97b := f112
                exact Or.inr (⟨I97b, A97b, B97b, C97b, rfl, hR97b, (show m_fx I A I97b A97b by exact f112)⟩)
            · rw [e92]
              replace hR89b : w_Rep w_TM fr X u l I89b A89b B89b C89b M88 := hR89b
              replace f93 : m_fx I A I89b A89b := f93
              exact Or.inr (⟨I89b, A89b, B89b, C89b, rfl, hR89b, (show m_fx I A I89b A89b by exact f93)⟩)
          · rw [e81, e82]
            replace f83 : ¬ ((A 45) ((I 2774)) = 6 ∧ (A 46) ((I 2774)) = 91) := f83
            show w_W _ _ _ (103, [(1, .int (Int32.ofInt ((A 45) ((I 2774))))), (0, .ref 43)], [.int (Int32.ofInt (0))], M) _
            refine w_adv (n := 3) (F' := (135, [(1, .int (Int32.ofInt ((A 45) ((I 2774))))), (0, .ref 43)], [.int (Int32.ofInt (40)), .ref 43], M)) rfl ?_
            refine w_call (cm := 230) (as := [(0, .ref 43), (1, .int (Int32.ofInt (40)))]) (rest := []) (o := some (9, 43)) rfl (w_fitR hR rfl) (m_isSign (40) hR ⟨by omega, by omega⟩ (show 0 ≤ (I 2774) ∧ (I 2774) < 1501 by omega)) (fun r186 M187 q188 => ?_)
            rcases q188 with ⟨e189, e190, f191⟩ | ⟨e192, e193, f194⟩
            · rw [e189, e190]
              replace f191 : (A 45) ((I 2774)) = 6 ∧ (A 46) ((I 2774)) = 40 := f191
              obtain ⟨n195, n196⟩ := id f191
              clear f191
              have w197 : (I 2774) + 1 < (I 2754) := m_TK_lt hTK (show (I 2774) < (I 2754) by omega) (show 1 ≤ (A 45) ((I 2774)) by omega) (show (A 45) ((I 2774)) ≤ 6 by omega)
              show w_W _ _ _ (138, [(1, .int (Int32.ofInt ((A 45) ((I 2774))))), (0, .ref 43)], [.int (Int32.ofInt (1))], M) _
              refine w_adv (n := 2) (F' := (142, [(1, .int (Int32.ofInt ((A 45) ((I 2774))))), (0, .ref 43)], [.ref 43], M)) rfl ?_
              refine w_call (cm := 235) (as := [(0, .ref 43)]) (rest := []) (o := some (9, 43)) rfl (w_fitR hR rfl) (m_enter hR (show 2 ≤ d by omega) (show 0 ≤ (I 2774) ∧ (I 2774) < 1501 by omega) (show 0 ≤ (I 2775) ∧ (I 2775) ≤ 24 by first | assumption | omega)) (fun r198 M199 q200 => ?_)
              rcases q200 with ⟨e201, hR200a, f202⟩ | ⟨I200b, A200b, B200b, C200b, e203, hR200b, f204⟩
              · rw [e201]
                replace hR200a : w_Rep w_TM fr X u l (w_up (w_up I 2775 ((I 2775) + 1)) 2774 ((I 2774) + 1)) A B C M199 := hR200a
                replace f202 : (I 2775) < 24 := f202
                have w205 : (I 2774) + 1 < (I 2754) := m_TK_lt hTK (show (I 2774) < (I 2754) by omega) (show 1 ≤ (A 45) ((I 2774)) by omega) (show (A 45) ((I 2774)) ≤ 6 by omega)
                show w_W _ _ _ (145, [(1, .int (Int32.ofInt ((A 45) ((I 2774))))), (0, .ref 43)], [], M199) _
                refine w_adv (n := 1) (F' := (146, [(1, .int (Int32.ofInt ((A 45) ((I 2774))))), (0, .ref 43)], [.ref 43], M199)) rfl ?_
                refine w_call (cm := 245) (as := [(0, .ref 43)]) (rest := []) (o := some (9, 43)) rfl (w_fitR hR200a rfl) (hA.1 (lo) hR200a (show 20 * (24 - ((I 2775) + 1)) + 17 ≤ (d : Int) by omega) (show m_TK (w_up (w_up I 2775 ((I 2775) + 1)) 2774 ((I 2774) + 1)) A by exact hTK) (show (0 ≤ (I 2774) + 1 ∧ (I 2774) + 1 < (I 2754) ∧ (I 2754) ≤ 1501 ∧ 0 ≤ (I 2775) + 1 ∧ (I 2775) + 1 ≤ 24) ∧ ((I 3393) = (I 3905) ∧ (I 3521) = (I 3905) ∧ (I 3649) = (I 3905) ∧ (I 3777) = (I 3905) ∧ 0 ≤ (I 3905) ∧ (I 3905) ≤ 3 * ((I 2774) + 1)) ∧ ((I 4161) = (I 4033) ∧ 7 ≤ (I 4289) ∧ (I 4289) ≤ (I 4033) ∧ (I 4033) ≤ 7 + ((I 2774) + 1)) ∧ 0 ≤ (I 5889) ∧ (I 5889) ≤ (I 2774) + 1 by (repeat' apply And.intro) <;> first | assumption | omega) (show m_SC (w_up (w_up I 2775 ((I 2775) + 1)) 2774 ((I 2774) + 1)) A by exact hSC) (show m_TR lo (w_up (w_up I 2775 ((I 2775) + 1)) 2774 ((I 2774) + 1)) A by exact hTR) (show (I 2754) - ((I 2774) + 1) < N by first | assumption | omega)) (fun r206 M207 q208 => ?_)
                rcases q208 with ⟨v209, lo210, I208a, A208a, B208a, C208a, e211, ⟨r212, r213⟩, hR208a, f214, f215, f216, f217, f218, f219, f220, f221⟩ | ⟨I208b, A208b, B208b, C208b, e222, hR208b, f223⟩
                · rw [e211]
                  replace hR208a : w_Rep w_TM fr X u l I208a A208a B208a C208a M207 := hR208a
                  replace f214 : m_fx (w_up (w_up I 2775 ((I 2775) + 1)) 2774 ((I 2774) + 1)) A I208a A208a := f214
                  replace f215 : ((0 ≤ (I208a 2774) ∧ (I208a 2774) < (I208a 2754) ∧ (I208a 2754) ≤ 1501 ∧ 0 ≤ (I208a 2775) ∧ (I208a 2775) ≤ 24) ∧ ((I208a 3393) = (I208a 3905) ∧ (I208a 3521) = (I208a 3905) ∧ (I208a 3649) = (I208a 3905) ∧ (I208a 3777) = (I208a 3905) ∧ 0 ≤ (I208a 3905) ∧ (I208a 3905) ≤ 3 * (I208a 2774)) ∧ ((I208a 4161) = (I208a 4033) ∧ 7 ≤ (I208a 4289) ∧ (I208a 4289) ≤ (I208a 4033) ∧ (I208a 4033) ≤ 7 + (I208a 2774)) ∧ 0 ≤ (I208a 5889) ∧ (I208a 5889) ≤ (I208a 2774)) ∧ ((I208a 2754) = (I 2754) ∧ ((I 2774) + 1) + 1 ≤ (I208a 2774) ∧ (I208a 2775) = (I 2775) + 1 ∧ (I208a 4289) = (I 4289) + 0 ∧ (I208a 5889) = (I 5889)) ∧ ((I208a 3905) + 2 ≤ (I 3905) + 3 * ((I208a 2774) - ((I 2774) + 1)) ∧ (I 3905) ≤ v209 ∧ v209 + 1 = (I208a 3905) ∧ (I 4033) ≤ (I208a 4033) ∧ (I208a 4033) ≤ (I 4033) + ((I208a 2774) - ((I 2774) + 1))) := f215
                  obtain ⟨⟨⟨n224, n225, n226, n227, n228⟩, ⟨n229, n230, n231, n232, n233, n234⟩, ⟨n235, n236, n237, n238⟩, n239, n240⟩, ⟨n241, n242, n243, n244, n245⟩, ⟨n246, n247, n248, n249, n250⟩⟩ := id f215
                  clear f215
                  replace f216 : m_SC I208a A208a := f216
                  replace f217 : m_TR lo210 I208a A208a := f217
                  replace f218 : m_ST lo (w_up (w_up I 2775 ((I 2775) + 1)) 2774 ((I 2774) + 1)) A lo210 I208a A208a := f218
                  replace f219 : t_E ((A208a 53) (v209)) := f219
                  replace f220 : m_rt lo210 (I208a 3905) v209 := f220
                  replace f221 : m_RK lo210 (I 3905) (I208a 3905) (8 * (24 - ((I 2775) + 1)) + 5) := f221
                  have tk251 : m_TK I208a A208a := m_TK_fx f214 hTK
                  have nn252 : (I 3905) ≤ (I208a 3905) := by omega
                  have nz253 : 0 ≤ (I 3905) := by first | assumption | omega
                  have ho254 : (I 2775) + 1 = (I 2775) + (1) := by omega
                  have rk256 : m_RK lo210 (I 3905) (I208a 3905) (8 * (24 - (I 2775)) + (-3)) := m_RK_app (I := (w_up (w_up I 2775 ((I 2775) + 1)) 2774 ((I 2774) + 1))) (I' := I208a) (R := (8 * (24 - (I 2775)) + (-3))) (show m_RK lo (I 3905) (I 3905) (8 * (24 - (I 2775)) + (-3)) from fun q q1 q2 => by omega) f218 f221 (show 0 ≤ (I 3905) by first | assumption | omega) (m_r8 (by decide)) (m_r8o (k := 1) ho254 (by decide))
                  have s255 : m_ST lo I A lo210 I208a A208a := f218
                  have k257 : m_kd lo210 I208a A208a (I 3905) (8 * (24 - ((I 2775) + 1)) + 5) v209 t_E := m_kd_of (I := (w_up (w_up I 2775 ((I 2775) + 1)) 2774 ((I 2774) + 1))) f218 f217 nz253 (show (I 3905) ≤ v209 by first | assumption | omega) (show v209 < (I208a 3905) by omega) f219 f221
                  obtain ⟨j258, j259, j260, j261, j262⟩ := k257.1
                  show w_W _ _ _ (149, [(1, .int (Int32.ofInt ((A 45) ((I 2774))))), (0, .ref 43)], [.int (Int32.ofInt (v209))], M207) _
                  refine w_adv (n := 3) (F' := (153, [(2, .int (Int32.ofInt (v209))), (1, .int (Int32.ofInt ((A 45) ((I 2774))))), (0, .ref 43)], [.int (Int32.ofInt (41)), .ref 43], M207)) rfl ?_
                  refine w_call (cm := 264) (as := [(0, .ref 43), (1, .int (Int32.ofInt (41)))]) (rest := []) (o := some (9, 43)) rfl (w_fitR hR208a rfl) (m_closeSign (41) hR208a (show 3 ≤ d by omega) ⟨by omega, by omega⟩ (show 0 ≤ (I208a 2774) ∧ (I208a 2774) < 1501 by omega) (show 1 ≤ (I208a 2775) ∧ (I208a 2775) ≤ 24 by first | assumption | omega)) (fun r263 M264 q265 => ?_)
                  rcases q265 with ⟨e266, hR265a, f267⟩ | ⟨I265b, A265b, B265b, C265b, e268, hR265b, f269⟩
                  · rw [e266]
                    replace hR265a : w_Rep w_TM fr X u l (w_up (w_up I208a 2774 ((I208a 2774) + 1)) 2775 ((I208a 2775) - 1)) A208a B208a C208a M264 := hR265a
                    replace f267 : (A208a 45) ((I208a 2774)) = 6 ∧ (A208a 46) ((I208a 2774)) = 41 := f267
                    obtain ⟨n270, n271⟩ := id f267
                    clear f267
                    have w272 : (I208a 2774) + 1 < (I208a 2754) := m_TK_lt tk251 (show (I208a 2774) < (I208a 2754) by omega) (show 1 ≤ (A208a 45) ((I208a 2774)) by omega) (show (A208a 45) ((I208a 2774)) ≤ 6 by omega)
                    show w_W _ _ _ (156, [(2, .int (Int32.ofInt (v209))), (1, .int (Int32.ofInt ((A 45) ((I 2774))))), (0, .ref 43)], [], M264) _
                    refine w_adv (n := 1) (F' := (157, [(2, .int (Int32.ofInt (v209))), (1, .int (Int32.ofInt ((A 45) ((I 2774))))), (0, .ref 43)], [.int (Int32.ofInt (v209))], M264)) rfl ?_
                    refine w_fin (r := .inl (some (v209))) (M' := M264) rfl ?_
                    exact Or.inl ⟨v209, lo210, (w_up (w_up I208a 2774 ((I208a 2774) + 1)) 2775 ((I208a 2775) - 1)), A208a, B208a, C208a, rfl, ⟨by omega, by omega⟩, hR265a, (show m_fx I A (w_up (w_up I208a 2774 ((I208a 2774) + 1)) 2775 ((I208a 2775) - 1)) A208a by exact f214), (show ((0 ≤ (I208a 2774) + 1 ∧ (I208a 2774) + 1 < (I208a 2754) ∧ (I208a 2754) ≤ 1501 ∧ 0 ≤ (I208a 2775) - 1 ∧ (I208a 2775) - 1 ≤ 24) ∧ ((I208a 3393) = (I208a 3905) ∧ (I208a 3521) = (I208a 3905) ∧ (I208a 3649) = (I208a 3905) ∧ (I208a 3777) = (I208a 3905) ∧ 0 ≤ (I208a 3905) ∧ (I208a 3905) ≤ 3 * ((I208a 2774) + 1)) ∧ ((I208a 4161) = (I208a 4033) ∧ 7 ≤ (I208a 4289) ∧ (I208a 4289) ≤ (I208a 4033) ∧ (I208a 4033) ≤ 7 + ((I208a 2774) + 1)) ∧ 0 ≤ (I208a 5889) ∧ (I208a 5889) ≤ (I208a 2774) + 1) ∧ ((I208a 2754) = (I 2754) ∧ (I 2774) + 1 ≤ (I208a 2774) + 1 ∧ (I208a 2775) - 1 = (I 2775) ∧ (I208a 4289) = (I 4289) + 0 ∧ (I208a 5889) = (I 5889)) ∧ ((I208a 3905) + 2 ≤ (I 3905) + 3 * (((I208a 2774) + 1) - (I 2774)) ∧ (I 3905) ≤ v209 ∧ v209 + 1 = (I208a 3905) ∧ (I 4033) ≤ (I208a 4033) ∧ (I208a 4033) ≤ (I 4033) + (((I208a 2774) + 1) - (I 2774))) by (repeat' apply And.intro) <;> first | assumption | omega), (show m_SC (w_up (w_up I208a 2774 ((I208a 2774) + 1)) 2775 ((I208a 2775) - 1)) A208a by exact f216), (show m_TR lo210 (w_up (w_up I208a 2774 ((I208a 2774) + 1)) 2775 ((I208a 2775) - 1)) A208a by exact f217), (show m_ST lo I A lo210 (w_up (w_up I208a 2774 ((I208a 2774) + 1)) 2775 ((I208a 2775) - 1)) A208a by exact s255), (show t_E ((A208a 53) (v209)) by exact (k257).2), (show m_rt lo210 (I208a 3905) v209 by exact f220), (show m_RK lo210 (I 3905) (I208a 3905) (8 * (24 - (I 2775)) + 0) by exact m_RK_le (show m_RK lo210 (I 3905) (I208a 3905) (8 * (24 - (I 2775)) + (-3)) from rk256) (show (8 * (24 - (I 2775)) + (-3)) ≤ 8 * (24 - (I 2775)) + 0 by omega))⟩
                  · rw [e268]
                    replace hR265b : w_Rep w_TM fr X u l I265b A265b B265b C265b M264 := hR265b
                    replace f269 : m_fx I208a A208a I265b A265b := f269
                    exact Or.inr (⟨I265b, A265b, B265b, C265b, rfl, hR265b, (show m_fx I A I265b A265b by exact (m_fx_trans f214 f269))⟩)
                · rw [e222]
                  replace hR208b : w_Rep w_TM fr X u l I208b A208b B208b C208b M207 := hR208b
                  replace f223 : m_fx (w_up (w_up I 2775 ((I 2775) + 1)) 2774 ((I 2774) + 1)) A I208b A208b := f223
                  exact Or.inr (⟨I208b, A208b, B208b, C208b, rfl, hR208b, (show m_fx I A I208b A208b by exact f223)⟩)
              · rw [e203]
                replace hR200b : w_Rep w_TM fr X u l I200b A200b B200b C200b M199 := hR200b
                replace f204 : m_fx I A I200b A200b := f204
                exact Or.inr (⟨I200b, A200b, B200b, C200b, rfl, hR200b, (show m_fx I A I200b A200b by exact f204)⟩)
            · rw [e192, e193]
              replace f194 : ¬ ((A 45) ((I 2774)) = 6 ∧ (A 46) ((I 2774)) = 40) := f194
              show w_W _ _ _ (138, [(1, .int (Int32.ofInt ((A 45) ((I 2774))))), (0, .ref 43)], [.int (Int32.ofInt (0))], M) _
              refine w_adv (n := 3) (F' := (161, [(1, .int (Int32.ofInt ((A 45) ((I 2774))))), (0, .ref 43)], [.int (Int32.ofInt (123)), .ref 43], M)) rfl ?_
              refine w_call (cm := 230) (as := [(0, .ref 43), (1, .int (Int32.ofInt (123)))]) (rest := []) (o := some (9, 43)) rfl (w_fitR hR rfl) (m_isSign (123) hR ⟨by omega, by omega⟩ (show 0 ≤ (I 2774) ∧ (I 2774) < 1501 by omega)) (fun r273 M274 q275 => ?_)
              rcases q275 with ⟨e276, e277, f278⟩ | ⟨e279, e280, f281⟩
              · rw [e276, e277]
                replace f278 : (A 45) ((I 2774)) = 6 ∧ (A 46) ((I 2774)) = 123 := f278
                obtain ⟨n282, n283⟩ := id f278
                clear f278
                have w284 : (I 2774) + 1 < (I 2754) := m_TK_lt hTK (show (I 2774) < (I 2754) by omega) (show 1 ≤ (A 45) ((I 2774)) by omega) (show (A 45) ((I 2774)) ≤ 6 by omega)
                show w_W _ _ _ (164, [(1, .int (Int32.ofInt ((A 45) ((I 2774))))), (0, .ref 43)], [.int (Int32.ofInt (1))], M) _
                refine w_adv (n := 2) (F' := (168, [(1, .int (Int32.ofInt ((A 45) ((I 2774))))), (0, .ref 43)], [.ref 43], M)) rfl ?_
                refine w_call (cm := 266) (as := [(0, .ref 43)]) (rest := []) (o := some (9, 43)) rfl (w_fitR hR rfl) (m_applied hA (lo) hR (show 20 * (24 - (I 2775)) + 11 ≤ (d : Int) by omega) (show m_TK I A by exact hTK) (show (0 ≤ (I 2774) ∧ (I 2774) < (I 2754) ∧ (I 2754) ≤ 1501 ∧ 0 ≤ (I 2775) ∧ (I 2775) ≤ 24) ∧ ((I 3393) = (I 3905) ∧ (I 3521) = (I 3905) ∧ (I 3649) = (I 3905) ∧ (I 3777) = (I 3905) ∧ 0 ≤ (I 3905) ∧ (I 3905) ≤ 3 * (I 2774)) ∧ ((I 4161) = (I 4033) ∧ 7 ≤ (I 4289) ∧ (I 4289) ≤ (I 4033) ∧ (I 4033) ≤ 7 + (I 2774)) ∧ 0 ≤ (I 5889) ∧ (I 5889) ≤ (I 2774) by (repeat' apply And.intro) <;> first | assumption | omega) (show m_SC I A by exact hSC) (show m_TR lo I A by exact hTR) (show 1 ≤ (A 45) ((I 2774)) ∧ (A 45) ((I 2774)) ≤ 6 by first | assumption | omega) (show (I 2754) - (I 2774) ≤ N by first | assumption | omega)) (fun r285 M286 q287 => ?_)
                rcases q287 with ⟨v288, lo289, I287a, A287a, B287a, C287a, e290, ⟨r291, r292⟩, hR287a, f293, f294, f295, f296, f297, f298, f299, f300⟩ | ⟨I287b, A287b, B287b, C287b, e301, hR287b, f302⟩
                · rw [e290]
                  replace hR287a : w_Rep w_TM fr X u l I287a A287a B287a C287a M286 := hR287a
                  replace f293 : m_fx I A I287a A287a := f293
                  replace f294 : ((0 ≤ (I287a 2774) ∧ (I287a 2774) < (I287a 2754) ∧ (I287a 2754) ≤ 1501 ∧ 0 ≤ (I287a 2775) ∧ (I287a 2775) ≤ 24) ∧ ((I287a 3393) = (I287a 3905) ∧ (I287a 3521) = (I287a 3905) ∧ (I287a 3649) = (I287a 3905) ∧ (I287a 3777) = (I287a 3905) ∧ 0 ≤ (I287a 3905) ∧ (I287a 3905) ≤ 3 * (I287a 2774)) ∧ ((I287a 4161) = (I287a 4033) ∧ 7 ≤ (I287a 4289) ∧ (I287a 4289) ≤ (I287a 4033) ∧ (I287a 4033) ≤ 7 + (I287a 2774)) ∧ 0 ≤ (I287a 5889) ∧ (I287a 5889) ≤ (I287a 2774)) ∧ ((I287a 2754) = (I 2754) ∧ (I 2774) + 1 ≤ (I287a 2774) ∧ (I287a 2775) = (I 2775) ∧ (I287a 4289) = (I 4289) + 0 ∧ (I287a 5889) = (I 5889)) ∧ ((I287a 3905) + 2 ≤ (I 3905) + 3 * ((I287a 2774) - (I 2774)) ∧ (I 3905) ≤ v288 ∧ v288 + 1 = (I287a 3905) ∧ (I 4033) ≤ (I287a 4033) ∧ (I287a 4033) ≤ (I 4033) + ((I287a 2774) - (I 2774))) := f294
                  obtain ⟨⟨⟨n303, n304, n305, n306, n307⟩, ⟨n308, n309, n310, n311, n312, n313⟩, ⟨n314, n315, n316, n317⟩, n318, n319⟩, ⟨n320, n321, n322, n323, n324⟩, ⟨n325, n326, n327, n328, n329⟩⟩ := id f294
                  clear f294
                  replace f295 : m_SC I287a A287a := f295
                  replace f296 : m_TR lo289 I287a A287a := f296
                  replace f297 : m_ST lo I A lo289 I287a A287a := f297
                  replace f298 : (fun k => k = 11) ((A287a 53) (v288)) := f298
                  replace f299 : m_rt lo289 (I287a 3905) v288 := f299
                  replace f300 : m_RK lo289 (I 3905) (I287a 3905) (8 * (24 - (I 2775)) + 0) := f300
                  have tk330 : m_TK I287a A287a := m_TK_fx f293 hTK
                  have nn331 : (I 3905) ≤ (I287a 3905) := by omega
                  have nz332 : 0 ≤ (I 3905) := by first | assumption | omega
                  have ho333 : (I 2775) = (I 2775) + (0) := by omega
                  have rk335 : m_RK lo289 (I 3905) (I287a 3905) (8 * (24 - (I 2775)) + (0)) := m_RK_app (I := I) (I' := I287a) (R := (8 * (24 - (I 2775)) + (0))) (show m_RK lo (I 3905) (I 3905) (8 * (24 - (I 2775)) + (0)) from fun q q1 q2 => by omega) f297 f300 (show 0 ≤ (I 3905) by first | assumption | omega) (m_r8 (by decide)) (m_r8o (k := 0) ho333 (by decide))
                  have s334 : m_ST lo I A lo289 I287a A287a := f297
                  have k336 : m_kd lo289 I287a A287a (I 3905) (8 * (24 - (I 2775)) + 0) v288 (fun k => k = 11) := m_kd_of (I := I) f297 f296 nz332 (show (I 3905) ≤ v288 by first | assumption | omega) (show v288 < (I287a 3905) by omega) f298 f300
                  obtain ⟨j337, j338, j339, j340, j341⟩ := k336.1
                  show w_W _ _ _ (171, [(1, .int (Int32.ofInt ((A 45) ((I 2774))))), (0, .ref 43)], [.int (Int32.ofInt (v288))], M286) _
                  refine w_fin (r := .inl (some (v288))) (M' := M286) rfl ?_
                  exact Or.inl ⟨v288, lo289, I287a, A287a, B287a, C287a, rfl, ⟨by omega, by omega⟩, hR287a, (show m_fx I A I287a A287a by exact f293), (show ((0 ≤ (I287a 2774) ∧ (I287a 2774) < (I287a 2754) ∧ (I287a 2754) ≤ 1501 ∧ 0 ≤ (I287a 2775) ∧ (I287a 2775) ≤ 24) ∧ ((I287a 3393) = (I287a 3905) ∧ (I287a 3521) = (I287a 3905) ∧ (I287a 3649) = (I287a 3905) ∧ (I287a 3777) = (I287a 3905) ∧ 0 ≤ (I287a 3905) ∧ (I287a 3905) ≤ 3 * (I287a 2774)) ∧ ((I287a 4161) = (I287a 4033) ∧ 7 ≤ (I287a 4289) ∧ (I287a 4289) ≤ (I287a 4033) ∧ (I287a 4033) ≤ 7 + (I287a 2774)) ∧ 0 ≤ (I287a 5889) ∧ (I287a 5889) ≤ (I287a 2774)) ∧ ((I287a 2754) = (I 2754) ∧ (I 2774) + 1 ≤ (I287a 2774) ∧ (I287a 2775) = (I 2775) ∧ (I287a 4289) = (I 4289) + 0 ∧ (I287a 5889) = (I 5889)) ∧ ((I287a 3905) + 2 ≤ (I 3905) + 3 * ((I287a 2774) - (I 2774)) ∧ (I 3905) ≤ v288 ∧ v288 + 1 = (I287a 3905) ∧ (I 4033) ≤ (I287a 4033) ∧ (I287a 4033) ≤ (I 4033) + ((I287a 2774) - (I 2774))) by (repeat' apply And.intro) <;> first | assumption | omega), (show m_SC I287a A287a by exact f295), (show m_TR lo289 I287a A287a by exact f296), (show m_ST lo I A lo289 I287a A287a by exact s334), (show t_E ((A287a 53) (v288)) by exact ((m_kd_K k336 (fun k h => by have h : k = 11 := h; unfold t_E; omega))).2), (show m_rt lo289 (I287a 3905) v288 by exact f299), (show m_RK lo289 (I 3905) (I287a 3905) (8 * (24 - (I 2775)) + 0) by exact m_RK_le (show m_RK lo289 (I 3905) (I287a 3905) (8 * (24 - (I 2775)) + (0)) from rk335) (show (8 * (24 - (I 2775)) + (0)) ≤ 8 * (24 - (I 2775)) + 0 by omega))⟩
                · rw [e301]
                  replace hR287b : w_Rep w_TM fr X u l I287b A287b B287b C287b M286 := hR287b
                  replace f302 : m_fx I A I287b A287b := f302
                  exact Or.inr (⟨I287b, A287b, B287b, C287b, rfl, hR287b, (show m_fx I A I287b A287b by exact f302)⟩)
              · rw [e279, e280]
                replace f281 : ¬ ((A 45) ((I 2774)) = 6 ∧ (A 46) ((I 2774)) = 123) := f281
                show w_W _ _ _ (164, [(1, .int (Int32.ofInt ((A 45) ((I 2774))))), (0, .ref 43)], [.int (Int32.ofInt (0))], M) _
                refine w_adv (n := 3) (F' := (175, [(1, .int (Int32.ofInt ((A 45) ((I 2774))))), (0, .ref 43)], [.int (Int32.ofInt (10)), .ref 43], M)) rfl ?_
                refine w_call (cm := 231) (as := [(0, .ref 43), (1, .int (Int32.ofInt (10)))]) (rest := []) (o := some (9, 43)) rfl (w_fitR hR rfl) (m_isWord (10) hR ⟨by omega, by omega⟩ (show 0 ≤ (I 2774) ∧ (I 2774) < 1501 by omega)) (fun r342 M343 q344 => ?_)
                rcases q344 with ⟨e345, e346, f347⟩ | ⟨e348, e349, f350⟩
                · rw [e345, e346]
                  replace f347 : (A 45) ((I 2774)) = 5 ∧ (A 46) ((I 2774)) = 10 := f347
                  obtain ⟨n351, n352⟩ := id f347
                  clear f347
                  have w353 : (I 2774) + 1 < (I 2754) := m_TK_lt hTK (show (I 2774) < (I 2754) by omega) (show 1 ≤ (A 45) ((I 2774)) by omega) (show (A 45) ((I 2774)) ≤ 6 by omega)
                  show w_W _ _ _ (178, [(1, .int (Int32.ofInt ((A 45) ((I 2774))))), (0, .ref 43)], [.int (Int32.ofInt (1))], M) _
                  refine w_adv (n := 2) (F' := (191, [(1, .int (Int32.ofInt ((A 45) ((I 2774))))), (0, .ref 43)], [.ref 43], M)) rfl ?_
                  refine w_call (cm := 267) (as := [(0, .ref 43)]) (rest := []) (o := some (9, 43)) rfl (w_fitR hR rfl) (m_procedure hA (lo) hR (show 20 * (24 - (I 2775)) + 11 ≤ (d : Int) by omega) (show m_TK I A by exact hTK) (show (0 ≤ (I 2774) ∧ (I 2774) < (I 2754) ∧ (I 2754) ≤ 1501 ∧ 0 ≤ (I 2775) ∧ (I 2775) ≤ 24) ∧ ((I 3393) = (I 3905) ∧ (I 3521) = (I 3905) ∧ (I 3649) = (I 3905) ∧ (I 3777) = (I 3905) ∧ 0 ≤ (I 3905) ∧ (I 3905) ≤ 3 * (I 2774)) ∧ ((I 4161) = (I 4033) ∧ 7 ≤ (I 4289) ∧ (I 4289) ≤ (I 4033) ∧ (I 4033) ≤ 7 + (I 2774)) ∧ 0 ≤ (I 5889) ∧ (I 5889) ≤ (I 2774) by (repeat' apply And.intro) <;> first | assumption | omega) (show m_SC I A by exact hSC) (show m_TR lo I A by exact hTR) (show 1 ≤ (A 45) ((I 2774)) ∧ (A 45) ((I 2774)) ≤ 6 by first | assumption | omega) (show (I 2754) - (I 2774) ≤ N by first | assumption | omega)) (fun r354 M355 q356 => ?_)
                  rcases q356 with ⟨v357, lo358, I356a, A356a, B356a, C356a, e359, ⟨r360, r361⟩, hR356a, f362, f363, f364, f365, f366, f367, f368, f369⟩ | ⟨I356b, A356b, B356b, C356b, e370, hR356b, f371⟩
                  · rw [e359]
                    replace hR356a : w_Rep w_TM fr X u l I356a A356a B356a C356a M355 := hR356a
                    replace f362 : m_fx I A I356a A356a := f362
                    replace f363 : ((0 ≤ (I356a 2774) ∧ (I356a 2774) < (I356a 2754) ∧ (I356a 2754) ≤ 1501 ∧ 0 ≤ (I356a 2775) ∧ (I356a 2775) ≤ 24) ∧ ((I356a 3393) = (I356a 3905) ∧ (I356a 3521) = (I356a 3905) ∧ (I356a 3649) = (I356a 3905) ∧ (I356a 3777) = (I356a 3905) ∧ 0 ≤ (I356a 3905) ∧ (I356a 3905) ≤ 3 * (I356a 2774)) ∧ ((I356a 4161) = (I356a 4033) ∧ 7 ≤ (I356a 4289) ∧ (I356a 4289) ≤ (I356a 4033) ∧ (I356a 4033) ≤ 7 + (I356a 2774)) ∧ 0 ≤ (I356a 5889) ∧ (I356a 5889) ≤ (I356a 2774)) ∧ ((I356a 2754) = (I 2754) ∧ (I 2774) + 1 ≤ (I356a 2774) ∧ (I356a 2775) = (I 2775) ∧ (I356a 4289) = (I 4289) + 0 ∧ (I356a 5889) = (I 5889)) ∧ ((I356a 3905) + 2 ≤ (I 3905) + 3 * ((I356a 2774) - (I 2774)) ∧ (I 3905) ≤ v357 ∧ v357 + 1 = (I356a 3905) ∧ (I 4033) ≤ (I356a 4033) ∧ (I356a 4033) ≤ (I 4033) + ((I356a 2774) - (I 2774))) := f363
                    obtain ⟨⟨⟨n372, n373, n374, n375, n376⟩, ⟨n377, n378, n379, n380, n381, n382⟩, ⟨n383, n384, n385, n386⟩, n387, n388⟩, ⟨n389, n390, n391, n392, n393⟩, ⟨n394, n395, n396, n397, n398⟩⟩ := id f363
                    clear f363
                    replace f364 : m_SC I356a A356a := f364
                    replace f365 : m_TR lo358 I356a A356a := f365
                    replace f366 : m_ST lo I A lo358 I356a A356a := f366
                    replace f367 : t_E ((A356a 53) (v357)) := f367
                    replace f368 : m_rt lo358 (I356a 3905) v357 := f368
                    replace f369 : m_RK lo358 (I 3905) (I356a 3905) (8 * (24 - (I 2775)) + 0) := f369
                    have tk399 : m_TK I356a A356a := m_TK_fx f362 hTK
                    have nn400 : (I 3905) ≤ (I356a 3905) := by omega
                    have nz401 : 0 ≤ (I 3905) := by first | assumption | omega
                    have ho402 : (I 2775) = (I 2775) + (0) := by omega
                    have rk404 : m_RK lo358 (I 3905) (I356a 3905) (8 * (24 - (I 2775)) + (0)) := m_RK_app (I := I) (I' := I356a) (R := (8 * (24 - (I 2775)) + (0))) (show m_RK lo (I 3905) (I 3905) (8 * (24 - (I 2775)) + (0)) from fun q q1 q2 => by omega) f366 f369 (show 0 ≤ (I 3905) by first | assumption | omega) (m_r8 (by decide)) (m_r8o (k := 0) ho402 (by decide))
                    have s403 : m_ST lo I A lo358 I356a A356a := f366
                    have k405 : m_kd lo358 I356a A356a (I 3905) (8 * (24 - (I 2775)) + 0) v357 t_E := m_kd_of (I := I) f366 f365 nz401 (show (I 3905) ≤ v357 by first | assumption | omega) (show v357 < (I356a 3905) by omega) f367 f369
                    obtain ⟨j406, j407, j408, j409, j410⟩ := k405.1
                    show w_W _ _ _ (194, [(1, .int (Int32.ofInt ((A 45) ((I 2774))))), (0, .ref 43)], [.int (Int32.ofInt (v357))], M355) _
                    refine w_fin (r := .inl (some (v357))) (M' := M355) rfl ?_
                    exact Or.inl ⟨v357, lo358, I356a, A356a, B356a, C356a, rfl, ⟨by omega, by omega⟩, hR356a, (show m_fx I A I356a A356a by exact f362), (show ((0 ≤ (I356a 2774) ∧ (I356a 2774) < (I356a 2754) ∧ (I356a 2754) ≤ 1501 ∧ 0 ≤ (I356a 2775) ∧ (I356a 2775) ≤ 24) ∧ ((I356a 3393) = (I356a 3905) ∧ (I356a 3521) = (I356a 3905) ∧ (I356a 3649) = (I356a 3905) ∧ (I356a 3777) = (I356a 3905) ∧ 0 ≤ (I356a 3905) ∧ (I356a 3905) ≤ 3 * (I356a 2774)) ∧ ((I356a 4161) = (I356a 4033) ∧ 7 ≤ (I356a 4289) ∧ (I356a 4289) ≤ (I356a 4033) ∧ (I356a 4033) ≤ 7 + (I356a 2774)) ∧ 0 ≤ (I356a 5889) ∧ (I356a 5889) ≤ (I356a 2774)) ∧ ((I356a 2754) = (I 2754) ∧ (I 2774) + 1 ≤ (I356a 2774) ∧ (I356a 2775) = (I 2775) ∧ (I356a 4289) = (I 4289) + 0 ∧ (I356a 5889) = (I 5889)) ∧ ((I356a 3905) + 2 ≤ (I 3905) + 3 * ((I356a 2774) - (I 2774)) ∧ (I 3905) ≤ v357 ∧ v357 + 1 = (I356a 3905) ∧ (I 4033) ≤ (I356a 4033) ∧ (I356a 4033) ≤ (I 4033) + ((I356a 2774) - (I 2774))) by (repeat' apply And.intro) <;> first | assumption | omega), (show m_SC I356a A356a by exact f364), (show m_TR lo358 I356a A356a by exact f365), (show m_ST lo I A lo358 I356a A356a by exact s403), (show t_E ((A356a 53) (v357)) by exact (k405).2), (show m_rt lo358 (I356a 3905) v357 by exact f368), (show m_RK lo358 (I 3905) (I356a 3905) (8 * (24 - (I 2775)) + 0) by exact m_RK_le (show m_RK lo358 (I 3905) (I356a 3905) (8 * (24 - (I 2775)) + (0)) from rk404) (show (8 * (24 - (I 2775)) + (0)) ≤ 8 * (24 - (I 2775)) + 0 by omega))⟩
                  · rw [e370]
                    replace hR356b : w_Rep w_TM fr X u l I356b A356b B356b C356b M355 := hR356b
                    replace f371 : m_fx I A I356b A356b := f371
                    exact Or.inr (⟨I356b, A356b, B356b, C356b, rfl, hR356b, (show m_fx I A I356b A356b by exact f371)⟩)
                · rw [e348, e349]
                  replace f350 : ¬ ((A 45) ((I 2774)) = 5 ∧ (A 46) ((I 2774)) = 10) := f350
                  show w_W _ _ _ (178, [(1, .int (Int32.ofInt ((A 45) ((I 2774))))), (0, .ref 43)], [.int (Int32.ofInt (0))], M) _
                  refine w_adv (n := 3) (F' := (184, [(1, .int (Int32.ofInt ((A 45) ((I 2774))))), (0, .ref 43)], [.int (Int32.ofInt (11)), .ref 43], M)) rfl ?_
                  refine w_call (cm := 231) (as := [(0, .ref 43), (1, .int (Int32.ofInt (11)))]) (rest := []) (o := some (9, 43)) rfl (w_fitR hR rfl) (m_isWord (11) hR ⟨by omega, by omega⟩ (show 0 ≤ (I 2774) ∧ (I 2774) < 1501 by omega)) (fun r411 M412 q413 => ?_)
                  rcases q413 with ⟨e414, e415, f416⟩ | ⟨e417, e418, f419⟩
                  · rw [e414, e415]
                    replace f416 : (A 45) ((I 2774)) = 5 ∧ (A 46) ((I 2774)) = 11 := f416
                    obtain ⟨n420, n421⟩ := id f416
                    clear f416
                    have w422 : (I 2774) + 1 < (I 2754) := m_TK_lt hTK (show (I 2774) < (I 2754) by omega) (show 1 ≤ (A 45) ((I 2774)) by omega) (show (A 45) ((I 2774)) ≤ 6 by omega)
                    show w_W _ _ _ (187, [(1, .int (Int32.ofInt ((A 45) ((I 2774))))), (0, .ref 43)], [.int (Int32.ofInt (1))], M) _
                    refine w_adv (n := 2) (F' := (191, [(1, .int (Int32.ofInt ((A 45) ((I 2774))))), (0, .ref 43)], [.ref 43], M)) rfl ?_
                    refine w_call (cm := 267) (as := [(0, .ref 43)]) (rest := []) (o := some (9, 43)) rfl (w_fitR hR rfl) (m_procedure hA (lo) hR (show 20 * (24 - (I 2775)) + 11 ≤ (d : Int) by omega) (show m_TK I A by exact hTK) (show (0 ≤ (I 2774) ∧ (I 2774) < (I 2754) ∧ (I 2754) ≤ 1501 ∧ 0 ≤ (I 2775) ∧ (I 2775) ≤ 24) ∧ ((I 3393) = (I 3905) ∧ (I 3521) = (I 3905) ∧ (I 3649) = (I 3905) ∧ (I 3777) = (I 3905) ∧ 0 ≤ (I 3905) ∧ (I 3905) ≤ 3 * (I 2774)) ∧ ((I 4161) = (I 4033) ∧ 7 ≤ (I 4289) ∧ (I 4289) ≤ (I 4033) ∧ (I 4033) ≤ 7 + (I 2774)) ∧ 0 ≤ (I 5889) ∧ (I 5889) ≤ (I 2774) by (repeat' apply And.intro) <;> first | assumption | omega) (show m_SC I A by exact hSC) (show m_TR lo I A by exact hTR) (show 1 ≤ (A 45) ((I 2774)) ∧ (A 45) ((I 2774)) ≤ 6 by first | assumption | omega) (show (I 2754) - (I 2774) ≤ N by first | assumption | omega)) (fun r423 M424 q425 => ?_)
                    rcases q425 with ⟨v426, lo427, I425a, A425a, B425a, C425a, e428, ⟨r429, r430⟩, hR425a, f431, f432, f433, f434, f435, f436, f437, f438⟩ | ⟨I425b, A425b, B425b, C425b, e439, hR425b, f440⟩
                    · rw [e428]
                      replace hR425a : w_Rep w_TM fr X u l I425a A425a B425a C425a M424 := hR425a
                      replace f431 : m_fx I A I425a A425a := f431
                      replace f432 : ((0 ≤ (I425a 2774) ∧ (I425a 2774) < (I425a 2754) ∧ (I425a 2754) ≤ 1501 ∧ 0 ≤ (I425a 2775) ∧ (I425a 2775) ≤ 24) ∧ ((I425a 3393) = (I425a 3905) ∧ (I425a 3521) = (I425a 3905) ∧ (I425a 3649) = (I425a 3905) ∧ (I425a 3777) = (I425a 3905) ∧ 0 ≤ (I425a 3905) ∧ (I425a 3905) ≤ 3 * (I425a 2774)) ∧ ((I425a 4161) = (I425a 4033) ∧ 7 ≤ (I425a 4289) ∧ (I425a 4289) ≤ (I425a 4033) ∧ (I425a 4033) ≤ 7 + (I425a 2774)) ∧ 0 ≤ (I425a 5889) ∧ (I425a 5889) ≤ (I425a 2774)) ∧ ((I425a 2754) = (I 2754) ∧ (I 2774) + 1 ≤ (I425a 2774) ∧ (I425a 2775) = (I 2775) ∧ (I425a 4289) = (I 4289) + 0 ∧ (I425a 5889) = (I 5889)) ∧ ((I425a 3905) + 2 ≤ (I 3905) + 3 * ((I425a 2774) - (I 2774)) ∧ (I 3905) ≤ v426 ∧ v426 + 1 = (I425a 3905) ∧ (I 4033) ≤ (I425a 4033) ∧ (I425a 4033) ≤ (I 4033) + ((I425a 2774) - (I 2774))) := f432
                      obtain ⟨⟨⟨n441, n442, n443, n444, n445⟩, ⟨n446, n447, n448, n449, n450, n451⟩, ⟨n452, n453, n454, n455⟩, n456, n457⟩, ⟨n458, n459, n460, n461, n462⟩, ⟨n463, n464, n465, n466, n467⟩⟩ := id f432
                      clear f432
                      replace f433 : m_SC I425a A425a := f433
                      replace f434 : m_TR lo427 I425a A425a := f434
                      replace f435 : m_ST lo I A lo427 I425a A425a := f435
                      replace f436 : t_E ((A425a 53) (v426)) := f436
                      replace f437 : m_rt lo427 (I425a 3905) v426 := f437
                      replace f438 : m_RK lo427 (I 3905) (I425a 3905) (8 * (24 - (I 2775)) + 0) := f438
                      have tk468 : m_TK I425a A425a := m_TK_fx f431 hTK
                      have nn469 : (I 3905) ≤ (I425a 3905) := by omega
                      have nz470 : 0 ≤ (I 3905) := by first | assumption | omega
                      have ho471 : (I 2775) = (I 2775) + (0) := by omega
                      have rk473 : m_RK lo427 (I 3905) (I425a 3905) (8 * (24 - (I 2775)) + (0)) := m_RK_app (I := I) (I' := I425a) (R := (8 * (24 - (I 2775)) + (0))) (show m_RK lo (I 3905) (I 3905) (8 * (24 - (I 2775)) + (0)) from fun q q1 q2 => by omega) f435 f438 (show 0 ≤ (I 3905) by first | assumption | omega) (m_r8 (by decide)) (m_r8o (k := 0) ho471 (by decide))
                      have s472 : m_ST lo I A lo427 I425a A425a := f435
                      have k474 : m_kd lo427 I425a A425a (I 3905) (8 * (24 - (I 2775)) + 0) v426 t_E := m_kd_of (I := I) f435 f434 nz470 (show (I 3905) ≤ v426 by first | assumption | omega) (show v426 < (I425a 3905) by omega) f436 f438
                      obtain ⟨j475, j476, j477, j478, j479⟩ := k474.1
                      show w_W _ _ _ (194, [(1, .int (Int32.ofInt ((A 45) ((I 2774))))), (0, .ref 43)], [.int (Int32.ofInt (v426))], M424) _
                      refine w_fin (r := .inl (some (v426))) (M' := M424) rfl ?_
                      exact Or.inl ⟨v426, lo427, I425a, A425a, B425a, C425a, rfl, ⟨by omega, by omega⟩, hR425a, (show m_fx I A I425a A425a by exact f431), (show ((0 ≤ (I425a 2774) ∧ (I425a 2774) < (I425a 2754) ∧ (I425a 2754) ≤ 1501 ∧ 0 ≤ (I425a 2775) ∧ (I425a 2775) ≤ 24) ∧ ((I425a 3393) = (I425a 3905) ∧ (I425a 3521) = (I425a 3905) ∧ (I425a 3649) = (I425a 3905) ∧ (I425a 3777) = (I425a 3905) ∧ 0 ≤ (I425a 3905) ∧ (I425a 3905) ≤ 3 * (I425a 2774)) ∧ ((I425a 4161) = (I425a 4033) ∧ 7 ≤ (I425a 4289) ∧ (I425a 4289) ≤ (I425a 4033) ∧ (I425a 4033) ≤ 7 + (I425a 2774)) ∧ 0 ≤ (I425a 5889) ∧ (I425a 5889) ≤ (I425a 2774)) ∧ ((I425a 2754) = (I 2754) ∧ (I 2774) + 1 ≤ (I425a 2774) ∧ (I425a 2775) = (I 2775) ∧ (I425a 4289) = (I 4289) + 0 ∧ (I425a 5889) = (I 5889)) ∧ ((I425a 3905) + 2 ≤ (I 3905) + 3 * ((I425a 2774) - (I 2774)) ∧ (I 3905) ≤ v426 ∧ v426 + 1 = (I425a 3905) ∧ (I 4033) ≤ (I425a 4033) ∧ (I425a 4033) ≤ (I 4033) + ((I425a 2774) - (I 2774))) by (repeat' apply And.intro) <;> first | assumption | omega), (show m_SC I425a A425a by exact f433), (show m_TR lo427 I425a A425a by exact f434), (show m_ST lo I A lo427 I425a A425a by exact s472), (show t_E ((A425a 53) (v426)) by exact (k474).2), (show m_rt lo427 (I425a 3905) v426 by exact f437), (show m_RK lo427 (I 3905) (I425a 3905) (8 * (24 - (I 2775)) + 0) by exact m_RK_le (show m_RK lo427 (I 3905) (I425a 3905) (8 * (24 - (I 2775)) + (0)) from rk473) (show (8 * (24 - (I 2775)) + (0)) ≤ 8 * (24 - (I 2775)) + 0 by omega))⟩
                    · rw [e439]
                      replace hR425b : w_Rep w_TM fr X u l I425b A425b B425b C425b M424 := hR425b
                      replace f440 : m_fx I A I425b A425b := f440
                      exact Or.inr (⟨I425b, A425b, B425b, C425b, rfl, hR425b, (show m_fx I A I425b A425b by exact f440)⟩)
                  · rw [e417, e418]
                    replace f419 : ¬ ((A 45) ((I 2774)) = 5 ∧ (A 46) ((I 2774)) = 11) := f419
                    show w_W _ _ _ (187, [(1, .int (Int32.ofInt ((A 45) ((I 2774))))), (0, .ref 43)], [.int (Int32.ofInt (0))], M) _
                    refine w_adv (n := 3) (F' := (197, [(1, .int (Int32.ofInt ((A 45) ((I 2774))))), (0, .ref 43)], [.int (Int32.ofInt (1)), .ref 43], M)) rfl ?_
                    refine w_call (cm := 231) (as := [(0, .ref 43), (1, .int (Int32.ofInt (1)))]) (rest := []) (o := some (9, 43)) rfl (w_fitR hR rfl) (m_isWord (1) hR ⟨by omega, by omega⟩ (show 0 ≤ (I 2774) ∧ (I 2774) < 1501 by omega)) (fun r480 M481 q482 => ?_)
                    rcases q482 with ⟨e483, e484, f485⟩ | ⟨e486, e487, f488⟩
                    · rw [e483, e484]
                      replace f485 : (A 45) ((I 2774)) = 5 ∧ (A 46) ((I 2774)) = 1 := f485
                      obtain ⟨n489, n490⟩ := id f485
                      clear f485
                      have w491 : (I 2774) + 1 < (I 2754) := m_TK_lt hTK (show (I 2774) < (I 2754) by omega) (show 1 ≤ (A 45) ((I 2774)) by omega) (show (A 45) ((I 2774)) ≤ 6 by omega)
                      show w_W _ _ _ (200, [(1, .int (Int32.ofInt ((A 45) ((I 2774))))), (0, .ref 43)], [.int (Int32.ofInt (1))], M) _
                      refine w_adv (n := 3) (F' := (205, [(1, .int (Int32.ofInt ((A 45) ((I 2774))))), (0, .ref 43)], [.int (Int32.ofInt (1)), .ref 43], M)) rfl ?_
                      refine w_call (cm := 234) (as := [(0, .ref 43), (1, .int (Int32.ofInt (1)))]) (rest := []) (o := some (9, 43)) rfl (w_fitR hR rfl) (m_local hA (1) (lo) hR (show 20 * (24 - (I 2775)) + 11 ≤ (d : Int) by omega) ⟨by omega, by omega⟩ (show m_TK I A by exact hTK) (show (0 ≤ (I 2774) ∧ (I 2774) < (I 2754) ∧ (I 2754) ≤ 1501 ∧ 0 ≤ (I 2775) ∧ (I 2775) ≤ 24) ∧ ((I 3393) = (I 3905) ∧ (I 3521) = (I 3905) ∧ (I 3649) = (I 3905) ∧ (I 3777) = (I 3905) ∧ 0 ≤ (I 3905) ∧ (I 3905) ≤ 3 * (I 2774)) ∧ ((I 4161) = (I 4033) ∧ 7 ≤ (I 4289) ∧ (I 4289) ≤ (I 4033) ∧ (I 4033) ≤ 7 + (I 2774)) ∧ 0 ≤ (I 5889) ∧ (I 5889) ≤ (I 2774) by (repeat' apply And.intro) <;> first | assumption | omega) (show m_SC I A by exact hSC) (show m_TR lo I A by exact hTR) (show 1 ≤ (A 45) ((I 2774)) ∧ (A 45) ((I 2774)) ≤ 6 by first | assumption | omega) (show (I 2754) - (I 2774) ≤ N by first | assumption | omega)) (fun r492 M493 q494 => ?_)
                      rcases q494 with ⟨v495, lo496, I494a, A494a, B494a, C494a, e497, ⟨r498, r499⟩, hR494a, f500, f501, f502, f503, f504, f505, f506, f507⟩ | ⟨I494b, A494b, B494b, C494b, e508, hR494b, f509⟩
                      · rw [e497]
                        replace hR494a : w_Rep w_TM fr X u l I494a A494a B494a C494a M493 := hR494a
                        replace f500 : m_fx I A I494a A494a := f500
                        replace f501 : ((0 ≤ (I494a 2774) ∧ (I494a 2774) < (I494a 2754) ∧ (I494a 2754) ≤ 1501 ∧ 0 ≤ (I494a 2775) ∧ (I494a 2775) ≤ 24) ∧ ((I494a 3393) = (I494a 3905) ∧ (I494a 3521) = (I494a 3905) ∧ (I494a 3649) = (I494a 3905) ∧ (I494a 3777) = (I494a 3905) ∧ 0 ≤ (I494a 3905) ∧ (I494a 3905) ≤ 3 * (I494a 2774)) ∧ ((I494a 4161) = (I494a 4033) ∧ 7 ≤ (I494a 4289) ∧ (I494a 4289) ≤ (I494a 4033) ∧ (I494a 4033) ≤ 7 + (I494a 2774)) ∧ 0 ≤ (I494a 5889) ∧ (I494a 5889) ≤ (I494a 2774)) ∧ ((I494a 2754) = (I 2754) ∧ (I 2774) + 1 ≤ (I494a 2774) ∧ (I494a 2775) = (I 2775) ∧ (I494a 4289) = (I 4289) + 0 ∧ (I494a 5889) = (I 5889)) ∧ ((I494a 3905) + 2 ≤ (I 3905) + 3 * ((I494a 2774) - (I 2774)) ∧ (I 3905) ≤ v495 ∧ v495 + 1 = (I494a 3905) ∧ (I 4033) ≤ (I494a 4033) ∧ (I494a 4033) ≤ (I 4033) + ((I494a 2774) - (I 2774))) := f501
                        obtain ⟨⟨⟨n510, n511, n512, n513, n514⟩, ⟨n515, n516, n517, n518, n519, n520⟩, ⟨n521, n522, n523, n524⟩, n525, n526⟩, ⟨n527, n528, n529, n530, n531⟩, ⟨n532, n533, n534, n535, n536⟩⟩ := id f501
                        clear f501
                        replace f502 : m_SC I494a A494a := f502
                        replace f503 : m_TR lo496 I494a A494a := f503
                        replace f504 : m_ST lo I A lo496 I494a A494a := f504
                        replace f505 : (fun k => k = 14) ((A494a 53) (v495)) := f505
                        replace f506 : m_rt lo496 (I494a 3905) v495 := f506
                        replace f507 : m_RK lo496 (I 3905) (I494a 3905) (8 * (24 - (I 2775)) + 0) := f507
                        have tk537 : m_TK I494a A494a := m_TK_fx f500 hTK
                        have nn538 : (I 3905) ≤ (I494a 3905) := by omega
                        have nz539 : 0 ≤ (I 3905) := by first | assumption | omega
                        have ho540 : (I 2775) = (I 2775) + (0) := by omega
                        have rk542 : m_RK lo496 (I 3905) (I494a 3905) (8 * (24 - (I 2775)) + (0)) := m_RK_app (I := I) (I' := I494a) (R := (8 * (24 - (I 2775)) + (0))) (show m_RK lo (I 3905) (I 3905) (8 * (24 - (I 2775)) + (0)) from fun q q1 q2 => by omega) f504 f507 (show 0 ≤ (I 3905) by first | assumption | omega) (m_r8 (by decide)) (m_r8o (k := 0) ho540 (by decide))
                        have s541 : m_ST lo I A lo496 I494a A494a := f504
                        have k543 : m_kd lo496 I494a A494a (I 3905) (8 * (24 - (I 2775)) + 0) v495 (fun k => k = 14) := m_kd_of (I := I) f504 f503 nz539 (show (I 3905) ≤ v495 by first | assumption | omega) (show v495 < (I494a 3905) by omega) f505 f507
                        obtain ⟨j544, j545, j546, j547, j548⟩ := k543.1
                        show w_W _ _ _ (208, [(1, .int (Int32.ofInt ((A 45) ((I 2774))))), (0, .ref 43)], [.int (Int32.ofInt (v495))], M493) _
                        refine w_fin (r := .inl (some (v495))) (M' := M493) rfl ?_
                        exact Or.inl ⟨v495, lo496, I494a, A494a, B494a, C494a, rfl, ⟨by omega, by omega⟩, hR494a, (show m_fx I A I494a A494a by exact f500), (show ((0 ≤ (I494a 2774) ∧ (I494a 2774) < (I494a 2754) ∧ (I494a 2754) ≤ 1501 ∧ 0 ≤ (I494a 2775) ∧ (I494a 2775) ≤ 24) ∧ ((I494a 3393) = (I494a 3905) ∧ (I494a 3521) = (I494a 3905) ∧ (I494a 3649) = (I494a 3905) ∧ (I494a 3777) = (I494a 3905) ∧ 0 ≤ (I494a 3905) ∧ (I494a 3905) ≤ 3 * (I494a 2774)) ∧ ((I494a 4161) = (I494a 4033) ∧ 7 ≤ (I494a 4289) ∧ (I494a 4289) ≤ (I494a 4033) ∧ (I494a 4033) ≤ 7 + (I494a 2774)) ∧ 0 ≤ (I494a 5889) ∧ (I494a 5889) ≤ (I494a 2774)) ∧ ((I494a 2754) = (I 2754) ∧ (I 2774) + 1 ≤ (I494a 2774) ∧ (I494a 2775) = (I 2775) ∧ (I494a 4289) = (I 4289) + 0 ∧ (I494a 5889) = (I 5889)) ∧ ((I494a 3905) + 2 ≤ (I 3905) + 3 * ((I494a 2774) - (I 2774)) ∧ (I 3905) ≤ v495 ∧ v495 + 1 = (I494a 3905) ∧ (I 4033) ≤ (I494a 4033) ∧ (I494a 4033) ≤ (I 4033) + ((I494a 2774) - (I 2774))) by (repeat' apply And.intro) <;> first | assumption | omega), (show m_SC I494a A494a by exact f502), (show m_TR lo496 I494a A494a by exact f503), (show m_ST lo I A lo496 I494a A494a by exact s541), (show t_E ((A494a 53) (v495)) by exact ((m_kd_K k543 (fun k h => by have h : k = 14 := h; unfold t_E; omega))).2), (show m_rt lo496 (I494a 3905) v495 by exact f506), (show m_RK lo496 (I 3905) (I494a 3905) (8 * (24 - (I 2775)) + 0) by exact m_RK_le (show m_RK lo496 (I 3905) (I494a 3905) (8 * (24 - (I 2775)) + (0)) from rk542) (show (8 * (24 - (I 2775)) + (0)) ≤ 8 * (24 - (I 2775)) + 0 by omega))⟩
                      · rw [e508]
                        replace hR494b : w_Rep w_TM fr X u l I494b A494b B494b C494b M493 := hR494b
                        replace f509 : m_fx I A I494b A494b := f509
                        exact Or.inr (⟨I494b, A494b, B494b, C494b, rfl, hR494b, (show m_fx I A I494b A494b by exact f509)⟩)
                    · rw [e486, e487]
                      replace f488 : ¬ ((A 45) ((I 2774)) = 5 ∧ (A 46) ((I 2774)) = 1) := f488
                      show w_W _ _ _ (200, [(1, .int (Int32.ofInt ((A 45) ((I 2774))))), (0, .ref 43)], [.int (Int32.ofInt (0))], M) _
                      refine w_adv (n := 3) (F' := (211, [(1, .int (Int32.ofInt ((A 45) ((I 2774))))), (0, .ref 43)], [.int (Int32.ofInt (4)), .ref 43], M)) rfl ?_
                      refine w_call (cm := 231) (as := [(0, .ref 43), (1, .int (Int32.ofInt (4)))]) (rest := []) (o := some (9, 43)) rfl (w_fitR hR rfl) (m_isWord (4) hR ⟨by omega, by omega⟩ (show 0 ≤ (I 2774) ∧ (I 2774) < 1501 by omega)) (fun r549 M550 q551 => ?_)
                      rcases q551 with ⟨e552, e553, f554⟩ | ⟨e555, e556, f557⟩
                      · rw [e552, e553]
                        replace f554 : (A 45) ((I 2774)) = 5 ∧ (A 46) ((I 2774)) = 4 := f554
                        obtain ⟨n558, n559⟩ := id f554
                        clear f554
                        have w560 : (I 2774) + 1 < (I 2754) := m_TK_lt hTK (show (I 2774) < (I 2754) by omega) (show 1 ≤ (A 45) ((I 2774)) by omega) (show (A 45) ((I 2774)) ≤ 6 by omega)
                        show w_W _ _ _ (214, [(1, .int (Int32.ofInt ((A 45) ((I 2774))))), (0, .ref 43)], [.int (Int32.ofInt (1))], M) _
                        refine w_adv (n := 3) (F' := (219, [(1, .int (Int32.ofInt ((A 45) ((I 2774))))), (0, .ref 43)], [.int (Int32.ofInt (1)), .ref 43], M)) rfl ?_
                        refine w_call (cm := 268) (as := [(0, .ref 43), (1, .int (Int32.ofInt (1)))]) (rest := []) (o := some (9, 43)) rfl (w_fitR hR rfl) (m_choice hA (1) (lo) hR (show 20 * (24 - (I 2775)) + 11 ≤ (d : Int) by omega) ⟨by omega, by omega⟩ (show m_TK I A by exact hTK) (show (0 ≤ (I 2774) ∧ (I 2774) < (I 2754) ∧ (I 2754) ≤ 1501 ∧ 0 ≤ (I 2775) ∧ (I 2775) ≤ 24) ∧ ((I 3393) = (I 3905) ∧ (I 3521) = (I 3905) ∧ (I 3649) = (I 3905) ∧ (I 3777) = (I 3905) ∧ 0 ≤ (I 3905) ∧ (I 3905) ≤ 3 * (I 2774)) ∧ ((I 4161) = (I 4033) ∧ 7 ≤ (I 4289) ∧ (I 4289) ≤ (I 4033) ∧ (I 4033) ≤ 7 + (I 2774)) ∧ 0 ≤ (I 5889) ∧ (I 5889) ≤ (I 2774) by (repeat' apply And.intro) <;> first | assumption | omega) (show m_SC I A by exact hSC) (show m_TR lo I A by exact hTR) (show 1 ≤ (A 45) ((I 2774)) ∧ (A 45) ((I 2774)) ≤ 6 by first | assumption | omega) (show (I 2754) - (I 2774) ≤ N by first | assumption | omega)) (fun r561 M562 q563 => ?_)
                        rcases q563 with ⟨v564, lo565, I563a, A563a, B563a, C563a, e566, ⟨r567, r568⟩, hR563a, f569, f570, f571, f572, f573, f574, f575, f576⟩ | ⟨I563b, A563b, B563b, C563b, e577, hR563b, f578⟩
                        · rw [e566]
                          replace hR563a : w_Rep w_TM fr X u l I563a A563a B563a C563a M562 := hR563a
                          replace f569 : m_fx I A I563a A563a := f569
                          replace f570 : ((0 ≤ (I563a 2774) ∧ (I563a 2774) < (I563a 2754) ∧ (I563a 2754) ≤ 1501 ∧ 0 ≤ (I563a 2775) ∧ (I563a 2775) ≤ 24) ∧ ((I563a 3393) = (I563a 3905) ∧ (I563a 3521) = (I563a 3905) ∧ (I563a 3649) = (I563a 3905) ∧ (I563a 3777) = (I563a 3905) ∧ 0 ≤ (I563a 3905) ∧ (I563a 3905) ≤ 3 * (I563a 2774)) ∧ ((I563a 4161) = (I563a 4033) ∧ 7 ≤ (I563a 4289) ∧ (I563a 4289) ≤ (I563a 4033) ∧ (I563a 4033) ≤ 7 + (I563a 2774)) ∧ 0 ≤ (I563a 5889) ∧ (I563a 5889) ≤ (I563a 2774)) ∧ ((I563a 2754) = (I 2754) ∧ (I 2774) + 1 ≤ (I563a 2774) ∧ (I563a 2775) = (I 2775) ∧ (I563a 4289) = (I 4289) + 0 ∧ (I563a 5889) = (I 5889)) ∧ ((I563a 3905) + 2 ≤ (I 3905) + 3 * ((I563a 2774) - (I 2774)) ∧ (I 3905) ≤ v564 ∧ v564 + 1 = (I563a 3905) ∧ (I 4033) ≤ (I563a 4033) ∧ (I563a 4033) ≤ (I 4033) + ((I563a 2774) - (I 2774))) := f570
                          obtain ⟨⟨⟨n579, n580, n581, n582, n583⟩, ⟨n584, n585, n586, n587, n588, n589⟩, ⟨n590, n591, n592, n593⟩, n594, n595⟩, ⟨n596, n597, n598, n599, n600⟩, ⟨n601, n602, n603, n604, n605⟩⟩ := id f570
                          clear f570
                          replace f571 : m_SC I563a A563a := f571
                          replace f572 : m_TR lo565 I563a A563a := f572
                          replace f573 : m_ST lo I A lo565 I563a A563a := f573
                          replace f574 : (fun k => k = 15) ((A563a 53) (v564)) := f574
                          replace f575 : m_rt lo565 (I563a 3905) v564 := f575
                          replace f576 : m_RK lo565 (I 3905) (I563a 3905) (8 * (24 - (I 2775)) + 0) := f576
                          have tk606 : m_TK I563a A563a := m_TK_fx f569 hTK
                          have nn607 : (I 3905) ≤ (I563a 3905) := by omega
                          have nz608 : 0 ≤ (I 3905) := by first | assumption | omega
                          have ho609 : (I 2775) = (I 2775) + (0) := by omega
                          have rk611 : m_RK lo565 (I 3905) (I563a 3905) (8 * (24 - (I 2775)) + (0)) := m_RK_app (I := I) (I' := I563a) (R := (8 * (24 - (I 2775)) + (0))) (show m_RK lo (I 3905) (I 3905) (8 * (24 - (I 2775)) + (0)) from fun q q1 q2 => by omega) f573 f576 (show 0 ≤ (I 3905) by first | assumption | omega) (m_r8 (by decide)) (m_r8o (k := 0) ho609 (by decide))
                          have s610 : m_ST lo I A lo565 I563a A563a := f573
                          have k612 : m_kd lo565 I563a A563a (I 3905) (8 * (24 - (I 2775)) + 0) v564 (fun k => k = 15) := m_kd_of (I := I) f573 f572 nz608 (show (I 3905) ≤ v564 by first | assumption | omega) (show v564 < (I563a 3905) by omega) f574 f576
                          obtain ⟨j613, j614, j615, j616, j617⟩ := k612.1
                          show w_W _ _ _ (222, [(1, .int (Int32.ofInt ((A 45) ((I 2774))))), (0, .ref 43)], [.int (Int32.ofInt (v564))], M562) _
                          refine w_fin (r := .inl (some (v564))) (M' := M562) rfl ?_
                          exact Or.inl ⟨v564, lo565, I563a, A563a, B563a, C563a, rfl, ⟨by omega, by omega⟩, hR563a, (show m_fx I A I563a A563a by exact f569), (show ((0 ≤ (I563a 2774) ∧ (I563a 2774) < (I563a 2754) ∧ (I563a 2754) ≤ 1501 ∧ 0 ≤ (I563a 2775) ∧ (I563a 2775) ≤ 24) ∧ ((I563a 3393) = (I563a 3905) ∧ (I563a 3521) = (I563a 3905) ∧ (I563a 3649) = (I563a 3905) ∧ (I563a 3777) = (I563a 3905) ∧ 0 ≤ (I563a 3905) ∧ (I563a 3905) ≤ 3 * (I563a 2774)) ∧ ((I563a 4161) = (I563a 4033) ∧ 7 ≤ (I563a 4289) ∧ (I563a 4289) ≤ (I563a 4033) ∧ (I563a 4033) ≤ 7 + (I563a 2774)) ∧ 0 ≤ (I563a 5889) ∧ (I563a 5889) ≤ (I563a 2774)) ∧ ((I563a 2754) = (I 2754) ∧ (I 2774) + 1 ≤ (I563a 2774) ∧ (I563a 2775) = (I 2775) ∧ (I563a 4289) = (I 4289) + 0 ∧ (I563a 5889) = (I 5889)) ∧ ((I563a 3905) + 2 ≤ (I 3905) + 3 * ((I563a 2774) - (I 2774)) ∧ (I 3905) ≤ v564 ∧ v564 + 1 = (I563a 3905) ∧ (I 4033) ≤ (I563a 4033) ∧ (I563a 4033) ≤ (I 4033) + ((I563a 2774) - (I 2774))) by (repeat' apply And.intro) <;> first | assumption | omega), (show m_SC I563a A563a by exact f571), (show m_TR lo565 I563a A563a by exact f572), (show m_ST lo I A lo565 I563a A563a by exact s610), (show t_E ((A563a 53) (v564)) by exact ((m_kd_K k612 (fun k h => by have h : k = 15 := h; unfold t_E; omega))).2), (show m_rt lo565 (I563a 3905) v564 by exact f575), (show m_RK lo565 (I 3905) (I563a 3905) (8 * (24 - (I 2775)) + 0) by exact m_RK_le (show m_RK lo565 (I 3905) (I563a 3905) (8 * (24 - (I 2775)) + (0)) from rk611) (show (8 * (24 - (I 2775)) + (0)) ≤ 8 * (24 - (I 2775)) + 0 by omega))⟩
                        · rw [e577]
                          replace hR563b : w_Rep w_TM fr X u l I563b A563b B563b C563b M562 := hR563b
                          replace f578 : m_fx I A I563b A563b := f578
                          exact Or.inr (⟨I563b, A563b, B563b, C563b, rfl, hR563b, (show m_fx I A I563b A563b by exact f578)⟩)
                      · rw [e555, e556]
                        replace f557 : ¬ ((A 45) ((I 2774)) = 5 ∧ (A 46) ((I 2774)) = 4) := f557
                        show w_W _ _ _ (214, [(1, .int (Int32.ofInt ((A 45) ((I 2774))))), (0, .ref 43)], [.int (Int32.ofInt (0))], M) _
                        refine w_adv (n := 3) (F' := (226, [(1, .int (Int32.ofInt ((A 45) ((I 2774))))), (0, .ref 43)], [.int (Int32.ofInt (7)), .ref 43], M)) rfl ?_
                        refine w_call (cm := 231) (as := [(0, .ref 43), (1, .int (Int32.ofInt (7)))]) (rest := []) (o := some (9, 43)) rfl (w_fitR hR rfl) (m_isWord (7) hR ⟨by omega, by omega⟩ (show 0 ≤ (I 2774) ∧ (I 2774) < 1501 by omega)) (fun r618 M619 q620 => ?_)
                        rcases q620 with ⟨e621, e622, f623⟩ | ⟨e624, e625, f626⟩
                        · rw [e621, e622]
                          replace f623 : (A 45) ((I 2774)) = 5 ∧ (A 46) ((I 2774)) = 7 := f623
                          obtain ⟨n627, n628⟩ := id f623
                          clear f623
                          have w629 : (I 2774) + 1 < (I 2754) := m_TK_lt hTK (show (I 2774) < (I 2754) by omega) (show 1 ≤ (A 45) ((I 2774)) by omega) (show (A 45) ((I 2774)) ≤ 6 by omega)
                          show w_W _ _ _ (229, [(1, .int (Int32.ofInt ((A 45) ((I 2774))))), (0, .ref 43)], [.int (Int32.ofInt (1))], M) _
                          refine w_adv (n := 3) (F' := (234, [(1, .int (Int32.ofInt ((A 45) ((I 2774))))), (0, .ref 43)], [.int (Int32.ofInt (1)), .ref 43], M)) rfl ?_
                          refine w_call (cm := 269) (as := [(0, .ref 43), (1, .int (Int32.ofInt (1)))]) (rest := []) (o := some (9, 43)) rfl (w_fitR hR rfl) (m_cases hA (1) (lo) hR (show 20 * (24 - (I 2775)) + 11 ≤ (d : Int) by omega) ⟨by omega, by omega⟩ (show m_TK I A by exact hTK) (show (0 ≤ (I 2774) ∧ (I 2774) < (I 2754) ∧ (I 2754) ≤ 1501 ∧ 0 ≤ (I 2775) ∧ (I 2775) ≤ 24) ∧ ((I 3393) = (I 3905) ∧ (I 3521) = (I 3905) ∧ (I 3649) = (I 3905) ∧ (I 3777) = (I 3905) ∧ 0 ≤ (I 3905) ∧ (I 3905) ≤ 3 * (I 2774)) ∧ ((I 4161) = (I 4033) ∧ 7 ≤ (I 4289) ∧ (I 4289) ≤ (I 4033) ∧ (I 4033) ≤ 7 + (I 2774)) ∧ 0 ≤ (I 5889) ∧ (I 5889) ≤ (I 2774) by (repeat' apply And.intro) <;> first | assumption | omega) (show m_SC I A by exact hSC) (show m_TR lo I A by exact hTR) (show 1 ≤ (A 45) ((I 2774)) ∧ (A 45) ((I 2774)) ≤ 6 by first | assumption | omega) (show (I 2754) - (I 2774) ≤ N by first | assumption | omega)) (fun r630 M631 q632 => ?_)
                          rcases q632 with ⟨v633, lo634, I632a, A632a, B632a, C632a, e635, ⟨r636, r637⟩, hR632a, f638, f639, f640, f641, f642, f643, f644, f645⟩ | ⟨I632b, A632b, B632b, C632b, e646, hR632b, f647⟩
                          · rw [e635]
                            replace hR632a : w_Rep w_TM fr X u l I632a A632a B632a C632a M631 := hR632a
                            replace f638 : m_fx I A I632a A632a := f638
                            replace f639 : ((0 ≤ (I632a 2774) ∧ (I632a 2774) < (I632a 2754) ∧ (I632a 2754) ≤ 1501 ∧ 0 ≤ (I632a 2775) ∧ (I632a 2775) ≤ 24) ∧ ((I632a 3393) = (I632a 3905) ∧ (I632a 3521) = (I632a 3905) ∧ (I632a 3649) = (I632a 3905) ∧ (I632a 3777) = (I632a 3905) ∧ 0 ≤ (I632a 3905) ∧ (I632a 3905) ≤ 3 * (I632a 2774)) ∧ ((I632a 4161) = (I632a 4033) ∧ 7 ≤ (I632a 4289) ∧ (I632a 4289) ≤ (I632a 4033) ∧ (I632a 4033) ≤ 7 + (I632a 2774)) ∧ 0 ≤ (I632a 5889) ∧ (I632a 5889) ≤ (I632a 2774)) ∧ ((I632a 2754) = (I 2754) ∧ (I 2774) + 1 ≤ (I632a 2774) ∧ (I632a 2775) = (I 2775) ∧ (I632a 4289) = (I 4289) + 0 ∧ (I632a 5889) = (I 5889)) ∧ ((I632a 3905) + 2 ≤ (I 3905) + 3 * ((I632a 2774) - (I 2774)) ∧ (I 3905) ≤ v633 ∧ v633 + 1 = (I632a 3905) ∧ (I 4033) ≤ (I632a 4033) ∧ (I632a 4033) ≤ (I 4033) + ((I632a 2774) - (I 2774))) := f639
                            obtain ⟨⟨⟨n648, n649, n650, n651, n652⟩, ⟨n653, n654, n655, n656, n657, n658⟩, ⟨n659, n660, n661, n662⟩, n663, n664⟩, ⟨n665, n666, n667, n668, n669⟩, ⟨n670, n671, n672, n673, n674⟩⟩ := id f639
                            clear f639
                            replace f640 : m_SC I632a A632a := f640
                            replace f641 : m_TR lo634 I632a A632a := f641
                            replace f642 : m_ST lo I A lo634 I632a A632a := f642
                            replace f643 : (fun k => k = 16) ((A632a 53) (v633)) := f643
                            replace f644 : m_rt lo634 (I632a 3905) v633 := f644
                            replace f645 : m_RK lo634 (I 3905) (I632a 3905) (8 * (24 - (I 2775)) + 0) := f645
                            have tk675 : m_TK I632a A632a := m_TK_fx f638 hTK
                            have nn676 : (I 3905) ≤ (I632a 3905) := by omega
                            have nz677 : 0 ≤ (I 3905) := by first | assumption | omega
                            have ho678 : (I 2775) = (I 2775) + (0) := by omega
                            have rk680 : m_RK lo634 (I 3905) (I632a 3905) (8 * (24 - (I 2775)) + (0)) := m_RK_app (I := I) (I' := I632a) (R := (8 * (24 - (I 2775)) + (0))) (show m_RK lo (I 3905) (I 3905) (8 * (24 - (I 2775)) + (0)) from fun q q1 q2 => by omega) f642 f645 (show 0 ≤ (I 3905) by first | assumption | omega) (m_r8 (by decide)) (m_r8o (k := 0) ho678 (by decide))
                            have s679 : m_ST lo I A lo634 I632a A632a := f642
                            have k681 : m_kd lo634 I632a A632a (I 3905) (8 * (24 - (I 2775)) + 0) v633 (fun k => k = 16) := m_kd_of (I := I) f642 f641 nz677 (show (I 3905) ≤ v633 by first | assumption | omega) (show v633 < (I632a 3905) by omega) f643 f645
                            obtain ⟨j682, j683, j684, j685, j686⟩ := k681.1
                            show w_W _ _ _ (237, [(1, .int (Int32.ofInt ((A 45) ((I 2774))))), (0, .ref 43)], [.int (Int32.ofInt (v633))], M631) _
                            refine w_fin (r := .inl (some (v633))) (M' := M631) rfl ?_
                            exact Or.inl ⟨v633, lo634, I632a, A632a, B632a, C632a, rfl, ⟨by omega, by omega⟩, hR632a, (show m_fx I A I632a A632a by exact f638), (show ((0 ≤ (I632a 2774) ∧ (I632a 2774) < (I632a 2754) ∧ (I632a 2754) ≤ 1501 ∧ 0 ≤ (I632a 2775) ∧ (I632a 2775) ≤ 24) ∧ ((I632a 3393) = (I632a 3905) ∧ (I632a 3521) = (I632a 3905) ∧ (I632a 3649) = (I632a 3905) ∧ (I632a 3777) = (I632a 3905) ∧ 0 ≤ (I632a 3905) ∧ (I632a 3905) ≤ 3 * (I632a 2774)) ∧ ((I632a 4161) = (I632a 4033) ∧ 7 ≤ (I632a 4289) ∧ (I632a 4289) ≤ (I632a 4033) ∧ (I632a 4033) ≤ 7 + (I632a 2774)) ∧ 0 ≤ (I632a 5889) ∧ (I632a 5889) ≤ (I632a 2774)) ∧ ((I632a 2754) = (I 2754) ∧ (I 2774) + 1 ≤ (I632a 2774) ∧ (I632a 2775) = (I 2775) ∧ (I632a 4289) = (I 4289) + 0 ∧ (I632a 5889) = (I 5889)) ∧ ((I632a 3905) + 2 ≤ (I 3905) + 3 * ((I632a 2774) - (I 2774)) ∧ (I 3905) ≤ v633 ∧ v633 + 1 = (I632a 3905) ∧ (I 4033) ≤ (I632a 4033) ∧ (I632a 4033) ≤ (I 4033) + ((I632a 2774) - (I 2774))) by (repeat' apply And.intro) <;> first | assumption | omega), (show m_SC I632a A632a by exact f640), (show m_TR lo634 I632a A632a by exact f641), (show m_ST lo I A lo634 I632a A632a by exact s679), (show t_E ((A632a 53) (v633)) by exact ((m_kd_K k681 (fun k h => by have h : k = 16 := h; unfold t_E; omega))).2), (show m_rt lo634 (I632a 3905) v633 by exact f644), (show m_RK lo634 (I 3905) (I632a 3905) (8 * (24 - (I 2775)) + 0) by exact m_RK_le (show m_RK lo634 (I 3905) (I632a 3905) (8 * (24 - (I 2775)) + (0)) from rk680) (show (8 * (24 - (I 2775)) + (0)) ≤ 8 * (24 - (I 2775)) + 0 by omega))⟩
                          · rw [e646]
                            replace hR632b : w_Rep w_TM fr X u l I632b A632b B632b C632b M631 := hR632b
                            replace f647 : m_fx I A I632b A632b := f647
                            exact Or.inr (⟨I632b, A632b, B632b, C632b, rfl, hR632b, (show m_fx I A I632b A632b by exact f647)⟩)
                        · rw [e624, e625]
                          replace f626 : ¬ ((A 45) ((I 2774)) = 5 ∧ (A 46) ((I 2774)) = 7) := f626
                          show w_W _ _ _ (229, [(1, .int (Int32.ofInt ((A 45) ((I 2774))))), (0, .ref 43)], [.int (Int32.ofInt (0))], M) _
                          refine w_adv (n := 3) (F' := (241, [(1, .int (Int32.ofInt ((A 45) ((I 2774))))), (0, .ref 43)], [.int (Int32.ofInt (12)), .ref 43], M)) rfl ?_
                          refine w_call (cm := 231) (as := [(0, .ref 43), (1, .int (Int32.ofInt (12)))]) (rest := []) (o := some (9, 43)) rfl (w_fitR hR rfl) (m_isWord (12) hR ⟨by omega, by omega⟩ (show 0 ≤ (I 2774) ∧ (I 2774) < 1501 by omega)) (fun r687 M688 q689 => ?_)
                          rcases q689 with ⟨e690, e691, f692⟩ | ⟨e693, e694, f695⟩
                          · rw [e690, e691]
                            replace f692 : (A 45) ((I 2774)) = 5 ∧ (A 46) ((I 2774)) = 12 := f692
                            obtain ⟨n696, n697⟩ := id f692
                            clear f692
                            have w698 : (I 2774) + 1 < (I 2754) := m_TK_lt hTK (show (I 2774) < (I 2754) by omega) (show 1 ≤ (A 45) ((I 2774)) by omega) (show (A 45) ((I 2774)) ≤ 6 by omega)
                            show w_W _ _ _ (244, [(1, .int (Int32.ofInt ((A 45) ((I 2774))))), (0, .ref 43)], [.int (Int32.ofInt (1))], M) _
                            refine w_adv (n := 3) (F' := (249, [(1, .int (Int32.ofInt ((A 45) ((I 2774))))), (0, .ref 43)], [.int (Int32.ofInt (1)), .ref 43], M)) rfl ?_
                            refine w_call (cm := 272) (as := [(0, .ref 43), (1, .int (Int32.ofInt (1)))]) (rest := []) (o := some (9, 43)) rfl (w_fitR hR rfl) (m_thread hA (1) (lo) hR (show 20 * (24 - (I 2775)) + 11 ≤ (d : Int) by omega) ⟨by omega, by omega⟩ (show m_TK I A by exact hTK) (show (0 ≤ (I 2774) ∧ (I 2774) < (I 2754) ∧ (I 2754) ≤ 1501 ∧ 0 ≤ (I 2775) ∧ (I 2775) ≤ 24) ∧ ((I 3393) = (I 3905) ∧ (I 3521) = (I 3905) ∧ (I 3649) = (I 3905) ∧ (I 3777) = (I 3905) ∧ 0 ≤ (I 3905) ∧ (I 3905) ≤ 3 * (I 2774)) ∧ ((I 4161) = (I 4033) ∧ 7 ≤ (I 4289) ∧ (I 4289) ≤ (I 4033) ∧ (I 4033) ≤ 7 + (I 2774)) ∧ 0 ≤ (I 5889) ∧ (I 5889) ≤ (I 2774) by (repeat' apply And.intro) <;> first | assumption | omega) (show m_SC I A by exact hSC) (show m_TR lo I A by exact hTR) (show 1 ≤ (A 45) ((I 2774)) ∧ (A 45) ((I 2774)) ≤ 6 by first | assumption | omega) (show (I 2754) - (I 2774) ≤ N by first | assumption | omega)) (fun r699 M700 q701 => ?_)
                            rcases q701 with ⟨v702, lo703, I701a, A701a, B701a, C701a, e704, ⟨r705, r706⟩, hR701a, f707, f708, f709, f710, f711, f712, f713, f714⟩ | ⟨I701b, A701b, B701b, C701b, e715, hR701b, f716⟩
                            · rw [e704]
                              replace hR701a : w_Rep w_TM fr X u l I701a A701a B701a C701a M700 := hR701a
                              replace f707 : m_fx I A I701a A701a := f707
                              replace f708 : ((0 ≤ (I701a 2774) ∧ (I701a 2774) < (I701a 2754) ∧ (I701a 2754) ≤ 1501 ∧ 0 ≤ (I701a 2775) ∧ (I701a 2775) ≤ 24) ∧ ((I701a 3393) = (I701a 3905) ∧ (I701a 3521) = (I701a 3905) ∧ (I701a 3649) = (I701a 3905) ∧ (I701a 3777) = (I701a 3905) ∧ 0 ≤ (I701a 3905) ∧ (I701a 3905) ≤ 3 * (I701a 2774)) ∧ ((I701a 4161) = (I701a 4033) ∧ 7 ≤ (I701a 4289) ∧ (I701a 4289) ≤ (I701a 4033) ∧ (I701a 4033) ≤ 7 + (I701a 2774)) ∧ 0 ≤ (I701a 5889) ∧ (I701a 5889) ≤ (I701a 2774)) ∧ ((I701a 2754) = (I 2754) ∧ (I 2774) + 1 ≤ (I701a 2774) ∧ (I701a 2775) = (I 2775) ∧ (I701a 4289) = (I 4289) + 0 ∧ (I701a 5889) = (I 5889)) ∧ ((I701a 3905) + 2 ≤ (I 3905) + 3 * ((I701a 2774) - (I 2774)) ∧ (I 3905) ≤ v702 ∧ v702 + 1 = (I701a 3905) ∧ (I 4033) ≤ (I701a 4033) ∧ (I701a 4033) ≤ (I 4033) + ((I701a 2774) - (I 2774))) := f708
                              obtain ⟨⟨⟨n717, n718, n719, n720, n721⟩, ⟨n722, n723, n724, n725, n726, n727⟩, ⟨n728, n729, n730, n731⟩, n732, n733⟩, ⟨n734, n735, n736, n737, n738⟩, ⟨n739, n740, n741, n742, n743⟩⟩ := id f708
                              clear f708
                              replace f709 : m_SC I701a A701a := f709
                              replace f710 : m_TR lo703 I701a A701a := f710
                              replace f711 : m_ST lo I A lo703 I701a A701a := f711
                              replace f712 : (fun k => k = 18) ((A701a 53) (v702)) := f712
                              replace f713 : m_rt lo703 (I701a 3905) v702 := f713
                              replace f714 : m_RK lo703 (I 3905) (I701a 3905) (8 * (24 - (I 2775)) + 0) := f714
                              have tk744 : m_TK I701a A701a := m_TK_fx f707 hTK
                              have nn745 : (I 3905) ≤ (I701a 3905) := by omega
                              have nz746 : 0 ≤ (I 3905) := by first | assumption | omega
                              have ho747 : (I 2775) = (I 2775) + (0) := by omega
                              have rk749 : m_RK lo703 (I 3905) (I701a 3905) (8 * (24 - (I 2775)) + (0)) := m_RK_app (I := I) (I' := I701a) (R := (8 * (24 - (I 2775)) + (0))) (show m_RK lo (I 3905) (I 3905) (8 * (24 - (I 2775)) + (0)) from fun q q1 q2 => by omega) f711 f714 (show 0 ≤ (I 3905) by first | assumption | omega) (m_r8 (by decide)) (m_r8o (k := 0) ho747 (by decide))
                              have s748 : m_ST lo I A lo703 I701a A701a := f711
                              have k750 : m_kd lo703 I701a A701a (I 3905) (8 * (24 - (I 2775)) + 0) v702 (fun k => k = 18) := m_kd_of (I := I) f711 f710 nz746 (show (I 3905) ≤ v702 by first | assumption | omega) (show v702 < (I701a 3905) by omega) f712 f714
                              obtain ⟨j751, j752, j753, j754, j755⟩ := k750.1
                              show w_W _ _ _ (252, [(1, .int (Int32.ofInt ((A 45) ((I 2774))))), (0, .ref 43)], [.int (Int32.ofInt (v702))], M700) _
                              refine w_fin (r := .inl (some (v702))) (M' := M700) rfl ?_
                              exact Or.inl ⟨v702, lo703, I701a, A701a, B701a, C701a, rfl, ⟨by omega, by omega⟩, hR701a, (show m_fx I A I701a A701a by exact f707), (show ((0 ≤ (I701a 2774) ∧ (I701a 2774) < (I701a 2754) ∧ (I701a 2754) ≤ 1501 ∧ 0 ≤ (I701a 2775) ∧ (I701a 2775) ≤ 24) ∧ ((I701a 3393) = (I701a 3905) ∧ (I701a 3521) = (I701a 3905) ∧ (I701a 3649) = (I701a 3905) ∧ (I701a 3777) = (I701a 3905) ∧ 0 ≤ (I701a 3905) ∧ (I701a 3905) ≤ 3 * (I701a 2774)) ∧ ((I701a 4161) = (I701a 4033) ∧ 7 ≤ (I701a 4289) ∧ (I701a 4289) ≤ (I701a 4033) ∧ (I701a 4033) ≤ 7 + (I701a 2774)) ∧ 0 ≤ (I701a 5889) ∧ (I701a 5889) ≤ (I701a 2774)) ∧ ((I701a 2754) = (I 2754) ∧ (I 2774) + 1 ≤ (I701a 2774) ∧ (I701a 2775) = (I 2775) ∧ (I701a 4289) = (I 4289) + 0 ∧ (I701a 5889) = (I 5889)) ∧ ((I701a 3905) + 2 ≤ (I 3905) + 3 * ((I701a 2774) - (I 2774)) ∧ (I 3905) ≤ v702 ∧ v702 + 1 = (I701a 3905) ∧ (I 4033) ≤ (I701a 4033) ∧ (I701a 4033) ≤ (I 4033) + ((I701a 2774) - (I 2774))) by (repeat' apply And.intro) <;> first | assumption | omega), (show m_SC I701a A701a by exact f709), (show m_TR lo703 I701a A701a by exact f710), (show m_ST lo I A lo703 I701a A701a by exact s748), (show t_E ((A701a 53) (v702)) by exact ((m_kd_K k750 (fun k h => by have h : k = 18 := h; unfold t_E; omega))).2), (show m_rt lo703 (I701a 3905) v702 by exact f713), (show m_RK lo703 (I 3905) (I701a 3905) (8 * (24 - (I 2775)) + 0) by exact m_RK_le (show m_RK lo703 (I 3905) (I701a 3905) (8 * (24 - (I 2775)) + (0)) from rk749) (show (8 * (24 - (I 2775)) + (0)) ≤ 8 * (24 - (I 2775)) + 0 by omega))⟩
                            · rw [e715]
                              replace hR701b : w_Rep w_TM fr X u l I701b A701b B701b C701b M700 := hR701b
                              replace f716 : m_fx I A I701b A701b := f716
                              exact Or.inr (⟨I701b, A701b, B701b, C701b, rfl, hR701b, (show m_fx I A I701b A701b by exact f716)⟩)
                          · rw [e693, e694]
                            replace f695 : ¬ ((A 45) ((I 2774)) = 5 ∧ (A 46) ((I 2774)) = 12) := f695
                            show w_W _ _ _ (244, [(1, .int (Int32.ofInt ((A 45) ((I 2774))))), (0, .ref 43)], [.int (Int32.ofInt (0))], M) _
                            refine w_adv (n := 3) (F' := (255, [(1, .int (Int32.ofInt ((A 45) ((I 2774))))), (0, .ref 43)], [.int (Int32.ofInt (1)), .ref 43], M)) rfl ?_
                            refine w_call (cm := 232) (as := [(0, .ref 43), (1, .int (Int32.ofInt (1)))]) (rest := []) (o := some (9, 43)) rfl (w_fitR hR rfl) (m_fail (1) hR ⟨by omega, by omega⟩ (show 0 ≤ (I 2774) ∧ (I 2774) < 1501 by omega) (show 1 ≤ 1 ∧ 1 ≤ 7 by first | assumption | omega)) (fun r756 M757 q758 => ?_)
                            rcases q758 with ⟨I758a, A758a, B758a, C758a, e759, hR758a, f760⟩
                            rw [e759]
                            replace hR758a : w_Rep w_TM fr X u l I758a A758a B758a C758a M757 := hR758a
                            replace f760 : m_fx I A I758a A758a := f760
                            exact Or.inr (⟨I758a, A758a, B758a, C758a, rfl, hR758a, (show m_fx I A I758a A758a by exact f760)⟩)
        · have h74 : ¬ (¬ (A 45) ((I 2774)) = 2) := h74
          have w761 : (I 2774) + 1 < (I 2754) := m_TK_lt hTK (show (I 2774) < (I 2754) by omega) (show 1 ≤ (A 45) ((I 2774)) by omega) (show (A 45) ((I 2774)) ≤ 6 by omega)
          show w_W _ _ _ (73, [(1, .int (Int32.ofInt ((A 45) ((I 2774))))), (0, .ref 43)], [], M) _
          refine w_adv (n := 1) (F' := (74, [(1, .int (Int32.ofInt ((A 45) ((I 2774))))), (0, .ref 43)], [.ref 43], M)) rfl ?_
          refine w_call (cm := 262) (as := [(0, .ref 43)]) (rest := []) (o := some (9, 43)) rfl (w_fitR hR rfl) (m_used hR (show 3 ≤ d by omega) (show (0 ≤ (I 2774) ∧ (I 2774) < (I 2754) ∧ (I 2754) ≤ 1501 ∧ 0 ≤ (I 2775) ∧ (I 2775) ≤ 24) ∧ ((I 3393) = (I 3905) ∧ (I 3521) = (I 3905) ∧ (I 3649) = (I 3905) ∧ (I 3777) = (I 3905) ∧ 0 ≤ (I 3905) ∧ (I 3905) ≤ 3 * (I 2774)) ∧ ((I 4161) = (I 4033) ∧ 7 ≤ (I 4289) ∧ (I 4289) ≤ (I 4033) ∧ (I 4033) ≤ 7 + (I 2774)) ∧ 0 ≤ (I 5889) ∧ (I 5889) ≤ (I 2774) by (repeat' apply And.intro) <;> first | assumption | omega) (show m_SC I A by exact hSC)) (fun r762 M763 q764 => ?_)
          rcases q764 with ⟨v765, e766, ⟨r767, r768⟩, e769, f770⟩ | ⟨v771, z772, e773, ⟨r774, r775⟩, hR764b, f776⟩ | ⟨I764c, A764c, B764c, C764c, e777, hR764c, f778⟩
          · rw [e766, e769]
            replace f770 : 0 ≤ v765 ∧ v765 < (I 4033) := f770
            obtain ⟨n779, n780⟩ := id f770
            clear f770
            show w_W _ _ _ (77, [(1, .int (Int32.ofInt ((A 45) ((I 2774))))), (0, .ref 43)], [.int (Int32.ofInt (v765))], M) _
            refine w_adv (n := 3) (F' := (80, [(2, .int (Int32.ofInt (v765))), (1, .int (Int32.ofInt ((A 45) ((I 2774))))), (0, .ref 43)], [.ref 43, .ref 43], M)) rfl ?_
            refine w_gf (v := .int (Int32.ofInt ((I 2774)))) hR rfl rfl rfl rfl ?_
            refine w_adv (n := 1) (F' := (84, [(2, .int (Int32.ofInt (v765))), (1, .int (Int32.ofInt ((A 45) ((I 2774))))), (0, .ref 43)], [.int (Int32.ofInt (1)), .int (Int32.ofInt ((I 2774))), .ref 43], M)) rfl ?_
            refine w_add rfl ?_
            refine w_pf hR rfl rfl rfl rfl (show w_in ((I 2774) + 1) from ⟨by omega, by omega⟩) (fun h => absurd h (by decide)) (fun M781 hR782 => ?_)
            replace hR782 : w_Rep w_TM fr X u l (w_up I 2774 ((I 2774) + 1)) A B C M781 := hR782
            refine w_adv (n := 5) (F' := (93, [(2, .int (Int32.ofInt (v765))), (1, .int (Int32.ofInt ((A 45) ((I 2774))))), (0, .ref 43)], [.int (Int32.ofInt (0)), .int (Int32.ofInt (0)), .int (Int32.ofInt (v765)), .int (Int32.ofInt (3)), .ref 43], M781)) rfl ?_
            refine w_call (cm := 239) (as := [(0, .ref 43), (1, .int (Int32.ofInt (3))), (2, .int (Int32.ofInt (v765))), (3, .int (Int32.ofInt (0))), (4, .int (Int32.ofInt (0)))]) (rest := []) (o := some (9, 43)) rfl (w_fitR hR782 rfl) (m_node (3) (v765) (0) (0) hR782 (show 2 ≤ d by omega) ⟨by omega, by omega⟩ ⟨by omega, by omega⟩ ⟨by omega, by omega⟩ ⟨by omega, by omega⟩ (show (I 3393) = (I 3905) by first | assumption | omega) (show (I 3521) = (I 3905) by first | assumption | omega) (show (I 3649) = (I 3905) by first | assumption | omega) (show (I 3777) = (I 3905) by first | assumption | omega) (show (I 3905) < 65536 by first | assumption | omega)) (fun r783 M784 q785 => ?_)
            rcases q785 with ⟨v786, I785a, A785a, B785a, C785a, e787, ⟨r788, r789⟩, hR785a, f790, f791⟩
            rw [e787]
            replace hR785a : w_Rep w_TM fr X u l I785a A785a B785a C785a M784 := hR785a
            replace f790 : m_fx (w_up I 2774 ((I 2774) + 1)) A I785a A785a := f790
            replace f791 : m_nd (w_up I 2774 ((I 2774) + 1)) A I785a A785a v786 3 v765 0 0 := f791
            obtain ⟨⟨n792, n793, n794, n795, n796, n797⟩, ⟨n798, n799, n800, n801, n802, n803, n804⟩⟩ : (v786 = (I 3905) ∧ (I785a 3905) = (I 3905) + 1 ∧ (I785a 3393) = (I 3393) + 1 ∧ (I785a 3521) = (I 3521) + 1 ∧ (I785a 3649) = (I 3649) + 1 ∧ (I785a 3777) = (I 3777) + 1) ∧ ((I785a 2774) = (I 2774) + 1 ∧ (I785a 2754) = (I 2754) ∧ (I785a 2775) = (I 2775) ∧ (I785a 4289) = (I 4289) ∧ (I785a 4033) = (I 4033) ∧ (I785a 4161) = (I 4161) ∧ (I785a 5889) = (I 5889)) := m_nd_num f791
            have tk805 : m_TK I785a A785a := m_TK_fx f790 hTK
            have sc806 : m_SC I785a A785a := m_SC_nd f791 hSC
            have tr807 : m_TR (t_up lo v786 (I 3905) (8 * (24 - (I 2775)) + (0))) I785a A785a := m_TR_nd (show m_TR lo (w_up I 2774 ((I 2774) + 1)) A from hTR) f791 (show 0 ≤ (I 3905) by omega) (show (I 3905) ≤ v786 by omega) (m_cl_ST (I1 := I) (show m_ST lo I A lo (w_up I 2774 ((I 2774) + 1)) A from m_ST_refl) (show m_TR lo I A from hTR) (show 0 ≤ (I 3905) by omega)) (t_N_mk3 t_up_same (show 0 ≤ (I 3905) by omega) (show (I 3905) ≤ v786 by omega) (show 0 ≤ (8 * (24 - (I 2775)) + (0)) by omega) (fun q q1 q2 => by omega) ⟨by omega, by omega⟩)
            have s808 : m_ST lo I A (t_up lo v786 (I 3905) (8 * (24 - (I 2775)) + (0))) I785a A785a := m_ST_nd (l := (I 3905)) (show m_ST lo I A lo (w_up I 2774 ((I 2774) + 1)) A from m_ST_refl) f791 (show (I 3905) ≤ (I 3905) by omega) (show (I 3905) ≤ (I 3905) by omega)
            have rk809 : m_RK (t_up lo v786 (I 3905) (8 * (24 - (I 2775)) + (0))) (I 3905) (I785a 3905) (8 * (24 - (I 2775)) + (0)) := fun q q1 q2 => by rw [show q = v786 by omega, t_up_same]; exact Int.le_refl _
            have k810 : m_kd (t_up lo v786 (I 3905) (8 * (24 - (I 2775)) + (0))) I785a A785a (I 3905) (8 * (24 - (I 2775)) + (0)) v786 (fun k => k = 3) := m_kd_new f791 (show 0 ≤ (I 3905) by omega) (show (I 3905) ≤ v786 by omega) rfl
            have rt811 : m_rt (t_up lo v786 (I 3905) (8 * (24 - (I 2775)) + (0))) (I785a 3905) v786 := m_rt_new f791
            show w_W _ _ _ (96, [(2, .int (Int32.ofInt (v765))), (1, .int (Int32.ofInt ((A 45) ((I 2774))))), (0, .ref 43)], [.int (Int32.ofInt (v786))], M784) _
            refine w_fin (r := .inl (some (v786))) (M' := M784) rfl ?_
            exact Or.inl ⟨v786, (t_up lo v786 (I 3905) (8 * (24 - (I 2775)) + (0))), I785a, A785a, B785a, C785a, rfl, ⟨by omega, by omega⟩, hR785a, (show m_fx I A I785a A785a by exact f790), (show ((0 ≤ (I785a 2774) ∧ (I785a 2774) < (I785a 2754) ∧ (I785a 2754) ≤ 1501 ∧ 0 ≤ (I785a 2775) ∧ (I785a 2775) ≤ 24) ∧ ((I785a 3393) = (I785a 3905) ∧ (I785a 3521) = (I785a 3905) ∧ (I785a 3649) = (I785a 3905) ∧ (I785a 3777) = (I785a 3905) ∧ 0 ≤ (I785a 3905) ∧ (I785a 3905) ≤ 3 * (I785a 2774)) ∧ ((I785a 4161) = (I785a 4033) ∧ 7 ≤ (I785a 4289) ∧ (I785a 4289) ≤ (I785a 4033) ∧ (I785a 4033) ≤ 7 + (I785a 2774)) ∧ 0 ≤ (I785a 5889) ∧ (I785a 5889) ≤ (I785a 2774)) ∧ ((I785a 2754) = (I 2754) ∧ (I 2774) + 1 ≤ (I785a 2774) ∧ (I785a 2775) = (I 2775) ∧ (I785a 4289) = (I 4289) + 0 ∧ (I785a 5889) = (I 5889)) ∧ ((I785a 3905) + 2 ≤ (I 3905) + 3 * ((I785a 2774) - (I 2774)) ∧ (I 3905) ≤ v786 ∧ v786 + 1 = (I785a 3905) ∧ (I 4033) ≤ (I785a 4033) ∧ (I785a 4033) ≤ (I 4033) + ((I785a 2774) - (I 2774))) by (repeat' apply And.intro) <;> first | assumption | omega), (show m_SC I785a A785a by exact sc806), (show m_TR (t_up lo v786 (I 3905) (8 * (24 - (I 2775)) + (0))) I785a A785a by exact tr807), (show m_ST lo I A (t_up lo v786 (I 3905) (8 * (24 - (I 2775)) + (0))) I785a A785a by exact s808), (show t_E ((A785a 53) (v786)) by exact ((m_kd_K k810 (fun k h => by have h : k = 3 := h; unfold t_E; omega))).2), (show m_rt (t_up lo v786 (I 3905) (8 * (24 - (I 2775)) + (0))) (I785a 3905) v786 by exact rt811), (show m_RK (t_up lo v786 (I 3905) (8 * (24 - (I 2775)) + (0))) (I 3905) (I785a 3905) (8 * (24 - (I 2775)) + 0) by exact m_RK_le (show m_RK (t_up lo v786 (I 3905) (8 * (24 - (I 2775)) + (0))) (I 3905) (I785a 3905) (8 * (24 - (I 2775)) + (0)) from rk809) (show (8 * (24 - (I 2775)) + (0)) ≤ 8 * (24 - (I 2775)) + 0 by omega))⟩
          · rw [e773]
            replace hR764b : w_Rep w_TM fr X u l (w_up I 2776 (z772)) A B C M763 := hR764b
            replace f776 : 0 ≤ v771 ∧ v771 < (I 4033) := f776
            obtain ⟨n812, n813⟩ := id f776
            clear f776
            show w_W _ _ _ (77, [(1, .int (Int32.ofInt ((A 45) ((I 2774))))), (0, .ref 43)], [.int (Int32.ofInt (v771))], M763) _
            refine w_adv (n := 3) (F' := (80, [(2, .int (Int32.ofInt (v771))), (1, .int (Int32.ofInt ((A 45) ((I 2774))))), (0, .ref 43)], [.ref 43, .ref 43], M763)) rfl ?_
            refine w_gf (v := .int (Int32.ofInt ((I 2774)))) hR764b rfl rfl rfl rfl ?_
            refine w_adv (n := 1) (F' := (84, [(2, .int (Int32.ofInt (v771))), (1, .int (Int32.ofInt ((A 45) ((I 2774))))), (0, .ref 43)], [.int (Int32.ofInt (1)), .int (Int32.ofInt ((I 2774))), .ref 43], M763)) rfl ?_
            refine w_add rfl ?_
            refine w_pf hR764b rfl rfl rfl rfl (show w_in ((I 2774) + 1) from ⟨by omega, by omega⟩) (fun h => absurd h (by decide)) (fun M814 hR815 => ?_)
            replace hR815 : w_Rep w_TM fr X u l (w_up (w_up I 2776 (z772)) 2774 ((I 2774) + 1)) A B C M814 := hR815
            refine w_adv (n := 5) (F' := (93, [(2, .int (Int32.ofInt (v771))), (1, .int (Int32.ofInt ((A 45) ((I 2774))))), (0, .ref 43)], [.int (Int32.ofInt (0)), .int (Int32.ofInt (0)), .int (Int32.ofInt (v771)), .int (Int32.ofInt (3)), .ref 43], M814)) rfl ?_
            refine w_call (cm := 239) (as := [(0, .ref 43), (1, .int (Int32.ofInt (3))), (2, .int (Int32.ofInt (v771))), (3, .int (Int32.ofInt (0))), (4, .int (Int32.ofInt (0)))]) (rest := []) (o := some (9, 43)) rfl (w_fitR hR815 rfl) (m_node (3) (v771) (0) (0) hR815 (show 2 ≤ d by omega) ⟨by omega, by omega⟩ ⟨by omega, by omega⟩ ⟨by omega, by omega⟩ ⟨by omega, by omega⟩ (show (I 3393) = (I 3905) by first | assumption | omega) (show (I 3521) = (I 3905) by first | assumption | omega) (show (I 3649) = (I 3905) by first | assumption | omega) (show (I 3777) = (I 3905) by first | assumption | omega) (show (I 3905) < 65536 by first | assumption | omega)) (fun r816 M817 q818 => ?_)
            rcases q818 with ⟨v819, I818a, A818a, B818a, C818a, e820, ⟨r821, r822⟩, hR818a, f823, f824⟩
            rw [e820]
            replace hR818a : w_Rep w_TM fr X u l I818a A818a B818a C818a M817 := hR818a
            replace f823 : m_fx (w_up (w_up I 2776 (z772)) 2774 ((I 2774) + 1)) A I818a A818a := f823
            replace f824 : m_nd (w_up (w_up I 2776 (z772)) 2774 ((I 2774) + 1)) A I818a A818a v819 3 v771 0 0 := f824
            obtain ⟨⟨n825, n826, n827, n828, n829, n830⟩, ⟨n831, n832, n833, n834, n835, n836, n837⟩⟩ : (v819 = (I 3905) ∧ (I818a 3905) = (I 3905) + 1 ∧ (I818a 3393) = (I 3393) + 1 ∧ (I818a 3521) = (I 3521) + 1 ∧ (I818a 3649) = (I 3649) + 1 ∧ (I818a 3777) = (I 3777) + 1) ∧ ((I818a 2774) = (I 2774) + 1 ∧ (I818a 2754) = (I 2754) ∧ (I818a 2775) = (I 2775) ∧ (I818a 4289) = (I 4289) ∧ (I818a 4033) = (I 4033) ∧ (I818a 4161) = (I 4161) ∧ (I818a 5889) = (I 5889)) := m_nd_num f824
            have tk838 : m_TK I818a A818a := m_TK_fx f823 hTK
            have sc839 : m_SC I818a A818a := m_SC_nd f824 hSC
            have tr840 : m_TR (t_up lo v819 (I 3905) (8 * (24 - (I 2775)) + (0))) I818a A818a := m_TR_nd (show m_TR lo (w_up (w_up I 2776 (z772)) 2774 ((I 2774) + 1)) A from hTR) f824 (show 0 ≤ (I 3905) by omega) (show (I 3905) ≤ v819 by omega) (m_cl_ST (I1 := I) (show m_ST lo I A lo (w_up (w_up I 2776 (z772)) 2774 ((I 2774) + 1)) A from m_ST_refl) (show m_TR lo I A from hTR) (show 0 ≤ (I 3905) by omega)) (t_N_mk3 t_up_same (show 0 ≤ (I 3905) by omega) (show (I 3905) ≤ v819 by omega) (show 0 ≤ (8 * (24 - (I 2775)) + (0)) by omega) (fun q q1 q2 => by omega) ⟨by omega, by omega⟩)
            have s841 : m_ST lo I A (t_up lo v819 (I 3905) (8 * (24 - (I 2775)) + (0))) I818a A818a := m_ST_nd (l := (I 3905)) (show m_ST lo I A lo (w_up (w_up I 2776 (z772)) 2774 ((I 2774) + 1)) A from m_ST_refl) f824 (show (I 3905) ≤ (I 3905) by omega) (show (I 3905) ≤ (I 3905) by omega)
            have rk842 : m_RK (t_up lo v819 (I 3905) (8 * (24 - (I 2775)) + (0))) (I 3905) (I818a 3905) (8 * (24 - (I 2775)) + (0)) := fun q q1 q2 => by rw [show q = v819 by omega, t_up_same]; exact Int.le_refl _
            have k843 : m_kd (t_up lo v819 (I 3905) (8 * (24 - (I 2775)) + (0))) I818a A818a (I 3905) (8 * (24 - (I 2775)) + (0)) v819 (fun k => k = 3) := m_kd_new f824 (show 0 ≤ (I 3905) by omega) (show (I 3905) ≤ v819 by omega) rfl
            have rt844 : m_rt (t_up lo v819 (I 3905) (8 * (24 - (I 2775)) + (0))) (I818a 3905) v819 := m_rt_new f824
            show w_W _ _ _ (96, [(2, .int (Int32.ofInt (v771))), (1, .int (Int32.ofInt ((A 45) ((I 2774))))), (0, .ref 43)], [.int (Int32.ofInt (v819))], M817) _
            refine w_fin (r := .inl (some (v819))) (M' := M817) rfl ?_
            exact Or.inl ⟨v819, (t_up lo v819 (I 3905) (8 * (24 - (I 2775)) + (0))), I818a, A818a, B818a, C818a, rfl, ⟨by omega, by omega⟩, hR818a, (show m_fx I A I818a A818a by exact f823), (show ((0 ≤ (I818a 2774) ∧ (I818a 2774) < (I818a 2754) ∧ (I818a 2754) ≤ 1501 ∧ 0 ≤ (I818a 2775) ∧ (I818a 2775) ≤ 24) ∧ ((I818a 3393) = (I818a 3905) ∧ (I818a 3521) = (I818a 3905) ∧ (I818a 3649) = (I818a 3905) ∧ (I818a 3777) = (I818a 3905) ∧ 0 ≤ (I818a 3905) ∧ (I818a 3905) ≤ 3 * (I818a 2774)) ∧ ((I818a 4161) = (I818a 4033) ∧ 7 ≤ (I818a 4289) ∧ (I818a 4289) ≤ (I818a 4033) ∧ (I818a 4033) ≤ 7 + (I818a 2774)) ∧ 0 ≤ (I818a 5889) ∧ (I818a 5889) ≤ (I818a 2774)) ∧ ((I818a 2754) = (I 2754) ∧ (I 2774) + 1 ≤ (I818a 2774) ∧ (I818a 2775) = (I 2775) ∧ (I818a 4289) = (I 4289) + 0 ∧ (I818a 5889) = (I 5889)) ∧ ((I818a 3905) + 2 ≤ (I 3905) + 3 * ((I818a 2774) - (I 2774)) ∧ (I 3905) ≤ v819 ∧ v819 + 1 = (I818a 3905) ∧ (I 4033) ≤ (I818a 4033) ∧ (I818a 4033) ≤ (I 4033) + ((I818a 2774) - (I 2774))) by (repeat' apply And.intro) <;> first | assumption | omega), (show m_SC I818a A818a by exact sc839), (show m_TR (t_up lo v819 (I 3905) (8 * (24 - (I 2775)) + (0))) I818a A818a by exact tr840), (show m_ST lo I A (t_up lo v819 (I 3905) (8 * (24 - (I 2775)) + (0))) I818a A818a by exact s841), (show t_E ((A818a 53) (v819)) by exact ((m_kd_K k843 (fun k h => by have h : k = 3 := h; unfold t_E; omega))).2), (show m_rt (t_up lo v819 (I 3905) (8 * (24 - (I 2775)) + (0))) (I818a 3905) v819 by exact rt844), (show m_RK (t_up lo v819 (I 3905) (8 * (24 - (I 2775)) + (0))) (I 3905) (I818a 3905) (8 * (24 - (I 2775)) + 0) by exact m_RK_le (show m_RK (t_up lo v819 (I 3905) (8 * (24 - (I 2775)) + (0))) (I 3905) (I818a 3905) (8 * (24 - (I 2775)) + (0)) from rk842) (show (8 * (24 - (I 2775)) + (0)) ≤ 8 * (24 - (I 2775)) + 0 by omega))⟩
          · rw [e777]
            replace hR764c : w_Rep w_TM fr X u l I764c A764c B764c C764c M763 := hR764c
            replace f778 : m_fx I A I764c A764c := f778
            exact Or.inr (⟨I764c, A764c, B764c, C764c, rfl, hR764c, (show m_fx I A I764c A764c by exact f778)⟩)
      · have h73 : ¬ (¬ (A 45) ((I 2774)) = 1) := h73
        have w845 : (I 2774) + 1 < (I 2754) := m_TK_lt hTK (show (I 2774) < (I 2754) by omega) (show 1 ≤ (A 45) ((I 2774)) by omega) (show (A 45) ((I 2774)) ≤ 6 by omega)
        show w_W _ _ _ (63, [(1, .int (Int32.ofInt ((A 45) ((I 2774))))), (0, .ref 43)], [], M) _
        refine w_adv (n := 1) (F' := (64, [(1, .int (Int32.ofInt ((A 45) ((I 2774))))), (0, .ref 43)], [.ref 43], M)) rfl ?_
        refine w_call (cm := 251) (as := [(0, .ref 43)]) (rest := []) (o := some (9, 43)) rfl (w_fitR hR rfl) (m_atomOrRecord hA (lo) hR (show 20 * (24 - (I 2775)) + 11 ≤ (d : Int) by omega) (show m_TK I A by exact hTK) (show (0 ≤ (I 2774) ∧ (I 2774) < (I 2754) ∧ (I 2754) ≤ 1501 ∧ 0 ≤ (I 2775) ∧ (I 2775) ≤ 24) ∧ ((I 3393) = (I 3905) ∧ (I 3521) = (I 3905) ∧ (I 3649) = (I 3905) ∧ (I 3777) = (I 3905) ∧ 0 ≤ (I 3905) ∧ (I 3905) ≤ 3 * (I 2774)) ∧ ((I 4161) = (I 4033) ∧ 7 ≤ (I 4289) ∧ (I 4289) ≤ (I 4033) ∧ (I 4033) ≤ 7 + (I 2774)) ∧ 0 ≤ (I 5889) ∧ (I 5889) ≤ (I 2774) by (repeat' apply And.intro) <;> first | assumption | omega) (show m_SC I A by exact hSC) (show m_TR lo I A by exact hTR) (show (A 45) ((I 2774)) = 1 by first | assumption | omega) (show (I 2754) - (I 2774) ≤ N by first | assumption | omega)) (fun r846 M847 q848 => ?_)
        rcases q848 with ⟨v849, lo850, I848a, A848a, B848a, C848a, e851, ⟨r852, r853⟩, hR848a, f854, f855, f856, f857, f858, f859, f860, f861⟩ | ⟨I848b, A848b, B848b, C848b, e862, hR848b, f863⟩
        · rw [e851]
          replace hR848a : w_Rep w_TM fr X u l I848a A848a B848a C848a M847 := hR848a
          replace f854 : m_fx I A I848a A848a := f854
          replace f855 : ((0 ≤ (I848a 2774) ∧ (I848a 2774) < (I848a 2754) ∧ (I848a 2754) ≤ 1501 ∧ 0 ≤ (I848a 2775) ∧ (I848a 2775) ≤ 24) ∧ ((I848a 3393) = (I848a 3905) ∧ (I848a 3521) = (I848a 3905) ∧ (I848a 3649) = (I848a 3905) ∧ (I848a 3777) = (I848a 3905) ∧ 0 ≤ (I848a 3905) ∧ (I848a 3905) ≤ 3 * (I848a 2774)) ∧ ((I848a 4161) = (I848a 4033) ∧ 7 ≤ (I848a 4289) ∧ (I848a 4289) ≤ (I848a 4033) ∧ (I848a 4033) ≤ 7 + (I848a 2774)) ∧ 0 ≤ (I848a 5889) ∧ (I848a 5889) ≤ (I848a 2774)) ∧ ((I848a 2754) = (I 2754) ∧ (I 2774) + 1 ≤ (I848a 2774) ∧ (I848a 2775) = (I 2775) ∧ (I848a 4289) = (I 4289) + 0 ∧ (I848a 5889) = (I 5889)) ∧ ((I848a 3905) + 2 ≤ (I 3905) + 3 * ((I848a 2774) - (I 2774)) ∧ (I 3905) ≤ v849 ∧ v849 + 1 = (I848a 3905) ∧ (I 4033) ≤ (I848a 4033) ∧ (I848a 4033) ≤ (I 4033) + ((I848a 2774) - (I 2774))) := f855
          obtain ⟨⟨⟨n864, n865, n866, n867, n868⟩, ⟨n869, n870, n871, n872, n873, n874⟩, ⟨n875, n876, n877, n878⟩, n879, n880⟩, ⟨n881, n882, n883, n884, n885⟩, ⟨n886, n887, n888, n889, n890⟩⟩ := id f855
          clear f855
          replace f856 : m_SC I848a A848a := f856
          replace f857 : m_TR lo850 I848a A848a := f857
          replace f858 : m_ST lo I A lo850 I848a A848a := f858
          replace f859 : t_E ((A848a 53) (v849)) := f859
          replace f860 : m_rt lo850 (I848a 3905) v849 := f860
          replace f861 : m_RK lo850 (I 3905) (I848a 3905) (8 * (24 - (I 2775)) + 0) := f861
          have tk891 : m_TK I848a A848a := m_TK_fx f854 hTK
          have nn892 : (I 3905) ≤ (I848a 3905) := by omega
          have nz893 : 0 ≤ (I 3905) := by first | assumption | omega
          have ho894 : (I 2775) = (I 2775) + (0) := by omega
          have rk896 : m_RK lo850 (I 3905) (I848a 3905) (8 * (24 - (I 2775)) + (0)) := m_RK_app (I := I) (I' := I848a) (R := (8 * (24 - (I 2775)) + (0))) (show m_RK lo (I 3905) (I 3905) (8 * (24 - (I 2775)) + (0)) from fun q q1 q2 => by omega) f858 f861 (show 0 ≤ (I 3905) by first | assumption | omega) (m_r8 (by decide)) (m_r8o (k := 0) ho894 (by decide))
          have s895 : m_ST lo I A lo850 I848a A848a := f858
          have k897 : m_kd lo850 I848a A848a (I 3905) (8 * (24 - (I 2775)) + 0) v849 t_E := m_kd_of (I := I) f858 f857 nz893 (show (I 3905) ≤ v849 by first | assumption | omega) (show v849 < (I848a 3905) by omega) f859 f861
          obtain ⟨j898, j899, j900, j901, j902⟩ := k897.1
          show w_W _ _ _ (67, [(1, .int (Int32.ofInt ((A 45) ((I 2774))))), (0, .ref 43)], [.int (Int32.ofInt (v849))], M847) _
          refine w_fin (r := .inl (some (v849))) (M' := M847) rfl ?_
          exact Or.inl ⟨v849, lo850, I848a, A848a, B848a, C848a, rfl, ⟨by omega, by omega⟩, hR848a, (show m_fx I A I848a A848a by exact f854), (show ((0 ≤ (I848a 2774) ∧ (I848a 2774) < (I848a 2754) ∧ (I848a 2754) ≤ 1501 ∧ 0 ≤ (I848a 2775) ∧ (I848a 2775) ≤ 24) ∧ ((I848a 3393) = (I848a 3905) ∧ (I848a 3521) = (I848a 3905) ∧ (I848a 3649) = (I848a 3905) ∧ (I848a 3777) = (I848a 3905) ∧ 0 ≤ (I848a 3905) ∧ (I848a 3905) ≤ 3 * (I848a 2774)) ∧ ((I848a 4161) = (I848a 4033) ∧ 7 ≤ (I848a 4289) ∧ (I848a 4289) ≤ (I848a 4033) ∧ (I848a 4033) ≤ 7 + (I848a 2774)) ∧ 0 ≤ (I848a 5889) ∧ (I848a 5889) ≤ (I848a 2774)) ∧ ((I848a 2754) = (I 2754) ∧ (I 2774) + 1 ≤ (I848a 2774) ∧ (I848a 2775) = (I 2775) ∧ (I848a 4289) = (I 4289) + 0 ∧ (I848a 5889) = (I 5889)) ∧ ((I848a 3905) + 2 ≤ (I 3905) + 3 * ((I848a 2774) - (I 2774)) ∧ (I 3905) ≤ v849 ∧ v849 + 1 = (I848a 3905) ∧ (I 4033) ≤ (I848a 4033) ∧ (I848a 4033) ≤ (I 4033) + ((I848a 2774) - (I 2774))) by (repeat' apply And.intro) <;> first | assumption | omega), (show m_SC I848a A848a by exact f856), (show m_TR lo850 I848a A848a by exact f857), (show m_ST lo I A lo850 I848a A848a by exact s895), (show t_E ((A848a 53) (v849)) by exact (k897).2), (show m_rt lo850 (I848a 3905) v849 by exact f860), (show m_RK lo850 (I 3905) (I848a 3905) (8 * (24 - (I 2775)) + 0) by exact m_RK_le (show m_RK lo850 (I 3905) (I848a 3905) (8 * (24 - (I 2775)) + (0)) from rk896) (show (8 * (24 - (I 2775)) + (0)) ≤ 8 * (24 - (I 2775)) + 0 by omega))⟩
        · rw [e862]
          replace hR848b : w_Rep w_TM fr X u l I848b A848b B848b C848b M847 := hR848b
          replace f863 : m_fx I A I848b A848b := f863
          exact Or.inr (⟨I848b, A848b, B848b, C848b, rfl, hR848b, (show m_fx I A I848b A848b by exact f863)⟩)
    · have h72 : ¬ (¬ (A 45) ((I 2774)) = 3) := h72
      have w903 : (I 2774) + 1 < (I 2754) := m_TK_lt hTK (show (I 2774) < (I 2754) by omega) (show 1 ≤ (A 45) ((I 2774)) by omega) (show (A 45) ((I 2774)) ≤ 6 by omega)
      show w_W _ _ _ (20, [(1, .int (Int32.ofInt ((A 45) ((I 2774))))), (0, .ref 43)], [], M) _
      refine w_adv (n := 2) (F' := (22, [(1, .int (Int32.ofInt ((A 45) ((I 2774))))), (0, .ref 43)], [.ref 43, .ref 43], M)) rfl ?_
      refine w_gf (v := .int (Int32.ofInt ((I 2774)))) hR rfl rfl rfl rfl ?_
      refine w_adv (n := 1) (F' := (26, [(1, .int (Int32.ofInt ((A 45) ((I 2774))))), (0, .ref 43)], [.int (Int32.ofInt (1)), .int (Int32.ofInt ((I 2774))), .ref 43], M)) rfl ?_
      refine w_add rfl ?_
      refine w_pf hR rfl rfl rfl rfl (show w_in ((I 2774) + 1) from ⟨by omega, by omega⟩) (fun h => absurd h (by decide)) (fun M904 hR905 => ?_)
      replace hR905 : w_Rep w_TM fr X u l (w_up I 2774 ((I 2774) + 1)) A B C M904 := hR905
      refine w_adv (n := 3) (F' := (33, [(1, .int (Int32.ofInt ((A 45) ((I 2774))))), (0, .ref 43)], [.int (Int32.ofInt (4)), .int (Int32.ofInt ((A 45) ((I 2774)))), .ref 43], M904)) rfl ?_
      refine w_br2 (a := (A 45) ((I 2774))) (b := 4) rfl rfl ⟨by omega, by omega⟩ ⟨by omega, by omega⟩ (fun h906 => ?_) (fun h906 => ?_)
      · have h906 : ¬ (A 45) ((I 2774)) = 4 := h906
        show w_W _ _ _ (40, [(1, .int (Int32.ofInt ((A 45) ((I 2774))))), (0, .ref 43)], [.ref 43], M904) _
        refine w_adv (n := 2) (F' := (42, [(1, .int (Int32.ofInt ((A 45) ((I 2774))))), (0, .ref 43)], [.ref 43, .int (Int32.ofInt (4)), .ref 43], M904)) rfl ?_
        refine w_gf (v := .ref 46) hR905 rfl rfl rfl rfl ?_
        refine w_adv (n := 1) (F' := (46, [(1, .int (Int32.ofInt ((A 45) ((I 2774))))), (0, .ref 43)], [.ref 43, .ref 46, .int (Int32.ofInt (4)), .ref 43], M904)) rfl ?_
        refine w_gf (v := .int (Int32.ofInt ((I 2774) + 1))) hR905 rfl rfl rfl rfl ?_
        refine w_adv (n := 1) (F' := (50, [(1, .int (Int32.ofInt ((A 45) ((I 2774))))), (0, .ref 43)], [.int (Int32.ofInt (1)), .int (Int32.ofInt ((I 2774) + 1)), .ref 46, .int (Int32.ofInt (4)), .ref 43], M904)) rfl ?_
        refine w_sub rfl ?_
        refine w_la (n := 1502) hR905 rfl (Or.inl ⟨rfl, rfl⟩) rfl (show 0 ≤ ((I 2774) + 1) - 1 by omega) (show ((I 2774) + 1) - 1 < (1502 : Int) by omega) (by decide) ?_
        obtain ⟨r907, r908⟩ : -2147483648 ≤ (A 46) (((I 2774) + 1) - 1) ∧ (A 46) (((I 2774) + 1) - 1) ≤ 2147483647 := hR905.ra 46 (((I 2774) + 1) - 1)
        show w_W _ _ _ (52, [(1, .int (Int32.ofInt ((A 45) ((I 2774))))), (0, .ref 43)], [.int (Int32.ofInt ((A 46) (((I 2774) + 1) - 1))), .int (Int32.ofInt (4)), .ref 43], M904) _
        refine w_adv (n := 2) (F' := (54, [(1, .int (Int32.ofInt ((A 45) ((I 2774))))), (0, .ref 43)], [.int (Int32.ofInt (0)), .int (Int32.ofInt (0)), .int (Int32.ofInt ((A 46) (((I 2774) + 1) - 1))), .int (Int32.ofInt (4)), .ref 43], M904)) rfl ?_
        refine w_call (cm := 239) (as := [(0, .ref 43), (1, .int (Int32.ofInt (4))), (2, .int (Int32.ofInt ((A 46) (((I 2774) + 1) - 1)))), (3, .int (Int32.ofInt (0))), (4, .int (Int32.ofInt (0)))]) (rest := []) (o := some (9, 43)) rfl (w_fitR hR905 rfl) (m_node (4) ((A 46) (((I 2774) + 1) - 1)) (0) (0) hR905 (show 2 ≤ d by omega) ⟨by omega, by omega⟩ ⟨by omega, by omega⟩ ⟨by omega, by omega⟩ ⟨by omega, by omega⟩ (show (I 3393) = (I 3905) by first | assumption | omega) (show (I 3521) = (I 3905) by first | assumption | omega) (show (I 3649) = (I 3905) by first | assumption | omega) (show (I 3777) = (I 3905) by first | assumption | omega) (show (I 3905) < 65536 by first | assumption | omega)) (fun r909 M910 q911 => ?_)
        rcases q911 with ⟨v912, I911a, A911a, B911a, C911a, e913, ⟨r914, r915⟩, hR911a, f916, f917⟩
        rw [e913]
        replace hR911a : w_Rep w_TM fr X u l I911a A911a B911a C911a M910 := hR911a
        replace f916 : m_fx (w_up I 2774 ((I 2774) + 1)) A I911a A911a := f916
        replace f917 : m_nd (w_up I 2774 ((I 2774) + 1)) A I911a A911a v912 4 ((A 46) (((I 2774) + 1) - 1)) 0 0 := f917
        obtain ⟨⟨n918, n919, n920, n921, n922, n923⟩, ⟨n924, n925, n926, n927, n928, n929, n930⟩⟩ : (v912 = (I 3905) ∧ (I911a 3905) = (I 3905) + 1 ∧ (I911a 3393) = (I 3393) + 1 ∧ (I911a 3521) = (I 3521) + 1 ∧ (I911a 3649) = (I 3649) + 1 ∧ (I911a 3777) = (I 3777) + 1) ∧ ((I911a 2774) = (I 2774) + 1 ∧ (I911a 2754) = (I 2754) ∧ (I911a 2775) = (I 2775) ∧ (I911a 4289) = (I 4289) ∧ (I911a 4033) = (I 4033) ∧ (I911a 4161) = (I 4161) ∧ (I911a 5889) = (I 5889)) := m_nd_num f917
        have tk931 : m_TK I911a A911a := m_TK_fx f916 hTK
        have sc932 : m_SC I911a A911a := m_SC_nd f917 hSC
        have tr933 : m_TR (t_up lo v912 (I 3905) (8 * (24 - (I 2775)) + (0))) I911a A911a := m_TR_nd (show m_TR lo (w_up I 2774 ((I 2774) + 1)) A from hTR) f917 (show 0 ≤ (I 3905) by omega) (show (I 3905) ≤ v912 by omega) (m_cl_ST (I1 := I) (show m_ST lo I A lo (w_up I 2774 ((I 2774) + 1)) A from m_ST_refl) (show m_TR lo I A from hTR) (show 0 ≤ (I 3905) by omega)) (t_N_mk4 t_up_same (show 0 ≤ (I 3905) by omega) (show (I 3905) ≤ v912 by omega) (show 0 ≤ (8 * (24 - (I 2775)) + (0)) by omega) (fun q q1 q2 => by omega))
        have s934 : m_ST lo I A (t_up lo v912 (I 3905) (8 * (24 - (I 2775)) + (0))) I911a A911a := m_ST_nd (l := (I 3905)) (show m_ST lo I A lo (w_up I 2774 ((I 2774) + 1)) A from m_ST_refl) f917 (show (I 3905) ≤ (I 3905) by omega) (show (I 3905) ≤ (I 3905) by omega)
        have rk935 : m_RK (t_up lo v912 (I 3905) (8 * (24 - (I 2775)) + (0))) (I 3905) (I911a 3905) (8 * (24 - (I 2775)) + (0)) := fun q q1 q2 => by rw [show q = v912 by omega, t_up_same]; exact Int.le_refl _
        have k936 : m_kd (t_up lo v912 (I 3905) (8 * (24 - (I 2775)) + (0))) I911a A911a (I 3905) (8 * (24 - (I 2775)) + (0)) v912 (fun k => k = 4) := m_kd_new f917 (show 0 ≤ (I 3905) by omega) (show (I 3905) ≤ v912 by omega) rfl
        have rt937 : m_rt (t_up lo v912 (I 3905) (8 * (24 - (I 2775)) + (0))) (I911a 3905) v912 := m_rt_new f917
        show w_W _ _ _ (57, [(1, .int (Int32.ofInt ((A 45) ((I 2774))))), (0, .ref 43)], [.int (Int32.ofInt (v912))], M910) _
        refine w_fin (r := .inl (some (v912))) (M' := M910) rfl ?_
        exact Or.inl ⟨v912, (t_up lo v912 (I 3905) (8 * (24 - (I 2775)) + (0))), I911a, A911a, B911a, C911a, rfl, ⟨by omega, by omega⟩, hR911a, (show m_fx I A I911a A911a by exact f916), (show ((0 ≤ (I911a 2774) ∧ (I911a 2774) < (I911a 2754) ∧ (I911a 2754) ≤ 1501 ∧ 0 ≤ (I911a 2775) ∧ (I911a 2775) ≤ 24) ∧ ((I911a 3393) = (I911a 3905) ∧ (I911a 3521) = (I911a 3905) ∧ (I911a 3649) = (I911a 3905) ∧ (I911a 3777) = (I911a 3905) ∧ 0 ≤ (I911a 3905) ∧ (I911a 3905) ≤ 3 * (I911a 2774)) ∧ ((I911a 4161) = (I911a 4033) ∧ 7 ≤ (I911a 4289) ∧ (I911a 4289) ≤ (I911a 4033) ∧ (I911a 4033) ≤ 7 + (I911a 2774)) ∧ 0 ≤ (I911a 5889) ∧ (I911a 5889) ≤ (I911a 2774)) ∧ ((I911a 2754) = (I 2754) ∧ (I 2774) + 1 ≤ (I911a 2774) ∧ (I911a 2775) = (I 2775) ∧ (I911a 4289) = (I 4289) + 0 ∧ (I911a 5889) = (I 5889)) ∧ ((I911a 3905) + 2 ≤ (I 3905) + 3 * ((I911a 2774) - (I 2774)) ∧ (I 3905) ≤ v912 ∧ v912 + 1 = (I911a 3905) ∧ (I 4033) ≤ (I911a 4033) ∧ (I911a 4033) ≤ (I 4033) + ((I911a 2774) - (I 2774))) by (repeat' apply And.intro) <;> first | assumption | omega), (show m_SC I911a A911a by exact sc932), (show m_TR (t_up lo v912 (I 3905) (8 * (24 - (I 2775)) + (0))) I911a A911a by exact tr933), (show m_ST lo I A (t_up lo v912 (I 3905) (8 * (24 - (I 2775)) + (0))) I911a A911a by exact s934), (show t_E ((A911a 53) (v912)) by exact ((m_kd_K k936 (fun k h => by have h : k = 4 := h; unfold t_E; omega))).2), (show m_rt (t_up lo v912 (I 3905) (8 * (24 - (I 2775)) + (0))) (I911a 3905) v912 by exact rt937), (show m_RK (t_up lo v912 (I 3905) (8 * (24 - (I 2775)) + (0))) (I 3905) (I911a 3905) (8 * (24 - (I 2775)) + 0) by exact m_RK_le (show m_RK (t_up lo v912 (I 3905) (8 * (24 - (I 2775)) + (0))) (I 3905) (I911a 3905) (8 * (24 - (I 2775)) + (0)) from rk935) (show (8 * (24 - (I 2775)) + (0)) ≤ 8 * (24 - (I 2775)) + 0 by omega))⟩
      · have h906 : ¬ (¬ (A 45) ((I 2774)) = 4) := h906
        show w_W _ _ _ (36, [(1, .int (Int32.ofInt ((A 45) ((I 2774))))), (0, .ref 43)], [.ref 43], M904) _
        refine w_adv (n := 3) (F' := (42, [(1, .int (Int32.ofInt ((A 45) ((I 2774))))), (0, .ref 43)], [.ref 43, .int (Int32.ofInt (1)), .ref 43], M904)) rfl ?_
        refine w_gf (v := .ref 46) hR905 rfl rfl rfl rfl ?_
        refine w_adv (n := 1) (F' := (46, [(1, .int (Int32.ofInt ((A 45) ((I 2774))))), (0, .ref 43)], [.ref 43, .ref 46, .int (Int32.ofInt (1)), .ref 43], M904)) rfl ?_
        refine w_gf (v := .int (Int32.ofInt ((I 2774) + 1))) hR905 rfl rfl rfl rfl ?_
        refine w_adv (n := 1) (F' := (50, [(1, .int (Int32.ofInt ((A 45) ((I 2774))))), (0, .ref 43)], [.int (Int32.ofInt (1)), .int (Int32.ofInt ((I 2774) + 1)), .ref 46, .int (Int32.ofInt (1)), .ref 43], M904)) rfl ?_
        refine w_sub rfl ?_
        refine w_la (n := 1502) hR905 rfl (Or.inl ⟨rfl, rfl⟩) rfl (show 0 ≤ ((I 2774) + 1) - 1 by omega) (show ((I 2774) + 1) - 1 < (1502 : Int) by omega) (by decide) ?_
        obtain ⟨r938, r939⟩ : -2147483648 ≤ (A 46) (((I 2774) + 1) - 1) ∧ (A 46) (((I 2774) + 1) - 1) ≤ 2147483647 := hR905.ra 46 (((I 2774) + 1) - 1)
        show w_W _ _ _ (52, [(1, .int (Int32.ofInt ((A 45) ((I 2774))))), (0, .ref 43)], [.int (Int32.ofInt ((A 46) (((I 2774) + 1) - 1))), .int (Int32.ofInt (1)), .ref 43], M904) _
        refine w_adv (n := 2) (F' := (54, [(1, .int (Int32.ofInt ((A 45) ((I 2774))))), (0, .ref 43)], [.int (Int32.ofInt (0)), .int (Int32.ofInt (0)), .int (Int32.ofInt ((A 46) (((I 2774) + 1) - 1))), .int (Int32.ofInt (1)), .ref 43], M904)) rfl ?_
        refine w_call (cm := 239) (as := [(0, .ref 43), (1, .int (Int32.ofInt (1))), (2, .int (Int32.ofInt ((A 46) (((I 2774) + 1) - 1)))), (3, .int (Int32.ofInt (0))), (4, .int (Int32.ofInt (0)))]) (rest := []) (o := some (9, 43)) rfl (w_fitR hR905 rfl) (m_node (1) ((A 46) (((I 2774) + 1) - 1)) (0) (0) hR905 (show 2 ≤ d by omega) ⟨by omega, by omega⟩ ⟨by omega, by omega⟩ ⟨by omega, by omega⟩ ⟨by omega, by omega⟩ (show (I 3393) = (I 3905) by first | assumption | omega) (show (I 3521) = (I 3905) by first | assumption | omega) (show (I 3649) = (I 3905) by first | assumption | omega) (show (I 3777) = (I 3905) by first | assumption | omega) (show (I 3905) < 65536 by first | assumption | omega)) (fun r940 M941 q942 => ?_)
        rcases q942 with ⟨v943, I942a, A942a, B942a, C942a, e944, ⟨r945, r946⟩, hR942a, f947, f948⟩
        rw [e944]
        replace hR942a : w_Rep w_TM fr X u l I942a A942a B942a C942a M941 := hR942a
        replace f947 : m_fx (w_up I 2774 ((I 2774) + 1)) A I942a A942a := f947
        replace f948 : m_nd (w_up I 2774 ((I 2774) + 1)) A I942a A942a v943 1 ((A 46) (((I 2774) + 1) - 1)) 0 0 := f948
        obtain ⟨⟨n949, n950, n951, n952, n953, n954⟩, ⟨n955, n956, n957, n958, n959, n960, n961⟩⟩ : (v943 = (I 3905) ∧ (I942a 3905) = (I 3905) + 1 ∧ (I942a 3393) = (I 3393) + 1 ∧ (I942a 3521) = (I 3521) + 1 ∧ (I942a 3649) = (I 3649) + 1 ∧ (I942a 3777) = (I 3777) + 1) ∧ ((I942a 2774) = (I 2774) + 1 ∧ (I942a 2754) = (I 2754) ∧ (I942a 2775) = (I 2775) ∧ (I942a 4289) = (I 4289) ∧ (I942a 4033) = (I 4033) ∧ (I942a 4161) = (I 4161) ∧ (I942a 5889) = (I 5889)) := m_nd_num f948
        have tk962 : m_TK I942a A942a := m_TK_fx f947 hTK
        have sc963 : m_SC I942a A942a := m_SC_nd f948 hSC
        have tr964 : m_TR (t_up lo v943 (I 3905) (8 * (24 - (I 2775)) + (0))) I942a A942a := m_TR_nd (show m_TR lo (w_up I 2774 ((I 2774) + 1)) A from hTR) f948 (show 0 ≤ (I 3905) by omega) (show (I 3905) ≤ v943 by omega) (m_cl_ST (I1 := I) (show m_ST lo I A lo (w_up I 2774 ((I 2774) + 1)) A from m_ST_refl) (show m_TR lo I A from hTR) (show 0 ≤ (I 3905) by omega)) (t_N_mk1 t_up_same (show 0 ≤ (I 3905) by omega) (show (I 3905) ≤ v943 by omega) (show 0 ≤ (8 * (24 - (I 2775)) + (0)) by omega) (fun q q1 q2 => by omega))
        have s965 : m_ST lo I A (t_up lo v943 (I 3905) (8 * (24 - (I 2775)) + (0))) I942a A942a := m_ST_nd (l := (I 3905)) (show m_ST lo I A lo (w_up I 2774 ((I 2774) + 1)) A from m_ST_refl) f948 (show (I 3905) ≤ (I 3905) by omega) (show (I 3905) ≤ (I 3905) by omega)
        have rk966 : m_RK (t_up lo v943 (I 3905) (8 * (24 - (I 2775)) + (0))) (I 3905) (I942a 3905) (8 * (24 - (I 2775)) + (0)) := fun q q1 q2 => by rw [show q = v943 by omega, t_up_same]; exact Int.le_refl _
        have k967 : m_kd (t_up lo v943 (I 3905) (8 * (24 - (I 2775)) + (0))) I942a A942a (I 3905) (8 * (24 - (I 2775)) + (0)) v943 (fun k => k = 1) := m_kd_new f948 (show 0 ≤ (I 3905) by omega) (show (I 3905) ≤ v943 by omega) rfl
        have rt968 : m_rt (t_up lo v943 (I 3905) (8 * (24 - (I 2775)) + (0))) (I942a 3905) v943 := m_rt_new f948
        show w_W _ _ _ (57, [(1, .int (Int32.ofInt ((A 45) ((I 2774))))), (0, .ref 43)], [.int (Int32.ofInt (v943))], M941) _
        refine w_fin (r := .inl (some (v943))) (M' := M941) rfl ?_
        exact Or.inl ⟨v943, (t_up lo v943 (I 3905) (8 * (24 - (I 2775)) + (0))), I942a, A942a, B942a, C942a, rfl, ⟨by omega, by omega⟩, hR942a, (show m_fx I A I942a A942a by exact f947), (show ((0 ≤ (I942a 2774) ∧ (I942a 2774) < (I942a 2754) ∧ (I942a 2754) ≤ 1501 ∧ 0 ≤ (I942a 2775) ∧ (I942a 2775) ≤ 24) ∧ ((I942a 3393) = (I942a 3905) ∧ (I942a 3521) = (I942a 3905) ∧ (I942a 3649) = (I942a 3905) ∧ (I942a 3777) = (I942a 3905) ∧ 0 ≤ (I942a 3905) ∧ (I942a 3905) ≤ 3 * (I942a 2774)) ∧ ((I942a 4161) = (I942a 4033) ∧ 7 ≤ (I942a 4289) ∧ (I942a 4289) ≤ (I942a 4033) ∧ (I942a 4033) ≤ 7 + (I942a 2774)) ∧ 0 ≤ (I942a 5889) ∧ (I942a 5889) ≤ (I942a 2774)) ∧ ((I942a 2754) = (I 2754) ∧ (I 2774) + 1 ≤ (I942a 2774) ∧ (I942a 2775) = (I 2775) ∧ (I942a 4289) = (I 4289) + 0 ∧ (I942a 5889) = (I 5889)) ∧ ((I942a 3905) + 2 ≤ (I 3905) + 3 * ((I942a 2774) - (I 2774)) ∧ (I 3905) ≤ v943 ∧ v943 + 1 = (I942a 3905) ∧ (I 4033) ≤ (I942a 4033) ∧ (I942a 4033) ≤ (I 4033) + ((I942a 2774) - (I 2774))) by (repeat' apply And.intro) <;> first | assumption | omega), (show m_SC I942a A942a by exact sc963), (show m_TR (t_up lo v943 (I 3905) (8 * (24 - (I 2775)) + (0))) I942a A942a by exact tr964), (show m_ST lo I A (t_up lo v943 (I 3905) (8 * (24 - (I 2775)) + (0))) I942a A942a by exact s965), (show t_E ((A942a 53) (v943)) by exact ((m_kd_K k967 (fun k h => by have h : k = 1 := h; unfold t_E; omega))).2), (show m_rt (t_up lo v943 (I 3905) (8 * (24 - (I 2775)) + (0))) (I942a 3905) v943 by exact rt968), (show m_RK (t_up lo v943 (I 3905) (8 * (24 - (I 2775)) + (0))) (I 3905) (I942a 3905) (8 * (24 - (I 2775)) + 0) by exact m_RK_le (show m_RK (t_up lo v943 (I 3905) (8 * (24 - (I 2775)) + (0))) (I 3905) (I942a 3905) (8 * (24 - (I 2775)) + (0)) from rk966) (show (8 * (24 - (I 2775)) + (0)) ≤ 8 * (24 - (I 2775)) + 0 by omega))⟩
