set_option maxHeartbeats 100000000 in
set_option maxRecDepth 100000 in
theorem m_cases {L : Nat} {xs : Nat → Int32} {d : Nat} {fr : Nat → Bool} {X : Nat → Option (q_C (Nat → Int32))} {u l : Nat} {I : Nat → Int} {A : Nat → Int → Int} {B C : Nat → Nat} {M : w_M} {N : Int} (hA : m_all L xs N) (vl : Int) (lo : Int → Int × Int) (hR : w_Rep w_TM fr X u l I A B C M) (hd : 20 * (24 - (I 2775)) + 11 ≤ (d : Int)) (r_vl : w_in vl) (hTK : m_TK I A) (hNU : (0 ≤ (I 2774) ∧ (I 2774) < (I 2754) ∧ (I 2754) ≤ 1501 ∧ 0 ≤ (I 2775) ∧ (I 2775) ≤ 24) ∧ ((I 3393) = (I 3905) ∧ (I 3521) = (I 3905) ∧ (I 3649) = (I 3905) ∧ (I 3777) = (I 3905) ∧ 0 ≤ (I 3905) ∧ (I 3905) ≤ 3 * (I 2774)) ∧ ((I 4161) = (I 4033) ∧ 7 ≤ (I 4289) ∧ (I 4289) ≤ (I 4033) ∧ (I 4033) ≤ 7 + (I 2774)) ∧ 0 ≤ (I 5889) ∧ (I 5889) ≤ (I 2774)) (hSC : m_SC I A) (hTR : m_TR lo I A) (hk : 1 ≤ (A 45) ((I 2774)) ∧ (A 45) ((I 2774)) ≤ 6) (hm : (I 2754) - (I 2774) ≤ N) : w_W (z_P L xs) d 269 (0, [(0, .ref 43), (1, .int (Int32.ofInt (vl)))], [], M) (m_cases_Q fr X u l I A B C M vl lo) := by
  obtain ⟨ra_vl, rb_vl⟩ := r_vl
  obtain ⟨d, rfl⟩ : ∃ d0, d = d0 + 1 := ⟨d - 1, by omega⟩
  have wl : (I 2774) + 1 < (I 2754) := m_TK_lt hTK (by omega) (by omega) (by omega)
  refine w_adv (n := 1) (F' := (1, [(0, .ref 43), (1, .int (Int32.ofInt (vl)))], [.ref 43], M)) rfl ?_
  refine w_call (cm := 235) (as := [(0, .ref 43)]) (rest := []) (o := some (9, 43)) rfl (w_fitR hR rfl) (m_enter hR (show 2 ≤ d by omega) (show 0 ≤ (I 2774) ∧ (I 2774) < 1501 by omega) (show 0 ≤ (I 2775) ∧ (I 2775) ≤ 24 by first | assumption | omega)) (fun r1 M2 q3 => ?_)
  rcases q3 with ⟨e4, hR3a, f5⟩ | ⟨I3b, A3b, B3b, C3b, e6, hR3b, f7⟩
  · rw [e4]
    replace hR3a : w_Rep w_TM fr X u l (w_up (w_up I 2775 ((I 2775) + 1)) 2774 ((I 2774) + 1)) A B C M2 := hR3a
    replace f5 : (I 2775) < 24 := f5
    have w8 : (I 2774) + 1 < (I 2754) := m_TK_lt hTK (show (I 2774) < (I 2754) by omega) (show 1 ≤ (A 45) ((I 2774)) by omega) (show (A 45) ((I 2774)) ≤ 6 by omega)
    show w_W _ _ _ (4, [(0, .ref 43), (1, .int (Int32.ofInt (vl)))], [], M2) _
    refine w_adv (n := 1) (F' := (5, [(0, .ref 43), (1, .int (Int32.ofInt (vl)))], [.ref 43], M2)) rfl ?_
    refine w_call (cm := 245) (as := [(0, .ref 43)]) (rest := []) (o := some (9, 43)) rfl (w_fitR hR3a rfl) (hA.1 (lo) hR3a (show 20 * (24 - ((I 2775) + 1)) + 17 ≤ (d : Int) by omega) (show m_TK (w_up (w_up I 2775 ((I 2775) + 1)) 2774 ((I 2774) + 1)) A by exact hTK) (show (0 ≤ (I 2774) + 1 ∧ (I 2774) + 1 < (I 2754) ∧ (I 2754) ≤ 1501 ∧ 0 ≤ (I 2775) + 1 ∧ (I 2775) + 1 ≤ 24) ∧ ((I 3393) = (I 3905) ∧ (I 3521) = (I 3905) ∧ (I 3649) = (I 3905) ∧ (I 3777) = (I 3905) ∧ 0 ≤ (I 3905) ∧ (I 3905) ≤ 3 * ((I 2774) + 1)) ∧ ((I 4161) = (I 4033) ∧ 7 ≤ (I 4289) ∧ (I 4289) ≤ (I 4033) ∧ (I 4033) ≤ 7 + ((I 2774) + 1)) ∧ 0 ≤ (I 5889) ∧ (I 5889) ≤ (I 2774) + 1 by (repeat' apply And.intro) <;> first | assumption | omega) (show m_SC (w_up (w_up I 2775 ((I 2775) + 1)) 2774 ((I 2774) + 1)) A by exact hSC) (show m_TR lo (w_up (w_up I 2775 ((I 2775) + 1)) 2774 ((I 2774) + 1)) A by exact hTR) (show (I 2754) - ((I 2774) + 1) < N by first | assumption | omega)) (fun r9 M10 q11 => ?_)
    rcases q11 with ⟨v12, lo13, I11a, A11a, B11a, C11a, e14, ⟨r15, r16⟩, hR11a, f17, f18, f19, f20, f21, f22, f23, f24⟩ | ⟨I11b, A11b, B11b, C11b, e25, hR11b, f26⟩
    · rw [e14]
      replace hR11a : w_Rep w_TM fr X u l I11a A11a B11a C11a M10 := hR11a
      replace f17 : m_fx (w_up (w_up I 2775 ((I 2775) + 1)) 2774 ((I 2774) + 1)) A I11a A11a := f17
      replace f18 : ((0 ≤ (I11a 2774) ∧ (I11a 2774) < (I11a 2754) ∧ (I11a 2754) ≤ 1501 ∧ 0 ≤ (I11a 2775) ∧ (I11a 2775) ≤ 24) ∧ ((I11a 3393) = (I11a 3905) ∧ (I11a 3521) = (I11a 3905) ∧ (I11a 3649) = (I11a 3905) ∧ (I11a 3777) = (I11a 3905) ∧ 0 ≤ (I11a 3905) ∧ (I11a 3905) ≤ 3 * (I11a 2774)) ∧ ((I11a 4161) = (I11a 4033) ∧ 7 ≤ (I11a 4289) ∧ (I11a 4289) ≤ (I11a 4033) ∧ (I11a 4033) ≤ 7 + (I11a 2774)) ∧ 0 ≤ (I11a 5889) ∧ (I11a 5889) ≤ (I11a 2774)) ∧ ((I11a 2754) = (I 2754) ∧ ((I 2774) + 1) + 1 ≤ (I11a 2774) ∧ (I11a 2775) = (I 2775) + 1 ∧ (I11a 4289) = (I 4289) + 0 ∧ (I11a 5889) = (I 5889)) ∧ ((I11a 3905) + 2 ≤ (I 3905) + 3 * ((I11a 2774) - ((I 2774) + 1)) ∧ (I 3905) ≤ v12 ∧ v12 + 1 = (I11a 3905) ∧ (I 4033) ≤ (I11a 4033) ∧ (I11a 4033) ≤ (I 4033) + ((I11a 2774) - ((I 2774) + 1))) := f18
      obtain ⟨⟨⟨n27, n28, n29, n30, n31⟩, ⟨n32, n33, n34, n35, n36, n37⟩, ⟨n38, n39, n40, n41⟩, n42, n43⟩, ⟨n44, n45, n46, n47, n48⟩, ⟨n49, n50, n51, n52, n53⟩⟩ := id f18
      clear f18
      replace f19 : m_SC I11a A11a := f19
      replace f20 : m_TR lo13 I11a A11a := f20
      replace f21 : m_ST lo (w_up (w_up I 2775 ((I 2775) + 1)) 2774 ((I 2774) + 1)) A lo13 I11a A11a := f21
      replace f22 : t_E ((A11a 53) (v12)) := f22
      replace f23 : m_rt lo13 (I11a 3905) v12 := f23
      replace f24 : m_RK lo13 (I 3905) (I11a 3905) (8 * (24 - ((I 2775) + 1)) + 5) := f24
      have tk54 : m_TK I11a A11a := m_TK_fx f17 hTK
      have nn55 : (I 3905) ≤ (I11a 3905) := by omega
      have nz56 : 0 ≤ (I 3905) := by first | assumption | omega
      have ho57 : (I 2775) + 1 = (I 2775) + (1) := by omega
      have rk59 : m_RK lo13 (I 3905) (I11a 3905) (8 * (24 - (I 2775)) + (-3)) := m_RK_app (I := (w_up (w_up I 2775 ((I 2775) + 1)) 2774 ((I 2774) + 1))) (I' := I11a) (R := (8 * (24 - (I 2775)) + (-3))) (show m_RK lo (I 3905) (I 3905) (8 * (24 - (I 2775)) + (-3)) from fun q q1 q2 => by omega) f21 f24 (show 0 ≤ (I 3905) by first | assumption | omega) (m_r8 (by decide)) (m_r8o (k := 1) ho57 (by decide))
      have s58 : m_ST lo I A lo13 I11a A11a := f21
      have k60 : m_kd lo13 I11a A11a (I 3905) (8 * (24 - ((I 2775) + 1)) + 5) v12 t_E := m_kd_of (I := (w_up (w_up I 2775 ((I 2775) + 1)) 2774 ((I 2774) + 1))) f21 f20 nz56 (show (I 3905) ≤ v12 by first | assumption | omega) (show v12 < (I11a 3905) by omega) f22 f24
      obtain ⟨j61, j62, j63, j64, j65⟩ := k60.1
      have p66 : (I11a 2754) = (I 2754) := by first | assumption | omega
      have p67 : (I 2774) + 2 ≤ (I11a 2774) := by first | assumption | omega
      have p68 : (I11a 2775) = (I 2775) + (1) := by first | assumption | omega
      have p69 : (I11a 4289) = (I 4289) := by first | assumption | omega
      have p70 : (I11a 5889) = (I 5889) := by first | assumption | omega
      have p71 : (I 3905) ≤ (I11a 3905) := by first | assumption | omega
      have p72 : (I11a 3905) + (5) ≤ (I 3905) + 3 * ((I11a 2774) - (I 2774)) := by first | assumption | omega
      have p73 : (I 4033) ≤ (I11a 4033) := by first | assumption | omega
      have p74 : (I11a 4033) ≤ (I 4033) + ((I11a 2774) - (I 2774)) := by first | assumption | omega
      have p75 : (I 3905) ≤ v12 := by first | assumption | omega
      have p76 : 0 ≤ (I 3905) ∧ (I 3905) ≤ (I 3905) ∧ (I 3905) ≤ v12 ∧ v12 < (I11a 3905) := by first | assumption | omega
      clear n44 n45 n46 n47 n48 n49 n50 n51 n52 n53
      show w_W _ _ _ (8, [(0, .ref 43), (1, .int (Int32.ofInt (vl)))], [.int (Int32.ofInt (v12))], M10) _
      refine w_adv (n := 5) (F' := (14, [(4, .int (Int32.ofInt ((-1)))), (3, .int (Int32.ofInt ((-1)))), (2, .int (Int32.ofInt (v12))), (0, .ref 43), (1, .int (Int32.ofInt (vl)))], [], M10)) rfl ?_
      refine w_ls (ls := [(0, .ref 43), (1, .int (Int32.ofInt (vl))), (2, .int (Int32.ofInt (v12))), (3, .int (Int32.ofInt ((-1)))), (4, .int (Int32.ofInt ((-1))))]) (show List.Nodup [0, 1, 2, 3, 4] by decide) (show List.Nodup [4, 3, 2, 0, 1] by decide) (List.forall_mem_cons.mpr ⟨(List.Mem.tail _ (List.Mem.tail _ (List.Mem.tail _ (List.Mem.head _)))), (List.forall_mem_cons.mpr ⟨(List.Mem.tail _ (List.Mem.tail _ (List.Mem.tail _ (List.Mem.tail _ (List.Mem.head _))))), (List.forall_mem_cons.mpr ⟨(List.Mem.tail _ (List.Mem.tail _ (List.Mem.head _))), (List.forall_mem_cons.mpr ⟨(List.Mem.tail _ (List.Mem.head _)), (List.forall_mem_cons.mpr ⟨(List.Mem.head _), (fun _ h => by cases h)⟩)⟩)⟩)⟩)⟩) ?_
      exact m_cases_lp14 hA (vl) lo hd ra_vl rb_vl hTK hNU hSC hTR hk hm (v12) (((I11a 2754) - (I11a 2774)).toNat + 1) lo13 ((-1)) ((-1)) I11a A11a B11a C11a M10 hR11a ⟨by omega, by omega⟩ ⟨by omega, by omega⟩ (show (0 ≤ (I11a 2774) ∧ (I11a 2774) < (I11a 2754) ∧ (I11a 2754) ≤ 1501 ∧ 0 ≤ (I11a 2775) ∧ (I11a 2775) ≤ 24) ∧ ((I11a 3393) = (I11a 3905) ∧ (I11a 3521) = (I11a 3905) ∧ (I11a 3649) = (I11a 3905) ∧ (I11a 3777) = (I11a 3905) ∧ 0 ≤ (I11a 3905) ∧ (I11a 3905) ≤ 3 * (I11a 2774)) ∧ ((I11a 4161) = (I11a 4033) ∧ 7 ≤ (I11a 4289) ∧ (I11a 4289) ≤ (I11a 4033) ∧ (I11a 4033) ≤ 7 + (I11a 2774)) ∧ 0 ≤ (I11a 5889) ∧ (I11a 5889) ≤ (I11a 2774) by (repeat' apply And.intro) <;> first | assumption | omega) (show ((I11a 2754) = (I 2754) ∧ (I 2774) ≤ (I11a 2774) ∧ (I11a 2775) = (I 2775) + 1 ∧ (I11a 4289) = (I 4289) + 0 ∧ (I11a 5889) = (I 5889)) ∧ ((I11a 3905) + 4 ≤ (I 3905) + 3 * ((I11a 2774) - (I 2774)) ∧ (I 3905) ≤ (I11a 3905) ∧ (I 4033) ≤ (I11a 4033) ∧ (I11a 4033) ≤ (I 4033) + ((I11a 2774) - (I 2774))) by (repeat' apply And.intro) <;> first | assumption | omega) (show m_TK I11a A11a by exact tk54) (show m_SC I11a A11a by exact f19) (show m_TR lo13 I11a A11a by exact f20) (show m_ST lo I A lo13 I11a A11a by exact s58) (show m_fx I A I11a A11a by exact f17) (show m_LK lo13 I11a A11a (v12 + 1) (8 * (24 - (I 2775)) + (-1)) (I11a 3905) (-1) (-1) (fun k => k = 17) by exact Or.inl ⟨rfl, rfl⟩) (show m_RK lo13 (I 3905) (I11a 3905) (8 * (24 - (I 2775)) + (-1)) by exact m_RK_le (show m_RK lo13 (I 3905) (I11a 3905) (8 * (24 - (I 2775)) + (-3)) from rk59) (show (8 * (24 - (I 2775)) + (-3)) ≤ (8 * (24 - (I 2775)) + (-1)) by omega)) (show m_kd lo13 I11a A11a (I 3905) (8 * (24 - (I 2775)) + (-1)) v12 t_E by exact m_kd_l k60 (by omega) (by omega) (by omega)) (show (I11a 2754) - (I11a 2774) < ((((I11a 2754) - (I11a 2774)).toNat + 1 : Nat) : Int) by omega)
    · rw [e25]
      replace hR11b : w_Rep w_TM fr X u l I11b A11b B11b C11b M10 := hR11b
      replace f26 : m_fx (w_up (w_up I 2775 ((I 2775) + 1)) 2774 ((I 2774) + 1)) A I11b A11b := f26
      exact Or.inr (⟨I11b, A11b, B11b, C11b, rfl, hR11b, (show m_fx I A I11b A11b by exact f26)⟩)
  · rw [e6]
    replace hR3b : w_Rep w_TM fr X u l I3b A3b B3b C3b M2 := hR3b
    replace f7 : m_fx I A I3b A3b := f7
    exact Or.inr (⟨I3b, A3b, B3b, C3b, rfl, hR3b, (show m_fx I A I3b A3b by exact f7)⟩)
