set_option maxHeartbeats 100000000 in
set_option maxRecDepth 100000 in
theorem m_cases_lp14 {L : Nat} {xs : Nat → Int32} {d : Nat} {fr : Nat → Bool} {X : Nat → Option (q_C (Nat → Int32))} {u l : Nat} {I : Nat → Int} {A : Nat → Int → Int} {B C : Nat → Nat} {M : w_M} {N : Int} (hA : m_all L xs N) (vl : Int) (lo : Int → Int × Int) (hd : 20 * (24 - (I 2775)) + 11 ≤ ((d + 1 : Nat) : Int)) (ra_vl : -2147483648 ≤ vl) (rb_vl : vl ≤ 2147483647) (hTK : m_TK I A) (hNU : (0 ≤ (I 2774) ∧ (I 2774) < (I 2754) ∧ (I 2754) ≤ 1501 ∧ 0 ≤ (I 2775) ∧ (I 2775) ≤ 24) ∧ ((I 3393) = (I 3905) ∧ (I 3521) = (I 3905) ∧ (I 3649) = (I 3905) ∧ (I 3777) = (I 3905) ∧ 0 ≤ (I 3905) ∧ (I 3905) ≤ 3 * (I 2774)) ∧ ((I 4161) = (I 4033) ∧ 7 ≤ (I 4289) ∧ (I 4289) ≤ (I 4033) ∧ (I 4033) ≤ 7 + (I 2774)) ∧ 0 ≤ (I 5889) ∧ (I 5889) ≤ (I 2774)) (hSC : m_SC I A) (hTR : m_TR lo I A) (hk : 1 ≤ (A 45) ((I 2774)) ∧ (A 45) ((I 2774)) ≤ 6) (hm : (I 2754) - (I 2774) ≤ N) (v12 : Int) : ∀ fu : Nat, ∀ (lo_14 : Int → Int × Int) (y14_3 : Int) (y14_4 : Int) (I_14 : Nat → Int) (A_14 : Nat → Int → Int) (B_14 C_14 : Nat → Nat) (M_14 : w_M) (hR_14 : w_Rep w_TM fr X u l I_14 A_14 B_14 C_14 M_14), w_in y14_3 → w_in y14_4 → (0 ≤ (I_14 2774) ∧ (I_14 2774) < (I_14 2754) ∧ (I_14 2754) ≤ 1501 ∧ 0 ≤ (I_14 2775) ∧ (I_14 2775) ≤ 24) ∧ ((I_14 3393) = (I_14 3905) ∧ (I_14 3521) = (I_14 3905) ∧ (I_14 3649) = (I_14 3905) ∧ (I_14 3777) = (I_14 3905) ∧ 0 ≤ (I_14 3905) ∧ (I_14 3905) ≤ 3 * (I_14 2774)) ∧ ((I_14 4161) = (I_14 4033) ∧ 7 ≤ (I_14 4289) ∧ (I_14 4289) ≤ (I_14 4033) ∧ (I_14 4033) ≤ 7 + (I_14 2774)) ∧ 0 ≤ (I_14 5889) ∧ (I_14 5889) ≤ (I_14 2774) → ((I_14 2754) = (I 2754) ∧ (I 2774) ≤ (I_14 2774) ∧ (I_14 2775) = (I 2775) + 1 ∧ (I_14 4289) = (I 4289) + 0 ∧ (I_14 5889) = (I 5889)) ∧ ((I_14 3905) + 4 ≤ (I 3905) + 3 * ((I_14 2774) - (I 2774)) ∧ (I 3905) ≤ (I_14 3905) ∧ (I 4033) ≤ (I_14 4033) ∧ (I_14 4033) ≤ (I 4033) + ((I_14 2774) - (I 2774))) → m_TK I_14 A_14 → m_SC I_14 A_14 → m_TR lo_14 I_14 A_14 → m_ST lo I A lo_14 I_14 A_14 → m_fx I A I_14 A_14 → m_LK lo_14 I_14 A_14 (v12 + 1) (8 * (24 - (I 2775)) + (-1)) (I_14 3905) y14_3 y14_4 (fun k => k = 17) → m_RK lo_14 (I 3905) (I_14 3905) (8 * (24 - (I 2775)) + (-1)) → m_kd lo_14 I_14 A_14 (I 3905) (8 * (24 - (I 2775)) + (-1)) v12 t_E → (I_14 2754) - (I_14 2774) < (fu : Int) → w_W (z_P L xs) (d + 1) 269 (14, [(0, .ref 43), (1, .int (Int32.ofInt (vl))), (2, .int (Int32.ofInt (v12))), (3, .int (Int32.ofInt (y14_3))), (4, .int (Int32.ofInt (y14_4)))], [], M_14) (m_cases_Q fr X u l I A B C M vl lo) := by
  intro fu
  induction fu with
  | zero =>
    intro lo_14 y14_3 y14_4 I_14 A_14 B_14 C_14 M_14 hR_14 ⟨ra_y14_3, rb_y14_3⟩ ⟨ra_y14_4, rb_y14_4⟩ hi14_0 hi14_1 hi14_2 hi14_3 hi14_4 hi14_5 hi14_6 hi14_7 hi14_8 hi14_9 hn14
    exfalso
    omega
  | succ fu ih14 =>
    intro lo_14 y14_3 y14_4 I_14 A_14 B_14 C_14 M_14 hR_14 ⟨ra_y14_3, rb_y14_3⟩ ⟨ra_y14_4, rb_y14_4⟩ hi14_0 hi14_1 hi14_2 hi14_3 hi14_4 hi14_5 hi14_6 hi14_7 hi14_8 hi14_9 hn14
    obtain ⟨⟨n77, n78, n79, n80, n81⟩, ⟨n82, n83, n84, n85, n86, n87⟩, ⟨n88, n89, n90, n91⟩, n92, n93⟩ := hi14_0
    obtain ⟨⟨n94, n95, n96, n97, n98⟩, ⟨n99, n100, n101, n102⟩⟩ := hi14_1
    obtain ⟨j103, j104, j105, j106, j107⟩ := hi14_9.1
    have b108 : -1 ≤ y14_3 ∧ y14_3 < (I_14 3905) ∧ -1 ≤ y14_4 ∧ y14_4 < (I_14 3905) ∧ (y14_3 < 0 ∨ 0 ≤ y14_4) := Or.elim hi14_7 (fun q => by omega) (fun q => by have := q.2.2.1.1; have := q.2.2.2.1.1; omega)
    refine w_adv (n := 2) (F' := (17, [(0, .ref 43), (1, .int (Int32.ofInt (vl))), (2, .int (Int32.ofInt (v12))), (3, .int (Int32.ofInt (y14_3))), (4, .int (Int32.ofInt (y14_4)))], [.int (Int32.ofInt (8)), .ref 43], M_14)) rfl ?_
    refine w_call (cm := 241) (as := [(0, .ref 43), (1, .int (Int32.ofInt (8)))]) (rest := []) (o := some (9, 43)) rfl (w_fitR hR_14 rfl) (m_needWord (8) hR_14 (show 2 ≤ d by omega) ⟨by omega, by omega⟩ (show 0 ≤ (I_14 2774) ∧ (I_14 2774) < 1501 by omega)) (fun r109 M110 q111 => ?_)
    rcases q111 with ⟨e112, hR111a, f113⟩ | ⟨I111b, A111b, B111b, C111b, e114, hR111b, f115⟩
    · rw [e112]
      replace hR111a : w_Rep w_TM fr X u l (w_up I_14 2774 ((I_14 2774) + 1)) A_14 B_14 C_14 M110 := hR111a
      replace f113 : (A_14 45) ((I_14 2774)) = 5 ∧ (A_14 46) ((I_14 2774)) = 8 := f113
      obtain ⟨n116, n117⟩ := id f113
      clear f113
      have w118 : (I_14 2774) + 1 < (I_14 2754) := m_TK_lt hi14_2 (show (I_14 2774) < (I_14 2754) by omega) (show 1 ≤ (A_14 45) ((I_14 2774)) by omega) (show (A_14 45) ((I_14 2774)) ≤ 6 by omega)
      show w_W _ _ _ (20, [(0, .ref 43), (1, .int (Int32.ofInt (vl))), (2, .int (Int32.ofInt (v12))), (3, .int (Int32.ofInt (y14_3))), (4, .int (Int32.ofInt (y14_4)))], [], M110) _
      refine w_adv (n := 1) (F' := (21, [(0, .ref 43), (1, .int (Int32.ofInt (vl))), (2, .int (Int32.ofInt (v12))), (3, .int (Int32.ofInt (y14_3))), (4, .int (Int32.ofInt (y14_4)))], [.ref 43], M110)) rfl ?_
      refine w_gf (v := .ref 67) hR111a rfl rfl rfl rfl ?_
      refine w_gf (v := .int (Int32.ofInt ((I_14 4289)))) hR111a rfl rfl rfl rfl ?_
      obtain ⟨r119, r120⟩ : -2147483648 ≤ (I_14 4289) ∧ (I_14 4289) ≤ 2147483647 := hR111a.ri 4289
      obtain ⟨r121a, r121b, r121c⟩ : 0 ≤ (I_14 4289) ∧ (I_14 4289) ≤ (C_14 67 : Int) ∧ (C_14 67 : Int) ≤ 131072 := hR111a.sz (show 67 ∈ w_TM.2.2 by decide)
      refine w_adv (n := 2) (F' := (30, [(5, .int (Int32.ofInt ((I_14 4289)))), (0, .ref 43), (1, .int (Int32.ofInt (vl))), (2, .int (Int32.ofInt (v12))), (3, .int (Int32.ofInt (y14_3))), (4, .int (Int32.ofInt (y14_4)))], [.ref 43], M110)) rfl ?_
      refine w_call (cm := 270) (as := [(0, .ref 43)]) (rest := []) (o := some (9, 43)) rfl (w_fitR hR111a rfl) (m_pattern hA (lo_14) hR111a (show 20 * (24 - (I_14 2775)) + 26 ≤ (d : Int) by omega) (show m_TK (w_up I_14 2774 ((I_14 2774) + 1)) A_14 by exact hi14_2) (show (0 ≤ (I_14 2774) + 1 ∧ (I_14 2774) + 1 < (I_14 2754) ∧ (I_14 2754) ≤ 1501 ∧ 0 ≤ (I_14 2775) ∧ (I_14 2775) ≤ 24) ∧ ((I_14 3393) = (I_14 3905) ∧ (I_14 3521) = (I_14 3905) ∧ (I_14 3649) = (I_14 3905) ∧ (I_14 3777) = (I_14 3905) ∧ 0 ≤ (I_14 3905) ∧ (I_14 3905) ≤ 3 * ((I_14 2774) + 1)) ∧ ((I_14 4161) = (I_14 4033) ∧ 7 ≤ (I_14 4289) ∧ (I_14 4289) ≤ (I_14 4033) ∧ (I_14 4033) ≤ 7 + ((I_14 2774) + 1)) ∧ 0 ≤ (I_14 5889) ∧ (I_14 5889) ≤ (I_14 2774) + 1 by (repeat' apply And.intro) <;> first | assumption | omega) (show m_SC (w_up I_14 2774 ((I_14 2774) + 1)) A_14 by exact hi14_3) (show m_TR lo_14 (w_up I_14 2774 ((I_14 2774) + 1)) A_14 by exact hi14_4) (show (I_14 2754) - ((I_14 2774) + 1) < N by first | assumption | omega)) (fun r122 M123 q124 => ?_)
      rcases q124 with ⟨v125, lo126, I124a, A124a, B124a, C124a, e127, ⟨r128, r129⟩, hR124a, f130, f131, f132, f133, f134, f135, f136, f137⟩ | ⟨I124b, A124b, B124b, C124b, e138, hR124b, f139⟩
      · rw [e127]
        replace hR124a : w_Rep w_TM fr X u l I124a A124a B124a C124a M123 := hR124a
        replace f130 : m_fx (w_up I_14 2774 ((I_14 2774) + 1)) A_14 I124a A124a := f130
        replace f131 : ((0 ≤ (I124a 2774) ∧ (I124a 2774) < (I124a 2754) ∧ (I124a 2754) ≤ 1501 ∧ 0 ≤ (I124a 2775) ∧ (I124a 2775) ≤ 24) ∧ ((I124a 3393) = (I124a 3905) ∧ (I124a 3521) = (I124a 3905) ∧ (I124a 3649) = (I124a 3905) ∧ (I124a 3777) = (I124a 3905) ∧ 0 ≤ (I124a 3905) ∧ (I124a 3905) ≤ 3 * (I124a 2774)) ∧ ((I124a 4161) = (I124a 4033) ∧ 7 ≤ (I124a 4289) ∧ (I124a 4289) ≤ (I124a 4033) ∧ (I124a 4033) ≤ 7 + (I124a 2774)) ∧ 0 ≤ (I124a 5889) ∧ (I124a 5889) ≤ (I124a 2774)) ∧ ((I124a 2754) = (I_14 2754) ∧ ((I_14 2774) + 1) + 1 ≤ (I124a 2774) ∧ (I124a 2775) = (I_14 2775) ∧ (I_14 4289) ≤ (I124a 4289) ∧ (I124a 5889) = (I_14 5889)) ∧ ((I124a 3905) + 1 ≤ (I_14 3905) + 3 * ((I124a 2774) - ((I_14 2774) + 1)) ∧ (I_14 3905) ≤ v125 ∧ v125 + 1 = (I124a 3905) ∧ (I_14 4033) ≤ (I124a 4033) ∧ (I124a 4033) ≤ (I_14 4033) + ((I124a 2774) - ((I_14 2774) + 1))) := f131
        obtain ⟨⟨⟨n140, n141, n142, n143, n144⟩, ⟨n145, n146, n147, n148, n149, n150⟩, ⟨n151, n152, n153, n154⟩, n155, n156⟩, ⟨n157, n158, n159, n160, n161⟩, ⟨n162, n163, n164, n165, n166⟩⟩ := id f131
        clear f131
        replace f132 : m_SC I124a A124a := f132
        replace f133 : m_TR lo126 I124a A124a := f133
        replace f134 : m_ST lo_14 (w_up I_14 2774 ((I_14 2774) + 1)) A_14 lo126 I124a A124a := f134
        replace f135 : (fun k => k = 26) ((A124a 53) (v125)) := f135
        replace f136 : m_rt lo126 (I124a 3905) v125 := f136
        replace f137 : m_RK lo126 (I_14 3905) (I124a 3905) (8 * (24 - (I_14 2775)) + 2) := f137
        have tk167 : m_TK I124a A124a := m_TK_fx f130 hi14_2
        have nn168 : (I_14 3905) ≤ (I124a 3905) := by omega
        have nz169 : 0 ≤ (I_14 3905) := by first | assumption | omega
        have ho170 : (I_14 2775) = (I 2775) + (1) := by omega
        have rk172 : m_RK lo126 (I 3905) (I124a 3905) (8 * (24 - (I 2775)) + (-1)) := m_RK_app (I := (w_up I_14 2774 ((I_14 2774) + 1))) (I' := I124a) (R := (8 * (24 - (I 2775)) + (-1))) (show m_RK lo_14 (I 3905) (I_14 3905) (8 * (24 - (I 2775)) + (-1)) from hi14_8) f134 f137 (show 0 ≤ (I 3905) by first | assumption | omega) (m_r8 (by decide)) (m_r8o (k := 1) ho170 (by decide))
        have s171 : m_ST lo I A lo126 I124a A124a := m_ST_trans (show m_ST lo I A lo_14 (w_up I_14 2774 ((I_14 2774) + 1)) A_14 from hi14_5) f134 (show 0 ≤ (I 3905) by first | assumption | omega) (show (I 3905) ≤ (I_14 3905) by first | assumption | omega) (show (I 4289) ≤ (I_14 4289) by first | assumption | omega) (show (I 5889) ≤ (I_14 5889) by first | assumption | omega)
        have rk174 : m_RK lo126 (I_14 3905) (I124a 3905) (8 * (24 - (I 2775)) + (-6)) := m_RK_app (I := (w_up I_14 2774 ((I_14 2774) + 1))) (I' := I124a) (R := (8 * (24 - (I 2775)) + (-6))) (show m_RK lo_14 (I_14 3905) (I_14 3905) (8 * (24 - (I 2775)) + (-6)) from fun q q1 q2 => by omega) f134 f137 (show 0 ≤ (I_14 3905) by first | assumption | omega) (m_r8 (by decide)) (m_r8o (k := 1) ho170 (by decide))
        have s173 : m_ST lo_14 I_14 A_14 lo126 I124a A124a := f134
        have k175 : m_kd lo126 I124a A124a (I 3905) (8 * (24 - (I 2775)) + (-1)) v12 t_E := m_kd_ST f134 nn168 hi14_9
        have lk176 : m_LK lo126 I124a A124a (v12 + 1) (8 * (24 - (I 2775)) + (-1)) (I_14 3905) y14_3 y14_4 (fun k => k = 17) := m_LK_ST f134 nn168 hi14_7
        have k177 : m_kd lo126 I124a A124a (I_14 3905) (8 * (24 - (I_14 2775)) + 2) v125 (fun k => k = 26) := m_kd_of (I := (w_up I_14 2774 ((I_14 2774) + 1))) f134 f133 nz169 (show (I_14 3905) ≤ v125 by first | assumption | omega) (show v125 < (I124a 3905) by omega) f135 f137
        obtain ⟨j178, j179, j180, j181, j182⟩ := k177.1
        have p183 : (I124a 2754) = (I 2754) := by first | assumption | omega
        have p184 : (I 2774) + 2 ≤ (I124a 2774) := by first | assumption | omega
        have p185 : (I124a 2775) = (I 2775) + (1) := by first | assumption | omega
        have p186 : (I 4289) ≤ (I124a 4289) := by first | assumption | omega
        have p187 : (I124a 5889) = (I 5889) := by first | assumption | omega
        have p188 : (I 3905) ≤ (I124a 3905) := by first | assumption | omega
        have p189 : (I124a 3905) + (8) ≤ (I 3905) + 3 * ((I124a 2774) - (I 2774)) := by first | assumption | omega
        have p190 : (I 4033) ≤ (I124a 4033) := by first | assumption | omega
        have p191 : (I124a 4033) ≤ (I 4033) + ((I124a 2774) - (I 2774)) := by first | assumption | omega
        have p192 : (I_14 2754) = (I 2754) := by first | assumption | omega
        have p193 : (I_14 5889) = (I 5889) := by first | assumption | omega
        have p194 : (I_14 4289) = (I 4289) := by first | assumption | omega
        have p195 : (I_14 2775) = (I 2775) + (1) := by first | assumption | omega
        have p196 : (I_14 3905) ≤ (I124a 3905) := by first | assumption | omega
        have p197 : (I_14 2774) + 2 ≤ (I124a 2774) := by first | assumption | omega
        have p198 : (I 3905) ≤ (I_14 3905) := by first | assumption | omega
        have p199 : (I_14 4289) ≤ (I124a 4289) := by first | assumption | omega
        have p200 : (I_14 3905) ≤ v125 := by first | assumption | omega
        have p201 : 0 ≤ (I 3905) ∧ (I 3905) ≤ (I 3905) ∧ (I 3905) ≤ v12 ∧ v12 < (I124a 3905) := by first | assumption | omega
        have p202 : 0 ≤ (I_14 3905) ∧ (I 3905) ≤ (I_14 3905) ∧ (I_14 3905) ≤ v125 ∧ v125 < (I124a 3905) := by first | assumption | omega
        have p203 : v12 < (I_14 3905) := by first | assumption | omega
        have p204 : (I_14 3905) ≤ (I_14 3905) := by first | assumption | omega
        clear n77 n78 n79 n80 n81 n82 n83 n84 n85 n86 n87 n88 n89 n90 n91 n92 n93 n94 n95 n96 n97 n98 n99 n100 n101 n102 n116 n117 n157 n158 n159 n160 n161 n162 n163 n164 n165 n166
        show w_W _ _ _ (33, [(5, .int (Int32.ofInt ((I_14 4289)))), (0, .ref 43), (1, .int (Int32.ofInt (vl))), (2, .int (Int32.ofInt (v12))), (3, .int (Int32.ofInt (y14_3))), (4, .int (Int32.ofInt (y14_4)))], [.int (Int32.ofInt (v125))], M123) _
        refine w_adv (n := 3) (F' := (37, [(6, .int (Int32.ofInt (v125))), (5, .int (Int32.ofInt ((I_14 4289)))), (0, .ref 43), (1, .int (Int32.ofInt (vl))), (2, .int (Int32.ofInt (v12))), (3, .int (Int32.ofInt (y14_3))), (4, .int (Int32.ofInt (y14_4)))], [.int (Int32.ofInt (5)), .ref 43], M123)) rfl ?_
        refine w_call (cm := 241) (as := [(0, .ref 43), (1, .int (Int32.ofInt (5)))]) (rest := []) (o := some (9, 43)) rfl (w_fitR hR124a rfl) (m_needWord (5) hR124a (show 2 ≤ d by omega) ⟨by omega, by omega⟩ (show 0 ≤ (I124a 2774) ∧ (I124a 2774) < 1501 by omega)) (fun r205 M206 q207 => ?_)
        rcases q207 with ⟨e208, hR207a, f209⟩ | ⟨I207b, A207b, B207b, C207b, e210, hR207b, f211⟩
        · rw [e208]
          replace hR207a : w_Rep w_TM fr X u l (w_up I124a 2774 ((I124a 2774) + 1)) A124a B124a C124a M206 := hR207a
          replace f209 : (A124a 45) ((I124a 2774)) = 5 ∧ (A124a 46) ((I124a 2774)) = 5 := f209
          obtain ⟨n212, n213⟩ := id f209
          clear f209
          have w214 : (I124a 2774) + 1 < (I124a 2754) := m_TK_lt tk167 (show (I124a 2774) < (I124a 2754) by omega) (show 1 ≤ (A124a 45) ((I124a 2774)) by omega) (show (A124a 45) ((I124a 2774)) ≤ 6 by omega)
          show w_W _ _ _ (40, [(6, .int (Int32.ofInt (v125))), (5, .int (Int32.ofInt ((I_14 4289)))), (0, .ref 43), (1, .int (Int32.ofInt (vl))), (2, .int (Int32.ofInt (v12))), (3, .int (Int32.ofInt (y14_3))), (4, .int (Int32.ofInt (y14_4)))], [], M206) _
          refine w_adv (n := 5) (F' := (47, [(6, .int (Int32.ofInt (v125))), (5, .int (Int32.ofInt ((I_14 4289)))), (0, .ref 43), (1, .int (Int32.ofInt (vl))), (2, .int (Int32.ofInt (v12))), (3, .int (Int32.ofInt (y14_3))), (4, .int (Int32.ofInt (y14_4)))], [.int (Int32.ofInt (vl)), .ref 43, .int (Int32.ofInt (v125)), .int (Int32.ofInt (17)), .ref 43], M206)) rfl ?_
          refine w_call (cm := 242) (as := [(0, .ref 43), (1, .int (Int32.ofInt (vl)))]) (rest := [.int (Int32.ofInt (v125)), .int (Int32.ofInt (17)), .ref 43]) (o := some (9, 43)) rfl (w_fitR hR207a rfl) (m_bodyOr hA (vl) (lo126) hR207a (show 20 * (24 - (I124a 2775)) + 21 ≤ (d : Int) by omega) ⟨by omega, by omega⟩ (show m_TK (w_up I124a 2774 ((I124a 2774) + 1)) A124a by exact tk167) (show (0 ≤ (I124a 2774) + 1 ∧ (I124a 2774) + 1 < (I124a 2754) ∧ (I124a 2754) ≤ 1501 ∧ 0 ≤ (I124a 2775) ∧ (I124a 2775) ≤ 24) ∧ ((I124a 3393) = (I124a 3905) ∧ (I124a 3521) = (I124a 3905) ∧ (I124a 3649) = (I124a 3905) ∧ (I124a 3777) = (I124a 3905) ∧ 0 ≤ (I124a 3905) ∧ (I124a 3905) ≤ 3 * ((I124a 2774) + 1)) ∧ ((I124a 4161) = (I124a 4033) ∧ 7 ≤ (I124a 4289) ∧ (I124a 4289) ≤ (I124a 4033) ∧ (I124a 4033) ≤ 7 + ((I124a 2774) + 1)) ∧ 0 ≤ (I124a 5889) ∧ (I124a 5889) ≤ (I124a 2774) + 1 by (repeat' apply And.intro) <;> first | assumption | omega) (show m_SC (w_up I124a 2774 ((I124a 2774) + 1)) A124a by exact f132) (show m_TR lo126 (w_up I124a 2774 ((I124a 2774) + 1)) A124a by exact f133) (show (I124a 2754) - ((I124a 2774) + 1) < N by first | assumption | omega)) (fun r215 M216 q217 => ?_)
          rcases q217 with ⟨v218, lo219, I217a, A217a, B217a, C217a, e220, ⟨r221, r222⟩, hR217a, f223, f224, f225, f226, f227, f228, f229, f230⟩ | ⟨I217b, A217b, B217b, C217b, e231, hR217b, f232⟩
          · rw [e220]
            replace hR217a : w_Rep w_TM fr X u l I217a A217a B217a C217a M216 := hR217a
            replace f223 : m_fx (w_up I124a 2774 ((I124a 2774) + 1)) A124a I217a A217a := f223
            replace f224 : ((0 ≤ (I217a 2774) ∧ (I217a 2774) < (I217a 2754) ∧ (I217a 2754) ≤ 1501 ∧ 0 ≤ (I217a 2775) ∧ (I217a 2775) ≤ 24) ∧ ((I217a 3393) = (I217a 3905) ∧ (I217a 3521) = (I217a 3905) ∧ (I217a 3649) = (I217a 3905) ∧ (I217a 3777) = (I217a 3905) ∧ 0 ≤ (I217a 3905) ∧ (I217a 3905) ≤ 3 * (I217a 2774)) ∧ ((I217a 4161) = (I217a 4033) ∧ 7 ≤ (I217a 4289) ∧ (I217a 4289) ≤ (I217a 4033) ∧ (I217a 4033) ≤ 7 + (I217a 2774)) ∧ 0 ≤ (I217a 5889) ∧ (I217a 5889) ≤ (I217a 2774)) ∧ ((I217a 2754) = (I124a 2754) ∧ ((I124a 2774) + 1) + 1 ≤ (I217a 2774) ∧ (I217a 2775) = (I124a 2775) ∧ (I217a 4289) = (I124a 4289) + 0 ∧ (I217a 5889) = (I124a 5889)) ∧ ((I217a 3905) + 1 ≤ (I124a 3905) + 3 * ((I217a 2774) - ((I124a 2774) + 1)) ∧ (I124a 3905) ≤ v218 ∧ v218 + 1 = (I217a 3905) ∧ (I124a 4033) ≤ (I217a 4033) ∧ (I217a 4033) ≤ (I124a 4033) + ((I217a 2774) - ((I124a 2774) + 1))) := f224
            obtain ⟨⟨⟨n233, n234, n235, n236, n237⟩, ⟨n238, n239, n240, n241, n242, n243⟩, ⟨n244, n245, n246, n247⟩, n248, n249⟩, ⟨n250, n251, n252, n253, n254⟩, ⟨n255, n256, n257, n258, n259⟩⟩ := id f224
            clear f224
            replace f225 : m_SC I217a A217a := f225
            replace f226 : m_TR lo219 I217a A217a := f226
            replace f227 : m_ST lo126 (w_up I124a 2774 ((I124a 2774) + 1)) A124a lo219 I217a A217a := f227
            replace f228 : t_B ((A217a 53) (v218)) := f228
            replace f229 : m_rt lo219 (I217a 3905) v218 := f229
            replace f230 : m_RK lo219 (I124a 3905) (I217a 3905) (8 * (24 - (I124a 2775)) + 7) := f230
            have tk260 : m_TK I217a A217a := m_TK_fx f223 tk167
            have nn261 : (I124a 3905) ≤ (I217a 3905) := by omega
            have nz262 : 0 ≤ (I124a 3905) := by first | assumption | omega
            have ho263 : (I124a 2775) = (I 2775) + (1) := by omega
            have rk265 : m_RK lo219 (I 3905) (I217a 3905) (8 * (24 - (I 2775)) + (-1)) := m_RK_app (I := (w_up I124a 2774 ((I124a 2774) + 1))) (I' := I217a) (R := (8 * (24 - (I 2775)) + (-1))) (show m_RK lo126 (I 3905) (I124a 3905) (8 * (24 - (I 2775)) + (-1)) from rk172) f227 f230 (show 0 ≤ (I 3905) by first | assumption | omega) (m_r8 (by decide)) (m_r8o (k := 1) ho263 (by decide))
            have s264 : m_ST lo I A lo219 I217a A217a := m_ST_trans (show m_ST lo I A lo126 (w_up I124a 2774 ((I124a 2774) + 1)) A124a from s171) f227 (show 0 ≤ (I 3905) by first | assumption | omega) (show (I 3905) ≤ (I124a 3905) by first | assumption | omega) (show (I 4289) ≤ (I124a 4289) by first | assumption | omega) (show (I 5889) ≤ (I124a 5889) by first | assumption | omega)
            have rk267 : m_RK lo219 (I_14 3905) (I217a 3905) (8 * (24 - (I 2775)) + (-1)) := m_RK_app (I := (w_up I124a 2774 ((I124a 2774) + 1))) (I' := I217a) (R := (8 * (24 - (I 2775)) + (-6))) (show m_RK lo126 (I_14 3905) (I124a 3905) (8 * (24 - (I 2775)) + (-6)) from rk174) f227 f230 (show 0 ≤ (I_14 3905) by first | assumption | omega) (m_r8 (by decide)) (m_r8o (k := 1) ho263 (by decide))
            have s266 : m_ST lo_14 I_14 A_14 lo219 I217a A217a := m_ST_trans (show m_ST lo_14 I_14 A_14 lo126 (w_up I124a 2774 ((I124a 2774) + 1)) A124a from s173) f227 (show 0 ≤ (I_14 3905) by first | assumption | omega) (show (I_14 3905) ≤ (I124a 3905) by first | assumption | omega) (show (I_14 4289) ≤ (I124a 4289) by first | assumption | omega) (show (I_14 5889) ≤ (I124a 5889) by first | assumption | omega)
            have k268 : m_kd lo219 I217a A217a (I 3905) (8 * (24 - (I 2775)) + (-1)) v12 t_E := m_kd_ST f227 nn261 k175
            have k269 : m_kd lo219 I217a A217a (I_14 3905) (8 * (24 - (I_14 2775)) + 2) v125 (fun k => k = 26) := m_kd_ST f227 nn261 k177
            have rt270 := m_rt_ST f227 (show 0 ≤ v125 by omega) (show v125 < (I124a 3905) by omega) f136
            have lk271 : m_LK lo219 I217a A217a (v12 + 1) (8 * (24 - (I 2775)) + (-1)) (I_14 3905) y14_3 y14_4 (fun k => k = 17) := m_LK_ST f227 nn261 lk176
            have k272 : m_kd lo219 I217a A217a (I124a 3905) (8 * (24 - (I124a 2775)) + 7) v218 t_B := m_kd_of (I := (w_up I124a 2774 ((I124a 2774) + 1))) f227 f226 nz262 (show (I124a 3905) ≤ v218 by first | assumption | omega) (show v218 < (I217a 3905) by omega) f228 f230
            obtain ⟨j273, j274, j275, j276, j277⟩ := k272.1
            have p278 : (I217a 2754) = (I 2754) := by first | assumption | omega
            have p279 : (I 2774) + 4 ≤ (I217a 2774) := by first | assumption | omega
            have p280 : (I217a 2775) = (I 2775) + (1) := by first | assumption | omega
            have p281 : (I 4289) ≤ (I217a 4289) := by first | assumption | omega
            have p282 : (I217a 5889) = (I 5889) := by first | assumption | omega
            have p283 : (I 3905) ≤ (I217a 3905) := by first | assumption | omega
            have p284 : (I217a 3905) + (12) ≤ (I 3905) + 3 * ((I217a 2774) - (I 2774)) := by first | assumption | omega
            have p285 : (I 4033) ≤ (I217a 4033) := by first | assumption | omega
            have p286 : (I217a 4033) ≤ (I 4033) + ((I217a 2774) - (I 2774)) := by first | assumption | omega
            have p287 : (I_14 2754) = (I 2754) := by first | assumption | omega
            have p288 : (I_14 5889) = (I 5889) := by first | assumption | omega
            have p289 : (I_14 4289) = (I 4289) := by first | assumption | omega
            have p290 : (I_14 2775) = (I 2775) + (1) := by first | assumption | omega
            have p291 : (I_14 3905) ≤ (I217a 3905) := by first | assumption | omega
            have p292 : (I_14 2774) + 4 ≤ (I217a 2774) := by first | assumption | omega
            have p293 : (I 3905) ≤ (I_14 3905) := by first | assumption | omega
            have p294 : (I_14 4289) ≤ (I217a 4289) := by first | assumption | omega
            have p295 : (I124a 3905) ≤ v218 := by first | assumption | omega
            have p296 : 0 ≤ (I 3905) ∧ (I 3905) ≤ (I 3905) ∧ (I 3905) ≤ v12 ∧ v12 < (I217a 3905) := by first | assumption | omega
            have p297 : 0 ≤ (I_14 3905) ∧ (I 3905) ≤ (I_14 3905) ∧ (I_14 3905) ≤ v125 ∧ v125 < (I217a 3905) := by first | assumption | omega
            have p298 : v12 < (I_14 3905) := by first | assumption | omega
            have p299 : (I_14 3905) ≤ (I_14 3905) := by first | assumption | omega
            have p300 : 0 ≤ (I124a 3905) ∧ (I 3905) ≤ (I124a 3905) ∧ (I124a 3905) ≤ v218 ∧ v218 < (I217a 3905) := by first | assumption | omega
            have p301 : v125 < (I124a 3905) := by first | assumption | omega
            have p302 : (I_14 3905) ≤ (I124a 3905) := by first | assumption | omega
            clear n140 n141 n142 n143 n144 n145 n146 n147 n148 n149 n150 n151 n152 n153 n154 n155 n156 p183 p184 p185 p186 p187 p188 p189 p190 p191 p192 p193 p194 p195 p196 p197 p198 p199 p200 p201 p202 p203 p204 n212 n213 n250 n251 n252 n253 n254 n255 n256 n257 n258 n259
            show w_W _ _ _ (50, [(6, .int (Int32.ofInt (v125))), (5, .int (Int32.ofInt ((I_14 4289)))), (0, .ref 43), (1, .int (Int32.ofInt (vl))), (2, .int (Int32.ofInt (v12))), (3, .int (Int32.ofInt (y14_3))), (4, .int (Int32.ofInt (y14_4)))], [.int (Int32.ofInt (v218)), .int (Int32.ofInt (v125)), .int (Int32.ofInt (17)), .ref 43], M216) _
            refine w_adv (n := 1) (F' := (51, [(6, .int (Int32.ofInt (v125))), (5, .int (Int32.ofInt ((I_14 4289)))), (0, .ref 43), (1, .int (Int32.ofInt (vl))), (2, .int (Int32.ofInt (v12))), (3, .int (Int32.ofInt (y14_3))), (4, .int (Int32.ofInt (y14_4)))], [.int (Int32.ofInt (0)), .int (Int32.ofInt (v218)), .int (Int32.ofInt (v125)), .int (Int32.ofInt (17)), .ref 43], M216)) rfl ?_
            refine w_call (cm := 239) (as := [(0, .ref 43), (1, .int (Int32.ofInt (17))), (2, .int (Int32.ofInt (v125))), (3, .int (Int32.ofInt (v218))), (4, .int (Int32.ofInt (0)))]) (rest := []) (o := some (9, 43)) rfl (w_fitR hR217a rfl) (m_node (17) (v125) (v218) (0) hR217a (show 2 ≤ d by omega) ⟨by omega, by omega⟩ ⟨by omega, by omega⟩ ⟨by omega, by omega⟩ ⟨by omega, by omega⟩ (show (I217a 3393) = (I217a 3905) by first | assumption | omega) (show (I217a 3521) = (I217a 3905) by first | assumption | omega) (show (I217a 3649) = (I217a 3905) by first | assumption | omega) (show (I217a 3777) = (I217a 3905) by first | assumption | omega) (show (I217a 3905) < 65536 by first | assumption | omega)) (fun r303 M304 q305 => ?_)
            rcases q305 with ⟨v306, I305a, A305a, B305a, C305a, e307, ⟨r308, r309⟩, hR305a, f310, f311⟩
            rw [e307]
            replace hR305a : w_Rep w_TM fr X u l I305a A305a B305a C305a M304 := hR305a
            replace f310 : m_fx I217a A217a I305a A305a := f310
            replace f311 : m_nd I217a A217a I305a A305a v306 17 v125 v218 0 := f311
            obtain ⟨⟨n312, n313, n314, n315, n316, n317⟩, ⟨n318, n319, n320, n321, n322, n323, n324⟩⟩ : (v306 = (I217a 3905) ∧ (I305a 3905) = (I217a 3905) + 1 ∧ (I305a 3393) = (I217a 3393) + 1 ∧ (I305a 3521) = (I217a 3521) + 1 ∧ (I305a 3649) = (I217a 3649) + 1 ∧ (I305a 3777) = (I217a 3777) + 1) ∧ ((I305a 2774) = (I217a 2774) ∧ (I305a 2754) = (I217a 2754) ∧ (I305a 2775) = (I217a 2775) ∧ (I305a 4289) = (I217a 4289) ∧ (I305a 4033) = (I217a 4033) ∧ (I305a 4161) = (I217a 4161) ∧ (I305a 5889) = (I217a 5889)) := m_nd_num f311
            have tk325 : m_TK I305a A305a := m_TK_fx f310 tk260
            have sc326 : m_SC I305a A305a := m_SC_nd f311 f225
            have tr327 : m_TR (t_up lo219 v306 (I_14 3905) (8 * (24 - (I 2775)) + (-1))) I305a A305a := m_TR_nd (show m_TR lo219 I217a A217a from f226) f311 (show 0 ≤ (I_14 3905) by omega) (show (I_14 3905) ≤ v306 by omega) (m_cl_ST (I1 := I_14) (show m_ST lo_14 I_14 A_14 lo219 I217a A217a from s266) (show m_TR lo_14 I_14 A_14 from hi14_4) (show 0 ≤ (I_14 3905) by omega)) (t_N_mk17 t_up_same (show 0 ≤ (I_14 3905) by omega) (show (I_14 3905) ≤ v306 by omega) (show 0 ≤ (8 * (24 - (I 2775)) + (-1)) by omega) (m_hw2 (show m_RK lo219 (I_14 3905) v306 (8 * (24 - (I 2775)) + (-1)) from fun q q1 q2 => (show m_RK lo219 (I_14 3905) (I217a 3905) (8 * (24 - (I 2775)) + (-1)) from rk267) q (show (I_14 3905) ≤ q by omega) (show q < (I217a 3905) by omega)) (m_r8 (by decide))) ⟨Or.inr (m_ch f311 (show (I_14 3905) ≤ (I_14 3905) by omega) (show m_kd lo219 I217a A217a (I_14 3905) (8 * (24 - (I_14 2775)) + 2) v125 (fun k => k = 26) from k269)), m_ch f311 (show (I_14 3905) ≤ (I124a 3905) by omega) (show m_kd lo219 I217a A217a (I124a 3905) (8 * (24 - (I124a 2775)) + 7) v218 t_B from k272), Or.inr (m_od f311 (show m_kd lo219 I217a A217a (I124a 3905) (8 * (24 - (I124a 2775)) + 7) v218 t_B from k272) (show v125 < (I124a 3905) by omega))⟩)
            have s328 : m_ST lo I A (t_up lo219 v306 (I_14 3905) (8 * (24 - (I 2775)) + (-1))) I305a A305a := m_ST_nd (l := (I_14 3905)) (show m_ST lo I A lo219 I217a A217a from s264) f311 (show (I 3905) ≤ (I_14 3905) by omega) (show (I 3905) ≤ (I217a 3905) by omega)
            have rk329 : m_RK (t_up lo219 v306 (I_14 3905) (8 * (24 - (I 2775)) + (-1))) (I 3905) (I305a 3905) (8 * (24 - (I 2775)) + (-1)) := fun q q1 q2 => m_RK_nd (show m_RK lo219 (I 3905) v306 (8 * (24 - (I 2775)) + (-1)) from fun q q1 q2 => (show m_RK lo219 (I 3905) (I217a 3905) (8 * (24 - (I 2775)) + (-1)) from rk265) q q1 (show q < (I217a 3905) by omega)) (m_r8 (by decide)) (m_r8 (by decide)) q q1 (show q < v306 + 1 by omega)
            have s330 : m_ST lo_14 I_14 A_14 (t_up lo219 v306 (I_14 3905) (8 * (24 - (I 2775)) + (-1))) I305a A305a := m_ST_nd (l := (I_14 3905)) (show m_ST lo_14 I_14 A_14 lo219 I217a A217a from s266) f311 (show (I_14 3905) ≤ (I_14 3905) by omega) (show (I_14 3905) ≤ (I217a 3905) by omega)
            have rk331 : m_RK (t_up lo219 v306 (I_14 3905) (8 * (24 - (I 2775)) + (-1))) (I_14 3905) (I305a 3905) (8 * (24 - (I 2775)) + (-1)) := fun q q1 q2 => m_RK_nd (show m_RK lo219 (I_14 3905) v306 (8 * (24 - (I 2775)) + (-1)) from fun q q1 q2 => (show m_RK lo219 (I_14 3905) (I217a 3905) (8 * (24 - (I 2775)) + (-1)) from rk267) q q1 (show q < (I217a 3905) by omega)) (m_r8 (by decide)) (m_r8 (by decide)) q q1 (show q < v306 + 1 by omega)
            have k332 : m_kd (t_up lo219 v306 (I_14 3905) (8 * (24 - (I 2775)) + (-1))) I305a A305a (I 3905) (8 * (24 - (I 2775)) + (-1)) v12 t_E := m_kd_nd (l := (I_14 3905)) f311 (show m_kd lo219 I217a A217a (I 3905) (8 * (24 - (I 2775)) + (-1)) v12 t_E from k268)
            have k333 : m_kd (t_up lo219 v306 (I_14 3905) (8 * (24 - (I 2775)) + (-1))) I305a A305a (I_14 3905) (8 * (24 - (I 2775)) + (-1)) v306 (fun k => k = 17) := m_kd_new f311 (show 0 ≤ (I_14 3905) by omega) (show (I_14 3905) ≤ v306 by omega) rfl
            have rt334 : m_rt (t_up lo219 v306 (I_14 3905) (8 * (24 - (I 2775)) + (-1))) (I305a 3905) v306 := m_rt_new f311
            have lk335 : m_LK (t_up lo219 v306 (I_14 3905) (8 * (24 - (I 2775)) + (-1))) I305a A305a (v12 + 1) (8 * (24 - (I 2775)) + (-1)) (I_14 3905) y14_3 y14_4 (fun k => k = 17) := m_LK_nd (l := (I_14 3905)) f311 (show (I_14 3905) ≤ (I_14 3905) by first | exact Int.le_refl _ | omega) lk271
            have p336 : (I305a 2754) = (I 2754) := by first | assumption | omega
            have p337 : (I 2774) + 4 ≤ (I305a 2774) := by first | assumption | omega
            have p338 : (I305a 2775) = (I 2775) + (1) := by first | assumption | omega
            have p339 : (I 4289) ≤ (I305a 4289) := by first | assumption | omega
            have p340 : (I305a 5889) = (I 5889) := by first | assumption | omega
            have p341 : (I 3905) ≤ (I305a 3905) := by first | assumption | omega
            have p342 : (I305a 3905) + (11) ≤ (I 3905) + 3 * ((I305a 2774) - (I 2774)) := by first | assumption | omega
            have p343 : (I 4033) ≤ (I305a 4033) := by first | assumption | omega
            have p344 : (I305a 4033) ≤ (I 4033) + ((I305a 2774) - (I 2774)) := by first | assumption | omega
            have p345 : (I_14 2754) = (I 2754) := by first | assumption | omega
            have p346 : (I_14 5889) = (I 5889) := by first | assumption | omega
            have p347 : (I_14 4289) = (I 4289) := by first | assumption | omega
            have p348 : (I_14 2775) = (I 2775) + (1) := by first | assumption | omega
            have p349 : (I_14 3905) ≤ (I305a 3905) := by first | assumption | omega
            have p350 : (I_14 2774) + 4 ≤ (I305a 2774) := by first | assumption | omega
            have p351 : (I 3905) ≤ (I_14 3905) := by first | assumption | omega
            have p352 : (I_14 4289) ≤ (I305a 4289) := by first | assumption | omega
            have p353 : 0 ≤ (I305a 2774) := by first | assumption | omega
            have p354 : (I305a 2774) < (I305a 2754) := by first | assumption | omega
            have p355 : (I305a 2754) ≤ 1501 := by first | assumption | omega
            have p356 : 0 ≤ (I305a 2775) := by first | assumption | omega
            have p357 : (I305a 2775) ≤ 24 := by first | assumption | omega
            have p358 : (I305a 3393) = (I305a 3905) := by first | assumption | omega
            have p359 : (I305a 3521) = (I305a 3905) := by first | assumption | omega
            have p360 : (I305a 3649) = (I305a 3905) := by first | assumption | omega
            have p361 : (I305a 3777) = (I305a 3905) := by first | assumption | omega
            have p362 : 0 ≤ (I305a 3905) := by first | assumption | omega
            have p363 : (I305a 3905) ≤ 3 * (I305a 2774) := by first | assumption | omega
            have p364 : (I305a 4161) = (I305a 4033) := by first | assumption | omega
            have p365 : 7 ≤ (I305a 4289) := by first | assumption | omega
            have p366 : (I305a 4289) ≤ (I305a 4033) := by first | assumption | omega
            have p367 : (I305a 4033) ≤ 7 + (I305a 2774) := by first | assumption | omega
            have p368 : 0 ≤ (I305a 5889) := by first | assumption | omega
            have p369 : (I305a 5889) ≤ (I305a 2774) := by first | assumption | omega
            have p370 : v306 + 1 = (I305a 3905) := by first | assumption | omega
            have p371 : 0 ≤ (I 3905) ∧ (I 3905) ≤ (I 3905) ∧ (I 3905) ≤ v12 ∧ v12 < (I305a 3905) := by first | assumption | omega
            have p372 : 0 ≤ (I_14 3905) ∧ (I 3905) ≤ (I_14 3905) ∧ (I_14 3905) ≤ v306 ∧ v306 < (I305a 3905) := by first | assumption | omega
            have p373 : v12 < (I_14 3905) := by first | assumption | omega
            have p374 : (I_14 3905) ≤ (I_14 3905) := by first | assumption | omega
            clear n233 n234 n235 n236 n237 n238 n239 n240 n241 n242 n243 n244 n245 n246 n247 n248 n249 p278 p279 p280 p281 p282 p283 p284 p285 p286 p287 p288 p289 p290 p291 p292 p293 p294 p295 p296 p297 p298 p299 p300 p301 p302 n312 n313 n314 n315 n316 n317 n318 n319 n320 n321 n322 n323 n324
            show w_W _ _ _ (54, [(6, .int (Int32.ofInt (v125))), (5, .int (Int32.ofInt ((I_14 4289)))), (0, .ref 43), (1, .int (Int32.ofInt (vl))), (2, .int (Int32.ofInt (v12))), (3, .int (Int32.ofInt (y14_3))), (4, .int (Int32.ofInt (y14_4)))], [.int (Int32.ofInt (v306))], M304) _
            refine w_adv (n := 2) (F' := (57, [(7, .int (Int32.ofInt (v306))), (6, .int (Int32.ofInt (v125))), (5, .int (Int32.ofInt ((I_14 4289)))), (0, .ref 43), (1, .int (Int32.ofInt (vl))), (2, .int (Int32.ofInt (v12))), (3, .int (Int32.ofInt (y14_3))), (4, .int (Int32.ofInt (y14_4)))], [.ref 43], M304)) rfl ?_
            refine w_gf (v := .ref 67) hR305a rfl rfl rfl rfl ?_
            refine w_adv (n := 1) (F' := (62, [(7, .int (Int32.ofInt (v306))), (6, .int (Int32.ofInt (v125))), (5, .int (Int32.ofInt ((I_14 4289)))), (0, .ref 43), (1, .int (Int32.ofInt (vl))), (2, .int (Int32.ofInt (v12))), (3, .int (Int32.ofInt (y14_3))), (4, .int (Int32.ofInt (y14_4)))], [.int (Int32.ofInt ((I_14 4289))), .ref 67], M304)) rfl ?_
            obtain ⟨r375a, r375b, r375c⟩ : 0 ≤ (I305a 4289) ∧ (I305a 4289) ≤ (C305a 67 : Int) ∧ (C305a 67 : Int) ≤ 131072 := hR305a.sz (show 67 ∈ w_TM.2.2 by decide)
            refine w_pf hR305a rfl rfl rfl rfl (show w_in ((I_14 4289)) from ⟨by omega, by omega⟩) (fun _ _ => (show 0 ≤ (I_14 4289) ∧ (I_14 4289) ≤ (C305a 67 : Int) by omega)) (fun M376 hR377 => ?_)
            replace hR377 : w_Rep w_TM fr X u l (w_up I305a 4289 ((I_14 4289))) A305a B305a C305a M376 := hR377
            have sc378 : m_SC (w_up I305a 4289 ((I_14 4289))) A305a := m_SC_cut sc326 (show (I_14 4289) ≤ (I305a 4289) by omega) rfl rfl
            refine w_adv (n := 4) (F' := (71, [(7, .int (Int32.ofInt (v306))), (6, .int (Int32.ofInt (v125))), (5, .int (Int32.ofInt ((I_14 4289)))), (0, .ref 43), (1, .int (Int32.ofInt (vl))), (2, .int (Int32.ofInt (v12))), (3, .int (Int32.ofInt (y14_3))), (4, .int (Int32.ofInt (y14_4)))], [.int (Int32.ofInt (v306)), .int (Int32.ofInt (y14_4)), .int (Int32.ofInt (y14_3)), .ref 43], M376)) rfl ?_
            refine w_call (cm := 240) (as := [(0, .ref 43), (1, .int (Int32.ofInt (y14_3))), (2, .int (Int32.ofInt (y14_4))), (3, .int (Int32.ofInt (v306)))]) (rest := []) (o := some (9, 43)) rfl (w_fitR hR377 rfl) (m_linkK (y14_3) (y14_4) (v306) ((t_up lo219 v306 (I_14 3905) (8 * (24 - (I 2775)) + (-1)))) (v12 + 1) ((8 * (24 - (I 2775)) + (-1))) ((I_14 3905)) ((I_14 3905)) ((8 * (24 - (I 2775)) + (-1))) ((fun k => k = 17)) hR377 ⟨by omega, by omega⟩ ⟨by omega, by omega⟩ ⟨by omega, by omega⟩ (show m_LK (t_up lo219 v306 (I_14 3905) (8 * (24 - (I 2775)) + (-1))) (w_up I305a 4289 ((I_14 4289))) A305a (v12 + 1) ((8 * (24 - (I 2775)) + (-1))) (I_14 3905) y14_3 y14_4 (fun k => k = 17) by exact lk335) (show m_kd (t_up lo219 v306 (I_14 3905) (8 * (24 - (I 2775)) + (-1))) (w_up I305a 4289 ((I_14 4289))) A305a (I_14 3905) ((8 * (24 - (I 2775)) + (-1))) v306 (fun k => k = 17) by exact k333) (show m_rt (t_up lo219 v306 (I_14 3905) (8 * (24 - (I 2775)) + (-1))) (I305a 3905) v306 by exact rt334) (show m_TR (t_up lo219 v306 (I_14 3905) (8 * (24 - (I 2775)) + (-1))) (w_up I305a 4289 ((I_14 4289))) A305a by exact tr327) (show 0 ≤ v12 + 1 ∧ v12 + 1 ≤ (I_14 3905) ∧ (I_14 3905) ≤ (I_14 3905) ∧ (8 * (24 - (I 2775)) + (-1)) ≤ (8 * (24 - (I 2775)) + (-1)) by refine ⟨by omega, by omega, by omega, by omega⟩) (show ∀ k k', (fun k => k = 17) k → (fun k => k = 17) k' → t_L k k' by exact fun k k' h1 h2 => Or.inl ⟨by have h1 : k = 17 := h1; have h2 : k' = 17 := h2; omega, by have h1 : k = 17 := h1; omega⟩)) (fun r379 M380 q381 => ?_)
            rcases q381 with ⟨v382, g61383, e384, ⟨r385, r386⟩, hR381a, f387, f388, f389, f390⟩
            rw [e384]
            replace hR381a : w_Rep w_TM fr X u l (w_up I305a 4289 ((I_14 4289))) (w_upF A305a 61 g61383) B305a C305a M380 := hR381a
            replace f387 : m_TR (t_up lo219 v306 (I_14 3905) (8 * (24 - (I 2775)) + (-1))) (w_up I305a 4289 ((I_14 4289))) (w_upF A305a 61 g61383) := f387
            replace f388 : m_LK (t_up lo219 v306 (I_14 3905) (8 * (24 - (I 2775)) + (-1))) (w_up I305a 4289 ((I_14 4289))) (w_upF A305a 61 g61383) (v12 + 1) ((8 * (24 - (I 2775)) + (-1))) (I305a 3905) v382 v306 (fun k => k = 17) := f388
            replace f389 : ∀ (lo0 : Int → Int × Int) (I0 : Nat → Int) (A0 : Nat → Int → Int), m_ST lo0 I0 A0 (t_up lo219 v306 (I_14 3905) (8 * (24 - (I 2775)) + (-1))) (w_up I305a 4289 ((I_14 4289))) A305a → I0 3905 ≤ v12 + 1 → m_ST lo0 I0 A0 (t_up lo219 v306 (I_14 3905) (8 * (24 - (I 2775)) + (-1))) (w_up I305a 4289 ((I_14 4289))) (w_upF A305a 61 g61383) := f389
            replace f390 : 0 ≤ v382 ∧ v382 < (I305a 3905) := f390
            obtain ⟨n391, n392⟩ := id f390
            clear f390
            have s393 : m_ST lo I A (t_up lo219 v306 (I_14 3905) (8 * (24 - (I 2775)) + (-1))) (w_up I305a 4289 ((I_14 4289))) (w_upF A305a 61 g61383) := f389 _ _ _ (show m_ST lo I A (t_up lo219 v306 (I_14 3905) (8 * (24 - (I 2775)) + (-1))) (w_up I305a 4289 ((I_14 4289))) A305a from s328) (show (I 3905) ≤ v12 + 1 by omega)
            obtain ⟨g394, g395, g396, g397, g398, g399⟩ := f388.resolve_left (fun q => by omega)
            obtain ⟨j400, j401, j402, j403, j404⟩ := g396.1
            obtain ⟨j405, j406, j407, j408, j409⟩ := g397.1
            have k410 : m_kd (t_up lo219 v306 (I_14 3905) (8 * (24 - (I 2775)) + (-1))) (w_up I305a 4289 ((I_14 4289))) (w_upF A305a 61 g61383) (I 3905) (8 * (24 - (I 2775)) + (-1)) v12 t_E := k332
            show w_W _ _ _ (74, [(7, .int (Int32.ofInt (v306))), (6, .int (Int32.ofInt (v125))), (5, .int (Int32.ofInt ((I_14 4289)))), (0, .ref 43), (1, .int (Int32.ofInt (vl))), (2, .int (Int32.ofInt (v12))), (3, .int (Int32.ofInt (y14_3))), (4, .int (Int32.ofInt (y14_4)))], [.int (Int32.ofInt (v382))], M380) _
            refine w_adv (n := 5) (F' := (82, [(4, .int (Int32.ofInt (v306))), (3, .int (Int32.ofInt (v382))), (7, .int (Int32.ofInt (v306))), (6, .int (Int32.ofInt (v125))), (5, .int (Int32.ofInt ((I_14 4289)))), (0, .ref 43), (1, .int (Int32.ofInt (vl))), (2, .int (Int32.ofInt (v12)))], [.int (Int32.ofInt (8)), .ref 43], M380)) rfl ?_
            refine w_call (cm := 231) (as := [(0, .ref 43), (1, .int (Int32.ofInt (8)))]) (rest := []) (o := some (9, 43)) rfl (w_fitR hR381a rfl) (m_isWord (8) hR381a ⟨by omega, by omega⟩ (show 0 ≤ (I305a 2774) ∧ (I305a 2774) < 1501 by omega)) (fun r411 M412 q413 => ?_)
            rcases q413 with ⟨e414, e415, f416⟩ | ⟨e417, e418, f419⟩
            · rw [e414, e415]
              replace f416 : (A305a 45) ((I305a 2774)) = 5 ∧ (A305a 46) ((I305a 2774)) = 8 := f416
              obtain ⟨n420, n421⟩ := id f416
              clear f416
              have w422 : (I305a 2774) + 1 < (I305a 2754) := m_TK_lt (show m_TK (w_up I305a 4289 ((I_14 4289))) (w_upF A305a 61 g61383) from tk325) (show (I305a 2774) < (I305a 2754) by omega) (show 1 ≤ (A305a 45) ((I305a 2774)) by omega) (show (A305a 45) ((I305a 2774)) ≤ 6 by omega)
              show w_W _ _ _ (85, [(4, .int (Int32.ofInt (v306))), (3, .int (Int32.ofInt (v382))), (7, .int (Int32.ofInt (v306))), (6, .int (Int32.ofInt (v125))), (5, .int (Int32.ofInt ((I_14 4289)))), (0, .ref 43), (1, .int (Int32.ofInt (vl))), (2, .int (Int32.ofInt (v12)))], [.int (Int32.ofInt (1))], M380) _
              refine w_adv (n := 1) (F' := (14, [(4, .int (Int32.ofInt (v306))), (3, .int (Int32.ofInt (v382))), (7, .int (Int32.ofInt (v306))), (6, .int (Int32.ofInt (v125))), (5, .int (Int32.ofInt ((I_14 4289)))), (0, .ref 43), (1, .int (Int32.ofInt (vl))), (2, .int (Int32.ofInt (v12)))], [], M380)) rfl ?_
              refine w_ls (ls := [(0, .ref 43), (1, .int (Int32.ofInt (vl))), (2, .int (Int32.ofInt (v12))), (3, .int (Int32.ofInt (v382))), (4, .int (Int32.ofInt (v306)))]) (show List.Nodup [0, 1, 2, 3, 4] by decide) (show List.Nodup [4, 3, 7, 6, 5, 0, 1, 2] by decide) (List.forall_mem_cons.mpr ⟨(List.Mem.tail _ (List.Mem.tail _ (List.Mem.tail _ (List.Mem.tail _ (List.Mem.tail _ (List.Mem.head _)))))), (List.forall_mem_cons.mpr ⟨(List.Mem.tail _ (List.Mem.tail _ (List.Mem.tail _ (List.Mem.tail _ (List.Mem.tail _ (List.Mem.tail _ (List.Mem.head _))))))), (List.forall_mem_cons.mpr ⟨(List.Mem.tail _ (List.Mem.tail _ (List.Mem.tail _ (List.Mem.tail _ (List.Mem.tail _ (List.Mem.tail _ (List.Mem.tail _ (List.Mem.head _)))))))), (List.forall_mem_cons.mpr ⟨(List.Mem.tail _ (List.Mem.head _)), (List.forall_mem_cons.mpr ⟨(List.Mem.head _), (fun _ h => by cases h)⟩)⟩)⟩)⟩)⟩) ?_
              exact ih14 (t_up lo219 v306 (I_14 3905) (8 * (24 - (I 2775)) + (-1))) (v382) (v306) (w_up I305a 4289 ((I_14 4289))) (w_upF A305a 61 g61383) B305a C305a M380 hR381a ⟨by omega, by omega⟩ ⟨by omega, by omega⟩ (show (0 ≤ (I305a 2774) ∧ (I305a 2774) < (I305a 2754) ∧ (I305a 2754) ≤ 1501 ∧ 0 ≤ (I305a 2775) ∧ (I305a 2775) ≤ 24) ∧ ((I305a 3393) = (I305a 3905) ∧ (I305a 3521) = (I305a 3905) ∧ (I305a 3649) = (I305a 3905) ∧ (I305a 3777) = (I305a 3905) ∧ 0 ≤ (I305a 3905) ∧ (I305a 3905) ≤ 3 * (I305a 2774)) ∧ ((I305a 4161) = (I305a 4033) ∧ 7 ≤ (I_14 4289) ∧ (I_14 4289) ≤ (I305a 4033) ∧ (I305a 4033) ≤ 7 + (I305a 2774)) ∧ 0 ≤ (I305a 5889) ∧ (I305a 5889) ≤ (I305a 2774) by (repeat' apply And.intro) <;> first | assumption | omega) (show ((I305a 2754) = (I 2754) ∧ (I 2774) ≤ (I305a 2774) ∧ (I305a 2775) = (I 2775) + 1 ∧ (I_14 4289) = (I 4289) + 0 ∧ (I305a 5889) = (I 5889)) ∧ ((I305a 3905) + 4 ≤ (I 3905) + 3 * ((I305a 2774) - (I 2774)) ∧ (I 3905) ≤ (I305a 3905) ∧ (I 4033) ≤ (I305a 4033) ∧ (I305a 4033) ≤ (I 4033) + ((I305a 2774) - (I 2774))) by (repeat' apply And.intro) <;> first | assumption | omega) (show m_TK (w_up I305a 4289 ((I_14 4289))) (w_upF A305a 61 g61383) by exact (show m_TK (w_up I305a 4289 ((I_14 4289))) (w_upF A305a 61 g61383) from tk325)) (show m_SC (w_up I305a 4289 ((I_14 4289))) (w_upF A305a 61 g61383) by exact (show m_SC (w_up I305a 4289 ((I_14 4289))) (w_upF A305a 61 g61383) from sc378)) (show m_TR (t_up lo219 v306 (I_14 3905) (8 * (24 - (I 2775)) + (-1))) (w_up I305a 4289 ((I_14 4289))) (w_upF A305a 61 g61383) by exact f387) (show m_ST lo I A (t_up lo219 v306 (I_14 3905) (8 * (24 - (I 2775)) + (-1))) (w_up I305a 4289 ((I_14 4289))) (w_upF A305a 61 g61383) by exact s393) (show m_fx I A (w_up I305a 4289 ((I_14 4289))) (w_upF A305a 61 g61383) by exact (show m_fx I A (w_up I305a 4289 ((I_14 4289))) (w_upF A305a 61 g61383) from (m_fx_trans (m_fx_trans (m_fx_trans hi14_6 f130) f223) f310))) (show m_LK (t_up lo219 v306 (I_14 3905) (8 * (24 - (I 2775)) + (-1))) (w_up I305a 4289 ((I_14 4289))) (w_upF A305a 61 g61383) (v12 + 1) (8 * (24 - (I 2775)) + (-1)) (I305a 3905) v382 v306 (fun k => k = 17) by exact f388) (show m_RK (t_up lo219 v306 (I_14 3905) (8 * (24 - (I 2775)) + (-1))) (I 3905) (I305a 3905) (8 * (24 - (I 2775)) + (-1)) by exact m_RK_le (show m_RK (t_up lo219 v306 (I_14 3905) (8 * (24 - (I 2775)) + (-1))) (I 3905) (I305a 3905) (8 * (24 - (I 2775)) + (-1)) from rk329) (show (8 * (24 - (I 2775)) + (-1)) ≤ (8 * (24 - (I 2775)) + (-1)) by omega)) (show m_kd (t_up lo219 v306 (I_14 3905) (8 * (24 - (I 2775)) + (-1))) (w_up I305a 4289 ((I_14 4289))) (w_upF A305a 61 g61383) (I 3905) (8 * (24 - (I 2775)) + (-1)) v12 t_E by exact m_kd_l k410 (by omega) (by omega) (by omega)) (show (I305a 2754) - (I305a 2774) < (fu : Int) by omega)
            · rw [e417, e418]
              replace f419 : ¬ ((A305a 45) ((I305a 2774)) = 5 ∧ (A305a 46) ((I305a 2774)) = 8) := f419
              show w_W _ _ _ (85, [(4, .int (Int32.ofInt (v306))), (3, .int (Int32.ofInt (v382))), (7, .int (Int32.ofInt (v306))), (6, .int (Int32.ofInt (v125))), (5, .int (Int32.ofInt ((I_14 4289)))), (0, .ref 43), (1, .int (Int32.ofInt (vl))), (2, .int (Int32.ofInt (v12)))], [.int (Int32.ofInt (0))], M380) _
              refine w_adv (n := 1) (F' := (88, [(4, .int (Int32.ofInt (v306))), (3, .int (Int32.ofInt (v382))), (7, .int (Int32.ofInt (v306))), (6, .int (Int32.ofInt (v125))), (5, .int (Int32.ofInt ((I_14 4289)))), (0, .ref 43), (1, .int (Int32.ofInt (vl))), (2, .int (Int32.ofInt (v12)))], [], M380)) rfl ?_
              refine w_ls (ls := [(0, .ref 43), (1, .int (Int32.ofInt (vl))), (2, .int (Int32.ofInt (v12))), (3, .int (Int32.ofInt (v382))), (4, .int (Int32.ofInt (v306)))]) (show List.Nodup [0, 1, 2, 3, 4] by decide) (show List.Nodup [4, 3, 7, 6, 5, 0, 1, 2] by decide) (List.forall_mem_cons.mpr ⟨(List.Mem.tail _ (List.Mem.tail _ (List.Mem.tail _ (List.Mem.tail _ (List.Mem.tail _ (List.Mem.head _)))))), (List.forall_mem_cons.mpr ⟨(List.Mem.tail _ (List.Mem.tail _ (List.Mem.tail _ (List.Mem.tail _ (List.Mem.tail _ (List.Mem.tail _ (List.Mem.head _))))))), (List.forall_mem_cons.mpr ⟨(List.Mem.tail _ (List.Mem.tail _ (List.Mem.tail _ (List.Mem.tail _ (List.Mem.tail _ (List.Mem.tail _ (List.Mem.tail _ (List.Mem.head _)))))))), (List.forall_mem_cons.mpr ⟨(List.Mem.tail _ (List.Mem.head _)), (List.forall_mem_cons.mpr ⟨(List.Mem.head _), (fun _ h => by cases h)⟩)⟩)⟩)⟩)⟩) ?_
              exact m_cases_lp88 hA (vl) lo hd ra_vl rb_vl hTK hNU hSC hTR hk hm (v12) (t_up lo219 v306 (I_14 3905) (8 * (24 - (I 2775)) + (-1))) (v382) (v306) (w_up I305a 4289 ((I_14 4289))) (w_upF A305a 61 g61383) B305a C305a M380 hR381a ⟨by omega, by omega⟩ ⟨by omega, by omega⟩ (show (0 ≤ (I305a 2774) ∧ (I305a 2774) < (I305a 2754) ∧ (I305a 2754) ≤ 1501 ∧ 0 ≤ (I305a 2775) ∧ (I305a 2775) ≤ 24) ∧ ((I305a 3393) = (I305a 3905) ∧ (I305a 3521) = (I305a 3905) ∧ (I305a 3649) = (I305a 3905) ∧ (I305a 3777) = (I305a 3905) ∧ 0 ≤ (I305a 3905) ∧ (I305a 3905) ≤ 3 * (I305a 2774)) ∧ ((I305a 4161) = (I305a 4033) ∧ 7 ≤ (I_14 4289) ∧ (I_14 4289) ≤ (I305a 4033) ∧ (I305a 4033) ≤ 7 + (I305a 2774)) ∧ 0 ≤ (I305a 5889) ∧ (I305a 5889) ≤ (I305a 2774) by (repeat' apply And.intro) <;> first | assumption | omega) (show ((I305a 2754) = (I 2754) ∧ (I 2774) ≤ (I305a 2774) ∧ (I305a 2775) = (I 2775) + 1 ∧ (I_14 4289) = (I 4289) + 0 ∧ (I305a 5889) = (I 5889)) ∧ ((I305a 3905) + 4 ≤ (I 3905) + 3 * ((I305a 2774) - (I 2774)) ∧ (I 3905) ≤ (I305a 3905) ∧ (I 4033) ≤ (I305a 4033) ∧ (I305a 4033) ≤ (I 4033) + ((I305a 2774) - (I 2774))) by (repeat' apply And.intro) <;> first | assumption | omega) (show m_TK (w_up I305a 4289 ((I_14 4289))) (w_upF A305a 61 g61383) by exact (show m_TK (w_up I305a 4289 ((I_14 4289))) (w_upF A305a 61 g61383) from tk325)) (show m_SC (w_up I305a 4289 ((I_14 4289))) (w_upF A305a 61 g61383) by exact (show m_SC (w_up I305a 4289 ((I_14 4289))) (w_upF A305a 61 g61383) from sc378)) (show m_TR (t_up lo219 v306 (I_14 3905) (8 * (24 - (I 2775)) + (-1))) (w_up I305a 4289 ((I_14 4289))) (w_upF A305a 61 g61383) by exact f387) (show m_ST lo I A (t_up lo219 v306 (I_14 3905) (8 * (24 - (I 2775)) + (-1))) (w_up I305a 4289 ((I_14 4289))) (w_upF A305a 61 g61383) by exact s393) (show m_fx I A (w_up I305a 4289 ((I_14 4289))) (w_upF A305a 61 g61383) by exact (show m_fx I A (w_up I305a 4289 ((I_14 4289))) (w_upF A305a 61 g61383) from (m_fx_trans (m_fx_trans (m_fx_trans hi14_6 f130) f223) f310))) (show m_LK (t_up lo219 v306 (I_14 3905) (8 * (24 - (I 2775)) + (-1))) (w_up I305a 4289 ((I_14 4289))) (w_upF A305a 61 g61383) (v12 + 1) (8 * (24 - (I 2775)) + (-1)) (I305a 3905) v382 v306 (fun k => k = 17) by exact f388) (show m_RK (t_up lo219 v306 (I_14 3905) (8 * (24 - (I 2775)) + (-1))) (I 3905) (I305a 3905) (8 * (24 - (I 2775)) + (-1)) by exact m_RK_le (show m_RK (t_up lo219 v306 (I_14 3905) (8 * (24 - (I 2775)) + (-1))) (I 3905) (I305a 3905) (8 * (24 - (I 2775)) + (-1)) from rk329) (show (8 * (24 - (I 2775)) + (-1)) ≤ (8 * (24 - (I 2775)) + (-1)) by omega)) (show m_kd (t_up lo219 v306 (I_14 3905) (8 * (24 - (I 2775)) + (-1))) (w_up I305a 4289 ((I_14 4289))) (w_upF A305a 61 g61383) (I 3905) (8 * (24 - (I 2775)) + (-1)) v12 t_E by exact m_kd_l k410 (by omega) (by omega) (by omega)) (show 0 ≤ v382 by omega)
          · rw [e231]
            replace hR217b : w_Rep w_TM fr X u l I217b A217b B217b C217b M216 := hR217b
            replace f232 : m_fx (w_up I124a 2774 ((I124a 2774) + 1)) A124a I217b A217b := f232
            exact Or.inr (⟨I217b, A217b, B217b, C217b, rfl, hR217b, (show m_fx I A I217b A217b by exact (m_fx_trans (m_fx_trans hi14_6 f130) f232))⟩)
        · rw [e210]
          replace hR207b : w_Rep w_TM fr X u l I207b A207b B207b C207b M206 := hR207b
          replace f211 : m_fx I124a A124a I207b A207b := f211
          exact Or.inr (⟨I207b, A207b, B207b, C207b, rfl, hR207b, (show m_fx I A I207b A207b by exact (m_fx_trans (m_fx_trans hi14_6 f130) f211))⟩)
      · rw [e138]
        replace hR124b : w_Rep w_TM fr X u l I124b A124b B124b C124b M123 := hR124b
        replace f139 : m_fx (w_up I_14 2774 ((I_14 2774) + 1)) A_14 I124b A124b := f139
        exact Or.inr (⟨I124b, A124b, B124b, C124b, rfl, hR124b, (show m_fx I A I124b A124b by exact (m_fx_trans hi14_6 f139))⟩)
    · rw [e114]
      replace hR111b : w_Rep w_TM fr X u l I111b A111b B111b C111b M110 := hR111b
      replace f115 : m_fx I_14 A_14 I111b A111b := f115
      exact Or.inr (⟨I111b, A111b, B111b, C111b, rfl, hR111b, (show m_fx I A I111b A111b by exact (m_fx_trans hi14_6 f115))⟩)
