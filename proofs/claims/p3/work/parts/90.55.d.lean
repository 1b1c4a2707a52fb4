def m_cases_Q (fr : Nat → Bool) (X : Nat → Option (q_C (Nat → Int32))) (u l : Nat) (I : Nat → Int) (A : Nat → Int → Int) (B C : Nat → Nat) (M : w_M) (vl : Int) (lo : Int → Int × Int) : w_X → w_M → Prop := fun r M' => (∃ v : Int, ∃ lo' : Int → Int × Int, ∃ (I' : Nat → Int) (A' : Nat → Int → Int) (B' C' : Nat → Nat), (r = .inl (some v)) ∧ (w_in v) ∧ (w_Rep w_TM fr X u l I' A' B' C' M') ∧ (m_fx I A I' A') ∧ (((0 ≤ (I' 2774) ∧ (I' 2774) < (I' 2754) ∧ (I' 2754) ≤ 1501 ∧ 0 ≤ (I' 2775) ∧ (I' 2775) ≤ 24) ∧ ((I' 3393) = (I' 3905) ∧ (I' 3521) = (I' 3905) ∧ (I' 3649) = (I' 3905) ∧ (I' 3777) = (I' 3905) ∧ 0 ≤ (I' 3905) ∧ (I' 3905) ≤ 3 * (I' 2774)) ∧ ((I' 4161) = (I' 4033) ∧ 7 ≤ (I' 4289) ∧ (I' 4289) ≤ (I' 4033) ∧ (I' 4033) ≤ 7 + (I' 2774)) ∧ 0 ≤ (I' 5889) ∧ (I' 5889) ≤ (I' 2774)) ∧ ((I' 2754) = (I 2754) ∧ (I 2774) + 1 ≤ (I' 2774) ∧ (I' 2775) = (I 2775) ∧ (I' 4289) = (I 4289) + 0 ∧ (I' 5889) = (I 5889)) ∧ ((I' 3905) + 2 ≤ (I 3905) + 3 * ((I' 2774) - (I 2774)) ∧ (I 3905) ≤ v ∧ v + 1 = (I' 3905) ∧ (I 4033) ≤ (I' 4033) ∧ (I' 4033) ≤ (I 4033) + ((I' 2774) - (I 2774)))) ∧ (m_SC I' A') ∧ (m_TR lo' I' A') ∧ (m_ST lo I A lo' I' A') ∧ ((fun k => k = 16) ((A' 53) (v))) ∧ (m_rt lo' (I' 3905) v) ∧ (m_RK lo' (I 3905) (I' 3905) (8 * (24 - (I 2775)) + 0))) ∨ (∃ (I' : Nat → Int) (A' : Nat → Int → Int) (B' C' : Nat → Nat), (r = .inr 69) ∧ (w_Rep w_TM fr X u l I' A' B' C' M') ∧ (m_fx I A I' A'))
set_option maxHeartbeats 100000000 in
set_option maxRecDepth 100000 in
theorem m_cases_lp88 {L : Nat} {xs : Nat → Int32} {d : Nat} {fr : Nat → Bool} {X : Nat → Option (q_C (Nat → Int32))} {u l : Nat} {I : Nat → Int} {A : Nat → Int → Int} {B C : Nat → Nat} {M : w_M} {N : Int} (hA : m_all L xs N) (vl : Int) (lo : Int → Int × Int) (hd : 20 * (24 - (I 2775)) + 11 ≤ ((d + 1 : Nat) : Int)) (ra_vl : -2147483648 ≤ vl) (rb_vl : vl ≤ 2147483647) (hTK : m_TK I A) (hNU : (0 ≤ (I 2774) ∧ (I 2774) < (I 2754) ∧ (I 2754) ≤ 1501 ∧ 0 ≤ (I 2775) ∧ (I 2775) ≤ 24) ∧ ((I 3393) = (I 3905) ∧ (I 3521) = (I 3905) ∧ (I 3649) = (I 3905) ∧ (I 3777) = (I 3905) ∧ 0 ≤ (I 3905) ∧ (I 3905) ≤ 3 * (I 2774)) ∧ ((I 4161) = (I 4033) ∧ 7 ≤ (I 4289) ∧ (I 4289) ≤ (I 4033) ∧ (I 4033) ≤ 7 + (I 2774)) ∧ 0 ≤ (I 5889) ∧ (I 5889) ≤ (I 2774)) (hSC : m_SC I A) (hTR : m_TR lo I A) (hk : 1 ≤ (A 45) ((I 2774)) ∧ (A 45) ((I 2774)) ≤ 6) (hm : (I 2754) - (I 2774) ≤ N) (v12 : Int) : ∀ (lo_88 : Int → Int × Int) (y88_3 : Int) (y88_4 : Int) (I_88 : Nat → Int) (A_88 : Nat → Int → Int) (B_88 C_88 : Nat → Nat) (M_88 : w_M) (hR_88 : w_Rep w_TM fr X u l I_88 A_88 B_88 C_88 M_88), w_in y88_3 → w_in y88_4 → (0 ≤ (I_88 2774) ∧ (I_88 2774) < (I_88 2754) ∧ (I_88 2754) ≤ 1501 ∧ 0 ≤ (I_88 2775) ∧ (I_88 2775) ≤ 24) ∧ ((I_88 3393) = (I_88 3905) ∧ (I_88 3521) = (I_88 3905) ∧ (I_88 3649) = (I_88 3905) ∧ (I_88 3777) = (I_88 3905) ∧ 0 ≤ (I_88 3905) ∧ (I_88 3905) ≤ 3 * (I_88 2774)) ∧ ((I_88 4161) = (I_88 4033) ∧ 7 ≤ (I_88 4289) ∧ (I_88 4289) ≤ (I_88 4033) ∧ (I_88 4033) ≤ 7 + (I_88 2774)) ∧ 0 ≤ (I_88 5889) ∧ (I_88 5889) ≤ (I_88 2774) → ((I_88 2754) = (I 2754) ∧ (I 2774) ≤ (I_88 2774) ∧ (I_88 2775) = (I 2775) + 1 ∧ (I_88 4289) = (I 4289) + 0 ∧ (I_88 5889) = (I 5889)) ∧ ((I_88 3905) + 4 ≤ (I 3905) + 3 * ((I_88 2774) - (I 2774)) ∧ (I 3905) ≤ (I_88 3905) ∧ (I 4033) ≤ (I_88 4033) ∧ (I_88 4033) ≤ (I 4033) + ((I_88 2774) - (I 2774))) → m_TK I_88 A_88 → m_SC I_88 A_88 → m_TR lo_88 I_88 A_88 → m_ST lo I A lo_88 I_88 A_88 → m_fx I A I_88 A_88 → m_LK lo_88 I_88 A_88 (v12 + 1) (8 * (24 - (I 2775)) + (-1)) (I_88 3905) y88_3 y88_4 (fun k => k = 17) → m_RK lo_88 (I 3905) (I_88 3905) (8 * (24 - (I 2775)) + (-1)) → m_kd lo_88 I_88 A_88 (I 3905) (8 * (24 - (I 2775)) + (-1)) v12 t_E → 0 ≤ y88_3 → w_W (z_P L xs) (d + 1) 269 (88, [(0, .ref 43), (1, .int (Int32.ofInt (vl))), (2, .int (Int32.ofInt (v12))), (3, .int (Int32.ofInt (y88_3))), (4, .int (Int32.ofInt (y88_4)))], [], M_88) (m_cases_Q fr X u l I A B C M vl lo) := by
    intro lo_88 y88_3 y88_4 I_88 A_88 B_88 C_88 M_88 hR_88 ⟨ra_y88_3, rb_y88_3⟩ ⟨ra_y88_4, rb_y88_4⟩ hi88_0 hi88_1 hi88_2 hi88_3 hi88_4 hi88_5 hi88_6 hi88_7 hi88_8 hi88_9 hi88_10 
    obtain ⟨⟨n423, n424, n425, n426, n427⟩, ⟨n428, n429, n430, n431, n432, n433⟩, ⟨n434, n435, n436, n437⟩, n438, n439⟩ := hi88_0
    obtain ⟨⟨n440, n441, n442, n443, n444⟩, ⟨n445, n446, n447, n448⟩⟩ := hi88_1
    obtain ⟨j449, j450, j451, j452, j453⟩ := hi88_9.1
    obtain ⟨g454, g455, g456, g457, g458, g459⟩ := hi88_7.resolve_left (fun q => by omega)
    obtain ⟨j460, j461, j462, j463, j464⟩ := g456.1
    obtain ⟨j465, j466, j467, j468, j469⟩ := g457.1
    refine w_adv (n := 2) (F' := (91, [(0, .ref 43), (1, .int (Int32.ofInt (vl))), (2, .int (Int32.ofInt (v12))), (3, .int (Int32.ofInt (y88_3))), (4, .int (Int32.ofInt (y88_4)))], [.int (Int32.ofInt (6)), .ref 43], M_88)) rfl ?_
    refine w_call (cm := 231) (as := [(0, .ref 43), (1, .int (Int32.ofInt (6)))]) (rest := []) (o := some (9, 43)) rfl (w_fitR hR_88 rfl) (m_isWord (6) hR_88 ⟨by omega, by omega⟩ (show 0 ≤ (I_88 2774) ∧ (I_88 2774) < 1501 by omega)) (fun r470 M471 q472 => ?_)
    rcases q472 with ⟨e473, e474, f475⟩ | ⟨e476, e477, f478⟩
    · rw [e473, e474]
      replace f475 : (A_88 45) ((I_88 2774)) = 5 ∧ (A_88 46) ((I_88 2774)) = 6 := f475
      obtain ⟨n479, n480⟩ := id f475
      clear f475
      have w481 : (I_88 2774) + 1 < (I_88 2754) := m_TK_lt hi88_2 (show (I_88 2774) < (I_88 2754) by omega) (show 1 ≤ (A_88 45) ((I_88 2774)) by omega) (show (A_88 45) ((I_88 2774)) ≤ 6 by omega)
      show w_W _ _ _ (94, [(0, .ref 43), (1, .int (Int32.ofInt (vl))), (2, .int (Int32.ofInt (v12))), (3, .int (Int32.ofInt (y88_3))), (4, .int (Int32.ofInt (y88_4)))], [.int (Int32.ofInt (1))], M_88) _
      refine w_adv (n := 3) (F' := (99, [(0, .ref 43), (1, .int (Int32.ofInt (vl))), (2, .int (Int32.ofInt (v12))), (3, .int (Int32.ofInt (y88_3))), (4, .int (Int32.ofInt (y88_4)))], [.ref 43, .ref 43], M_88)) rfl ?_
      refine w_gf (v := .int (Int32.ofInt ((I_88 2774)))) hR_88 rfl rfl rfl rfl ?_
      obtain ⟨r482, r483⟩ : -2147483648 ≤ (I_88 2774) ∧ (I_88 2774) ≤ 2147483647 := hR_88.ri 2774
      refine w_adv (n := 1) (F' := (103, [(0, .ref 43), (1, .int (Int32.ofInt (vl))), (2, .int (Int32.ofInt (v12))), (3, .int (Int32.ofInt (y88_3))), (4, .int (Int32.ofInt (y88_4)))], [.int (Int32.ofInt (1)), .int (Int32.ofInt ((I_88 2774))), .ref 43], M_88)) rfl ?_
      refine w_add rfl ?_
      refine w_pf hR_88 rfl rfl rfl rfl (show w_in ((I_88 2774) + 1) from ⟨by omega, by omega⟩) (fun h => absurd h (by decide)) (fun M484 hR485 => ?_)
      replace hR485 : w_Rep w_TM fr X u l (w_up I_88 2774 ((I_88 2774) + 1)) A_88 B_88 C_88 M484 := hR485
      skip
      refine w_adv (n := 5) (F' := (113, [(0, .ref 43), (1, .int (Int32.ofInt (vl))), (2, .int (Int32.ofInt (v12))), (3, .int (Int32.ofInt (y88_3))), (4, .int (Int32.ofInt (y88_4)))], [.int (Int32.ofInt (vl)), .ref 43, .int (Int32.ofInt ((-1))), .int (Int32.ofInt (17)), .ref 43], M484)) rfl ?_
      refine w_call (cm := 242) (as := [(0, .ref 43), (1, .int (Int32.ofInt (vl)))]) (rest := [.int (Int32.ofInt ((-1))), .int (Int32.ofInt (17)), .ref 43]) (o := some (9, 43)) rfl (w_fitR hR485 rfl) (m_bodyOr hA (vl) (lo_88) hR485 (show 20 * (24 - (I_88 2775)) + 21 ≤ (d : Int) by omega) ⟨by omega, by omega⟩ (show m_TK (w_up I_88 2774 ((I_88 2774) + 1)) A_88 by exact hi88_2) (show (0 ≤ (I_88 2774) + 1 ∧ (I_88 2774) + 1 < (I_88 2754) ∧ (I_88 2754) ≤ 1501 ∧ 0 ≤ (I_88 2775) ∧ (I_88 2775) ≤ 24) ∧ ((I_88 3393) = (I_88 3905) ∧ (I_88 3521) = (I_88 3905) ∧ (I_88 3649) = (I_88 3905) ∧ (I_88 3777) = (I_88 3905) ∧ 0 ≤ (I_88 3905) ∧ (I_88 3905) ≤ 3 * ((I_88 2774) + 1)) ∧ ((I_88 4161) = (I_88 4033) ∧ 7 ≤ (I_88 4289) ∧ (I_88 4289) ≤ (I_88 4033) ∧ (I_88 4033) ≤ 7 + ((I_88 2774) + 1)) ∧ 0 ≤ (I_88 5889) ∧ (I_88 5889) ≤ (I_88 2774) + 1 by (repeat' apply And.intro) <;> first | assumption | omega) (show m_SC (w_up I_88 2774 ((I_88 2774) + 1)) A_88 by exact hi88_3) (show m_TR lo_88 (w_up I_88 2774 ((I_88 2774) + 1)) A_88 by exact hi88_4) (show (I_88 2754) - ((I_88 2774) + 1) < N by first | assumption | omega)) (fun r486 M487 q488 => ?_)
      rcases q488 with ⟨v489, lo490, I488a, A488a, B488a, C488a, e491, ⟨r492, r493⟩, hR488a, f494, f495, f496, f497, f498, f499, f500, f501⟩ | ⟨I488b, A488b, B488b, C488b, e502, hR488b, f503⟩
      · rw [e491]
        replace hR488a : w_Rep w_TM fr X u l I488a A488a B488a C488a M487 := hR488a
        replace f494 : m_fx (w_up I_88 2774 ((I_88 2774) + 1)) A_88 I488a A488a := f494
        replace f495 : ((0 ≤ (I488a 2774) ∧ (I488a 2774) < (I488a 2754) ∧ (I488a 2754) ≤ 1501 ∧ 0 ≤ (I488a 2775) ∧ (I488a 2775) ≤ 24) ∧ ((I488a 3393) = (I488a 3905) ∧ (I488a 3521) = (I488a 3905) ∧ (I488a 3649) = (I488a 3905) ∧ (I488a 3777) = (I488a 3905) ∧ 0 ≤ (I488a 3905) ∧ (I488a 3905) ≤ 3 * (I488a 2774)) ∧ ((I488a 4161) = (I488a 4033) ∧ 7 ≤ (I488a 4289) ∧ (I488a 4289) ≤ (I488a 4033) ∧ (I488a 4033) ≤ 7 + (I488a 2774)) ∧ 0 ≤ (I488a 5889) ∧ (I488a 5889) ≤ (I488a 2774)) ∧ ((I488a 2754) = (I_88 2754) ∧ ((I_88 2774) + 1) + 1 ≤ (I488a 2774) ∧ (I488a 2775) = (I_88 2775) ∧ (I488a 4289) = (I_88 4289) + 0 ∧ (I488a 5889) = (I_88 5889)) ∧ ((I488a 3905) + 1 ≤ (I_88 3905) + 3 * ((I488a 2774) - ((I_88 2774) + 1)) ∧ (I_88 3905) ≤ v489 ∧ v489 + 1 = (I488a 3905) ∧ (I_88 4033) ≤ (I488a 4033) ∧ (I488a 4033) ≤ (I_88 4033) + ((I488a 2774) - ((I_88 2774) + 1))) := f495
        obtain ⟨⟨⟨n504, n505, n506, n507, n508⟩, ⟨n509, n510, n511, n512, n513, n514⟩, ⟨n515, n516, n517, n518⟩, n519, n520⟩, ⟨n521, n522, n523, n524, n525⟩, ⟨n526, n527, n528, n529, n530⟩⟩ := id f495
        clear f495
        replace f496 : m_SC I488a A488a := f496
        replace f497 : m_TR lo490 I488a A488a := f497
        replace f498 : m_ST lo_88 (w_up I_88 2774 ((I_88 2774) + 1)) A_88 lo490 I488a A488a := f498
        replace f499 : t_B ((A488a 53) (v489)) := f499
        replace f500 : m_rt lo490 (I488a 3905) v489 := f500
        replace f501 : m_RK lo490 (I_88 3905) (I488a 3905) (8 * (24 - (I_88 2775)) + 7) := f501
        have tk531 : m_TK I488a A488a := m_TK_fx f494 hi88_2
        have nn532 : (I_88 3905) ≤ (I488a 3905) := by omega
        have nz533 : 0 ≤ (I_88 3905) := by first | assumption | omega
        have ho534 : (I_88 2775) = (I 2775) + (1) := by omega
        have rk536 : m_RK lo490 (I 3905) (I488a 3905) (8 * (24 - (I 2775)) + (-1)) := m_RK_app (I := (w_up I_88 2774 ((I_88 2774) + 1))) (I' := I488a) (R := (8 * (24 - (I 2775)) + (-1))) (show m_RK lo_88 (I 3905) (I_88 3905) (8 * (24 - (I 2775)) + (-1)) from hi88_8) f498 f501 (show 0 ≤ (I 3905) by first | assumption | omega) (m_r8 (by decide)) (m_r8o (k := 1) ho534 (by decide))
        have s535 : m_ST lo I A lo490 I488a A488a := m_ST_trans (show m_ST lo I A lo_88 (w_up I_88 2774 ((I_88 2774) + 1)) A_88 from hi88_5) f498 (show 0 ≤ (I 3905) by first | assumption | omega) (show (I 3905) ≤ (I_88 3905) by first | assumption | omega) (show (I 4289) ≤ (I_88 4289) by first | assumption | omega) (show (I 5889) ≤ (I_88 5889) by first | assumption | omega)
        have rk538 : m_RK lo490 (I_88 3905) (I488a 3905) (8 * (24 - (I 2775)) + (-1)) := m_RK_app (I := (w_up I_88 2774 ((I_88 2774) + 1))) (I' := I488a) (R := (8 * (24 - (I 2775)) + (-1))) (show m_RK lo_88 (I_88 3905) (I_88 3905) (8 * (24 - (I 2775)) + (-1)) from fun q q1 q2 => by omega) f498 f501 (show 0 ≤ (I_88 3905) by first | assumption | omega) (m_r8 (by decide)) (m_r8o (k := 1) ho534 (by decide))
        have s537 : m_ST lo_88 (w_up I_88 2774 ((I_88 2774) + 1)) A_88 lo490 I488a A488a := f498
        have k539 : m_kd lo490 I488a A488a (I 3905) (8 * (24 - (I 2775)) + (-1)) v12 t_E := m_kd_ST f498 nn532 hi88_9
        have k540 : m_kd lo490 I488a A488a (v12 + 1) (8 * (24 - (I 2775)) + (-1)) y88_3 (fun k => k = 17) := m_kd_ST f498 nn532 g456
        have rt541 := m_rt_ST f498 (show 0 ≤ y88_3 by omega) (show y88_3 < (I_88 3905) by omega) g458
        have k542 : m_kd lo490 I488a A488a (v12 + 1) (8 * (24 - (I 2775)) + (-1)) y88_4 (fun k => k = 17) := m_kd_ST f498 nn532 g457
        have rt543 := m_rt_ST f498 (show 0 ≤ y88_4 by omega) (show y88_4 < (I_88 3905) by omega) g459
        have k544 : m_kd lo490 I488a A488a (I_88 3905) (8 * (24 - (I_88 2775)) + 7) v489 t_B := m_kd_of (I := (w_up I_88 2774 ((I_88 2774) + 1))) f498 f497 nz533 (show (I_88 3905) ≤ v489 by first | assumption | omega) (show v489 < (I488a 3905) by omega) f499 f501
        obtain ⟨j545, j546, j547, j548, j549⟩ := k544.1
        have p550 : (I488a 2754) = (I 2754) := by first | assumption | omega
        have p551 : (I 2774) + 2 ≤ (I488a 2774) := by first | assumption | omega
        have p552 : (I488a 2775) = (I 2775) + (1) := by first | assumption | omega
        have p553 : (I488a 4289) = (I 4289) := by first | assumption | omega
        have p554 : (I488a 5889) = (I 5889) := by first | assumption | omega
        have p555 : (I 3905) ≤ (I488a 3905) := by first | assumption | omega
        have p556 : (I488a 3905) + (8) ≤ (I 3905) + 3 * ((I488a 2774) - (I 2774)) := by first | assumption | omega
        have p557 : (I 4033) ≤ (I488a 4033) := by first | assumption | omega
        have p558 : (I488a 4033) ≤ (I 4033) + ((I488a 2774) - (I 2774)) := by first | assumption | omega
        have p559 : (I_88 3905) ≤ (I488a 3905) := by first | assumption | omega
        have p560 : (I 3905) ≤ (I_88 3905) := by first | assumption | omega
        have p561 : (I_88 3905) ≤ v489 := by first | assumption | omega
        have p562 : 0 ≤ (I 3905) ∧ (I 3905) ≤ (I 3905) ∧ (I 3905) ≤ v12 ∧ v12 < (I488a 3905) := by first | assumption | omega
        have p563 : 0 ≤ v12 + 1 ∧ (I 3905) ≤ v12 + 1 ∧ v12 + 1 ≤ y88_3 ∧ y88_3 < (I488a 3905) := by first | assumption | omega
        have p564 : 0 ≤ v12 + 1 ∧ (I 3905) ≤ v12 + 1 ∧ v12 + 1 ≤ y88_4 ∧ y88_4 < (I488a 3905) := by first | assumption | omega
        have p565 : 0 ≤ (I_88 3905) ∧ (I 3905) ≤ (I_88 3905) ∧ (I_88 3905) ≤ v489 ∧ v489 < (I488a 3905) := by first | assumption | omega
        have p566 : y88_4 < (I_88 3905) := by first | assumption | omega
        clear n423 n424 n425 n426 n427 n428 n429 n430 n431 n432 n433 n434 n435 n436 n437 n438 n439 n440 n441 n442 n443 n444 n445 n446 n447 n448 n479 n480 n521 n522 n523 n524 n525 n526 n527 n528 n529 n530
        show w_W _ _ _ (116, [(0, .ref 43), (1, .int (Int32.ofInt (vl))), (2, .int (Int32.ofInt (v12))), (3, .int (Int32.ofInt (y88_3))), (4, .int (Int32.ofInt (y88_4)))], [.int (Int32.ofInt (v489)), .int (Int32.ofInt ((-1))), .int (Int32.ofInt (17)), .ref 43], M487) _
        refine w_adv (n := 1) (F' := (117, [(0, .ref 43), (1, .int (Int32.ofInt (vl))), (2, .int (Int32.ofInt (v12))), (3, .int (Int32.ofInt (y88_3))), (4, .int (Int32.ofInt (y88_4)))], [.int (Int32.ofInt (0)), .int (Int32.ofInt (v489)), .int (Int32.ofInt ((-1))), .int (Int32.ofInt (17)), .ref 43], M487)) rfl ?_
        refine w_call (cm := 239) (as := [(0, .ref 43), (1, .int (Int32.ofInt (17))), (2, .int (Int32.ofInt ((-1)))), (3, .int (Int32.ofInt (v489))), (4, .int (Int32.ofInt (0)))]) (rest := []) (o := some (9, 43)) rfl (w_fitR hR488a rfl) (m_node (17) ((-1)) (v489) (0) hR488a (show 2 ≤ d by omega) ⟨by omega, by omega⟩ ⟨by omega, by omega⟩ ⟨by omega, by omega⟩ ⟨by omega, by omega⟩ (show (I488a 3393) = (I488a 3905) by first | assumption | omega) (show (I488a 3521) = (I488a 3905) by first | assumption | omega) (show (I488a 3649) = (I488a 3905) by first | assumption | omega) (show (I488a 3777) = (I488a 3905) by first | assumption | omega) (show (I488a 3905) < 65536 by first | assumption | omega)) (fun r567 M568 q569 => ?_)
        rcases q569 with ⟨v570, I569a, A569a, B569a, C569a, e571, ⟨r572, r573⟩, hR569a, f574, f575⟩
        rw [e571]
        replace hR569a : w_Rep w_TM fr X u l I569a A569a B569a C569a M568 := hR569a
        replace f574 : m_fx I488a A488a I569a A569a := f574
        replace f575 : m_nd I488a A488a I569a A569a v570 17 (-1) v489 0 := f575
        obtain ⟨⟨n576, n577, n578, n579, n580, n581⟩, ⟨n582, n583, n584, n585, n586, n587, n588⟩⟩ : (v570 = (I488a 3905) ∧ (I569a 3905) = (I488a 3905) + 1 ∧ (I569a 3393) = (I488a 3393) + 1 ∧ (I569a 3521) = (I488a 3521) + 1 ∧ (I569a 3649) = (I488a 3649) + 1 ∧ (I569a 3777) = (I488a 3777) + 1) ∧ ((I569a 2774) = (I488a 2774) ∧ (I569a 2754) = (I488a 2754) ∧ (I569a 2775) = (I488a 2775) ∧ (I569a 4289) = (I488a 4289) ∧ (I569a 4033) = (I488a 4033) ∧ (I569a 4161) = (I488a 4161) ∧ (I569a 5889) = (I488a 5889)) := m_nd_num f575
        have tk589 : m_TK I569a A569a := m_TK_fx f574 tk531
        have sc590 : m_SC I569a A569a := m_SC_nd f575 f496
        have tr591 : m_TR (t_up lo490 v570 (I_88 3905) (8 * (24 - (I 2775)) + (-1))) I569a A569a := m_TR_nd (show m_TR lo490 I488a A488a from f497) f575 (show 0 ≤ (I_88 3905) by omega) (show (I_88 3905) ≤ v570 by omega) (m_cl_ST (I1 := (w_up I_88 2774 ((I_88 2774) + 1))) (show m_ST lo_88 (w_up I_88 2774 ((I_88 2774) + 1)) A_88 lo490 I488a A488a from s537) (show m_TR lo_88 (w_up I_88 2774 ((I_88 2774) + 1)) A_88 from hi88_4) (show 0 ≤ (I_88 3905) by omega)) (t_N_mk17 t_up_same (show 0 ≤ (I_88 3905) by omega) (show (I_88 3905) ≤ v570 by omega) (show 0 ≤ (8 * (24 - (I 2775)) + (-1)) by omega) (m_hw2 (show m_RK lo490 (I_88 3905) v570 (8 * (24 - (I 2775)) + (-1)) from fun q q1 q2 => (show m_RK lo490 (I_88 3905) (I488a 3905) (8 * (24 - (I 2775)) + (-1)) from rk538) q (show (I_88 3905) ≤ q by omega) (show q < (I488a 3905) by omega)) (m_r8 (by decide))) ⟨Or.inl rfl, m_ch f575 (show (I_88 3905) ≤ (I_88 3905) by omega) (show m_kd lo490 I488a A488a (I_88 3905) (8 * (24 - (I_88 2775)) + 7) v489 t_B from k544), Or.inl rfl⟩)
        have s592 : m_ST lo I A (t_up lo490 v570 (I_88 3905) (8 * (24 - (I 2775)) + (-1))) I569a A569a := m_ST_nd (l := (I_88 3905)) (show m_ST lo I A lo490 I488a A488a from s535) f575 (show (I 3905) ≤ (I_88 3905) by omega) (show (I 3905) ≤ (I488a 3905) by omega)
        have rk593 : m_RK (t_up lo490 v570 (I_88 3905) (8 * (24 - (I 2775)) + (-1))) (I 3905) (I569a 3905) (8 * (24 - (I 2775)) + (-1)) := fun q q1 q2 => m_RK_nd (show m_RK lo490 (I 3905) v570 (8 * (24 - (I 2775)) + (-1)) from fun q q1 q2 => (show m_RK lo490 (I 3905) (I488a 3905) (8 * (24 - (I 2775)) + (-1)) from rk536) q q1 (show q < (I488a 3905) by omega)) (m_r8 (by decide)) (m_r8 (by decide)) q q1 (show q < v570 + 1 by omega)
        have s594 : m_ST lo_88 (w_up I_88 2774 ((I_88 2774) + 1)) A_88 (t_up lo490 v570 (I_88 3905) (8 * (24 - (I 2775)) + (-1))) I569a A569a := m_ST_nd (l := (I_88 3905)) (show m_ST lo_88 (w_up I_88 2774 ((I_88 2774) + 1)) A_88 lo490 I488a A488a from s537) f575 (show (I_88 3905) ≤ (I_88 3905) by omega) (show (I_88 3905) ≤ (I488a 3905) by omega)
        have rk595 : m_RK (t_up lo490 v570 (I_88 3905) (8 * (24 - (I 2775)) + (-1))) (I_88 3905) (I569a 3905) (8 * (24 - (I 2775)) + (-1)) := fun q q1 q2 => m_RK_nd (show m_RK lo490 (I_88 3905) v570 (8 * (24 - (I 2775)) + (-1)) from fun q q1 q2 => (show m_RK lo490 (I_88 3905) (I488a 3905) (8 * (24 - (I 2775)) + (-1)) from rk538) q q1 (show q < (I488a 3905) by omega)) (m_r8 (by decide)) (m_r8 (by decide)) q q1 (show q < v570 + 1 by omega)
        have k596 : m_kd (t_up lo490 v570 (I_88 3905) (8 * (24 - (I 2775)) + (-1))) I569a A569a (I 3905) (8 * (24 - (I 2775)) + (-1)) v12 t_E := m_kd_nd (l := (I_88 3905)) f575 (show m_kd lo490 I488a A488a (I 3905) (8 * (24 - (I 2775)) + (-1)) v12 t_E from k539)
        have k597 : m_kd (t_up lo490 v570 (I_88 3905) (8 * (24 - (I 2775)) + (-1))) I569a A569a (v12 + 1) (8 * (24 - (I 2775)) + (-1)) y88_3 (fun k => k = 17) := m_kd_nd (l := (I_88 3905)) f575 (show m_kd lo490 I488a A488a (v12 + 1) (8 * (24 - (I 2775)) + (-1)) y88_3 (fun k => k = 17) from k540)
        have rt598 : m_rt (t_up lo490 v570 (I_88 3905) (8 * (24 - (I 2775)) + (-1))) (I569a 3905) y88_3 := m_rt_nd (l := (I_88 3905)) f575 (show y88_3 < (I_88 3905) by omega) rt541
        have k599 : m_kd (t_up lo490 v570 (I_88 3905) (8 * (24 - (I 2775)) + (-1))) I569a A569a (v12 + 1) (8 * (24 - (I 2775)) + (-1)) y88_4 (fun k => k = 17) := m_kd_nd (l := (I_88 3905)) f575 (show m_kd lo490 I488a A488a (v12 + 1) (8 * (24 - (I 2775)) + (-1)) y88_4 (fun k => k = 17) from k542)
        have rt600 : m_rt (t_up lo490 v570 (I_88 3905) (8 * (24 - (I 2775)) + (-1))) (I569a 3905) y88_4 := m_rt_nd (l := (I_88 3905)) f575 (show y88_4 < (I_88 3905) by omega) rt543
        have k601 : m_kd (t_up lo490 v570 (I_88 3905) (8 * (24 - (I 2775)) + (-1))) I569a A569a (I_88 3905) (8 * (24 - (I 2775)) + (-1)) v570 (fun k => k = 17) := m_kd_new f575 (show 0 ≤ (I_88 3905) by omega) (show (I_88 3905) ≤ v570 by omega) rfl
        have rt602 : m_rt (t_up lo490 v570 (I_88 3905) (8 * (24 - (I 2775)) + (-1))) (I569a 3905) v570 := m_rt_new f575
        have p603 : (I569a 2754) = (I 2754) := by first | assumption | omega
        have p604 : (I 2774) + 2 ≤ (I569a 2774) := by first | assumption | omega
        have p605 : (I569a 2775) = (I 2775) + (1) := by first | assumption | omega
        have p606 : (I569a 4289) = (I 4289) := by first | assumption | omega
        have p607 : (I569a 5889) = (I 5889) := by first | assumption | omega
        have p608 : (I 3905) ≤ (I569a 3905) := by first | assumption | omega
        have p609 : (I569a 3905) + (7) ≤ (I 3905) + 3 * ((I569a 2774) - (I 2774)) := by first | assumption | omega
        have p610 : (I 4033) ≤ (I569a 4033) := by first | assumption | omega
        have p611 : (I569a 4033) ≤ (I 4033) + ((I569a 2774) - (I 2774)) := by first | assumption | omega
        have p612 : (I_88 3905) ≤ (I569a 3905) := by first | assumption | omega
        have p613 : (I 3905) ≤ (I_88 3905) := by first | assumption | omega
        have p614 : 0 ≤ (I569a 2774) := by first | assumption | omega
        have p615 : (I569a 2774) < (I569a 2754) := by first | assumption | omega
        have p616 : (I569a 2754) ≤ 1501 := by first | assumption | omega
        have p617 : 0 ≤ (I569a 2775) := by first | assumption | omega
        have p618 : (I569a 2775) ≤ 24 := by first | assumption | omega
        have p619 : (I569a 3393) = (I569a 3905) := by first | assumption | omega
        have p620 : (I569a 3521) = (I569a 3905) := by first | assumption | omega
        have p621 : (I569a 3649) = (I569a 3905) := by first | assumption | omega
        have p622 : (I569a 3777) = (I569a 3905) := by first | assumption | omega
        have p623 : 0 ≤ (I569a 3905) := by first | assumption | omega
        have p624 : (I569a 3905) ≤ 3 * (I569a 2774) := by first | assumption | omega
        have p625 : (I569a 4161) = (I569a 4033) := by first | assumption | omega
        have p626 : 7 ≤ (I569a 4289) := by first | assumption | omega
        have p627 : (I569a 4289) ≤ (I569a 4033) := by first | assumption | omega
        have p628 : (I569a 4033) ≤ 7 + (I569a 2774) := by first | assumption | omega
        have p629 : 0 ≤ (I569a 5889) := by first | assumption | omega
        have p630 : (I569a 5889) ≤ (I569a 2774) := by first | assumption | omega
        have p631 : v570 + 1 = (I569a 3905) := by first | assumption | omega
        have p632 : 0 ≤ (I 3905) ∧ (I 3905) ≤ (I 3905) ∧ (I 3905) ≤ v12 ∧ v12 < (I569a 3905) := by first | assumption | omega
        have p633 : 0 ≤ v12 + 1 ∧ (I 3905) ≤ v12 + 1 ∧ v12 + 1 ≤ y88_3 ∧ y88_3 < (I569a 3905) := by first | assumption | omega
        have p634 : 0 ≤ v12 + 1 ∧ (I 3905) ≤ v12 + 1 ∧ v12 + 1 ≤ y88_4 ∧ y88_4 < (I569a 3905) := by first | assumption | omega
        have p635 : 0 ≤ (I_88 3905) ∧ (I 3905) ≤ (I_88 3905) ∧ (I_88 3905) ≤ v570 ∧ v570 < (I569a 3905) := by first | assumption | omega
        have p636 : y88_4 < (I_88 3905) := by first | assumption | omega
        clear n504 n505 n506 n507 n508 n509 n510 n511 n512 n513 n514 n515 n516 n517 n518 n519 n520 p550 p551 p552 p553 p554 p555 p556 p557 p558 p559 p560 p561 p562 p563 p564 p565 p566 n576 n577 n578 n579 n580 n581 n582 n583 n584 n585 n586 n587 n588
        show w_W _ _ _ (120, [(0, .ref 43), (1, .int (Int32.ofInt (vl))), (2, .int (Int32.ofInt (v12))), (3, .int (Int32.ofInt (y88_3))), (4, .int (Int32.ofInt (y88_4)))], [.int (Int32.ofInt (v570))], M568) _
        refine w_adv (n := 2) (F' := (123, [(5, .int (Int32.ofInt (v570))), (0, .ref 43), (1, .int (Int32.ofInt (vl))), (2, .int (Int32.ofInt (v12))), (3, .int (Int32.ofInt (y88_3))), (4, .int (Int32.ofInt (y88_4)))], [.ref 43], M568)) rfl ?_
        refine w_gf (v := .ref 61) hR569a rfl rfl rfl rfl ?_
        refine w_gf (v := .ref (B569a 61)) hR569a rfl rfl rfl rfl ?_
        refine w_adv (n := 2) (F' := (133, [(5, .int (Int32.ofInt (v570))), (0, .ref 43), (1, .int (Int32.ofInt (vl))), (2, .int (Int32.ofInt (v12))), (3, .int (Int32.ofInt (y88_3))), (4, .int (Int32.ofInt (y88_4)))], [.int (Int32.ofInt (v570)), .int (Int32.ofInt (y88_4)), .ref (B569a 61)], M568)) rfl ?_
        obtain ⟨r639a, r639b, r639c⟩ : 0 ≤ (I569a 3905) ∧ (I569a 3905) ≤ (C569a 61 : Int) ∧ (C569a 61 : Int) ≤ 131072 := hR569a.sz (show 61 ∈ w_TM.2.2 by decide)
        refine w_sr hR569a rfl (by decide) (show 0 ≤ y88_4 by omega) (show y88_4 < (C569a 61 : Int) by omega) (show w_in (v570) from ⟨by omega, by omega⟩) (fun M637 hR638 => ?_)
        replace hR638 : w_Rep w_TM fr X u l I569a (w_upF A569a 61 (w_upA (A569a 61) (y88_4) (v570))) B569a C569a M637 := hR638
        have t640 : v570 = -1 ∨ t_L ((A569a 53) (y88_4)) ((A569a 53) (v570)) := (show v570 = -1 ∨ m_kd (t_up lo490 v570 (I_88 3905) (8 * (24 - (I 2775)) + (-1))) I569a A569a (I_88 3905) (8 * (24 - (I 2775)) + (-1)) v570 (fun k => k = 17) from Or.inr k601).imp_right (fun q => Or.inl ⟨by have q1 : (A569a 53) (y88_4) = 17 := k599.2; have q2 : (A569a 53) (v570) = 17 := q.2; omega, by have q1 : (A569a 53) (y88_4) = 17 := k599.2; omega⟩)
        have tr641 : m_TR (t_up lo490 v570 (I_88 3905) (8 * (24 - (I 2775)) + (-1))) I569a (w_upF A569a 61 (w_upA (A569a 61) (y88_4) (v570))) := m_TR_link2 (l := (I_88 3905)) (R := (8 * (24 - (I 2775)) + (-1))) (K := (fun k => k = 17)) (show m_TR (t_up lo490 v570 (I_88 3905) (8 * (24 - (I 2775)) + (-1))) I569a A569a from tr591) rfl rfl rfl rfl rfl (show 0 ≤ y88_4 by omega) rt600 (Or.inr k601) (Or.inr rt602) (show y88_4 < (I_88 3905) by omega) t640
        have s642 : m_ST lo I A (t_up lo490 v570 (I_88 3905) (8 * (24 - (I 2775)) + (-1))) I569a (w_upF A569a 61 (w_upA (A569a 61) (y88_4) (v570))) := m_ST_link (show m_ST lo I A (t_up lo490 v570 (I_88 3905) (8 * (24 - (I 2775)) + (-1))) I569a A569a from s592) (show (I 3905) ≤ y88_4 by omega) rfl rfl rfl rfl rfl rfl rfl
        refine w_adv (n := 2) (F' := (136, [(5, .int (Int32.ofInt (v570))), (0, .ref 43), (1, .int (Int32.ofInt (vl))), (2, .int (Int32.ofInt (v12))), (3, .int (Int32.ofInt (y88_3))), (4, .int (Int32.ofInt (y88_4)))], [.int (Int32.ofInt (3)), .ref 43], M637)) rfl ?_
        refine w_call (cm := 244) (as := [(0, .ref 43), (1, .int (Int32.ofInt (3)))]) (rest := []) (o := some (9, 43)) rfl (w_fitR hR638 rfl) (m_closeWord (3) hR638 (show 3 ≤ d by omega) ⟨by omega, by omega⟩ (show 0 ≤ (I569a 2774) ∧ (I569a 2774) < 1501 by omega) (show 1 ≤ (I569a 2775) ∧ (I569a 2775) ≤ 24 by first | assumption | omega)) (fun r643 M644 q645 => ?_)
        rcases q645 with ⟨e646, hR645a, f647⟩ | ⟨I645b, A645b, B645b, C645b, e648, hR645b, f649⟩
        · rw [e646]
          replace hR645a : w_Rep w_TM fr X u l (w_up (w_up I569a 2774 ((I569a 2774) + 1)) 2775 ((I569a 2775) - 1)) (w_upF A569a 61 (w_upA (A569a 61) (y88_4) (v570))) B569a C569a M644 := hR645a
          replace f647 : (A569a 45) ((I569a 2774)) = 5 ∧ (A569a 46) ((I569a 2774)) = 3 := f647
          obtain ⟨n650, n651⟩ := id f647
          clear f647
          have w652 : (I569a 2774) + 1 < (I569a 2754) := m_TK_lt tk589 (show (I569a 2774) < (I569a 2754) by omega) (show 1 ≤ (A569a 45) ((I569a 2774)) by omega) (show (A569a 45) ((I569a 2774)) ≤ 6 by omega)
          show w_W _ _ _ (139, [(5, .int (Int32.ofInt (v570))), (0, .ref 43), (1, .int (Int32.ofInt (vl))), (2, .int (Int32.ofInt (v12))), (3, .int (Int32.ofInt (y88_3))), (4, .int (Int32.ofInt (y88_4)))], [], M644) _
          refine w_adv (n := 5) (F' := (145, [(5, .int (Int32.ofInt (v570))), (0, .ref 43), (1, .int (Int32.ofInt (vl))), (2, .int (Int32.ofInt (v12))), (3, .int (Int32.ofInt (y88_3))), (4, .int (Int32.ofInt (y88_4)))], [.int (Int32.ofInt (0)), .int (Int32.ofInt (y88_3)), .int (Int32.ofInt (v12)), .int (Int32.ofInt (16)), .ref 43], M644)) rfl ?_
          refine w_call (cm := 239) (as := [(0, .ref 43), (1, .int (Int32.ofInt (16))), (2, .int (Int32.ofInt (v12))), (3, .int (Int32.ofInt (y88_3))), (4, .int (Int32.ofInt (0)))]) (rest := []) (o := some (9, 43)) rfl (w_fitR hR645a rfl) (m_node (16) (v12) (y88_3) (0) hR645a (show 2 ≤ d by omega) ⟨by omega, by omega⟩ ⟨by omega, by omega⟩ ⟨by omega, by omega⟩ ⟨by omega, by omega⟩ (show (I569a 3393) = (I569a 3905) by first | assumption | omega) (show (I569a 3521) = (I569a 3905) by first | assumption | omega) (show (I569a 3649) = (I569a 3905) by first | assumption | omega) (show (I569a 3777) = (I569a 3905) by first | assumption | omega) (show (I569a 3905) < 65536 by first | assumption | omega)) (fun r653 M654 q655 => ?_)
          rcases q655 with ⟨v656, I655a, A655a, B655a, C655a, e657, ⟨r658, r659⟩, hR655a, f660, f661⟩
          rw [e657]
          replace hR655a : w_Rep w_TM fr X u l I655a A655a B655a C655a M654 := hR655a
          replace f660 : m_fx (w_up (w_up I569a 2774 ((I569a 2774) + 1)) 2775 ((I569a 2775) - 1)) (w_upF A569a 61 (w_upA (A569a 61) (y88_4) (v570))) I655a A655a := f660
          replace f661 : m_nd (w_up (w_up I569a 2774 ((I569a 2774) + 1)) 2775 ((I569a 2775) - 1)) (w_upF A569a 61 (w_upA (A569a 61) (y88_4) (v570))) I655a A655a v656 16 v12 y88_3 0 := f661
          obtain ⟨⟨n662, n663, n664, n665, n666, n667⟩, ⟨n668, n669, n670, n671, n672, n673, n674⟩⟩ : (v656 = (I569a 3905) ∧ (I655a 3905) = (I569a 3905) + 1 ∧ (I655a 3393) = (I569a 3393) + 1 ∧ (I655a 3521) = (I569a 3521) + 1 ∧ (I655a 3649) = (I569a 3649) + 1 ∧ (I655a 3777) = (I569a 3777) + 1) ∧ ((I655a 2774) = (I569a 2774) + 1 ∧ (I655a 2754) = (I569a 2754) ∧ (I655a 2775) = (I569a 2775) - 1 ∧ (I655a 4289) = (I569a 4289) ∧ (I655a 4033) = (I569a 4033) ∧ (I655a 4161) = (I569a 4161) ∧ (I655a 5889) = (I569a 5889)) := m_nd_num f661
          have tk675 : m_TK I655a A655a := m_TK_fx f660 tk589
          have sc676 : m_SC I655a A655a := m_SC_nd f661 sc590
          have tr677 : m_TR (t_up (t_up lo490 v570 (I_88 3905) (8 * (24 - (I 2775)) + (-1))) v656 (I 3905) (8 * (24 - (I 2775)) + (0))) I655a A655a := m_TR_nd (show m_TR (t_up lo490 v570 (I_88 3905) (8 * (24 - (I 2775)) + (-1))) (w_up (w_up I569a 2774 ((I569a 2774) + 1)) 2775 ((I569a 2775) - 1)) (w_upF A569a 61 (w_upA (A569a 61) (y88_4) (v570))) from tr641) f661 (show 0 ≤ (I 3905) by omega) (show (I 3905) ≤ v656 by omega) (m_cl_ST (I1 := I) (show m_ST lo I A (t_up lo490 v570 (I_88 3905) (8 * (24 - (I 2775)) + (-1))) (w_up (w_up I569a 2774 ((I569a 2774) + 1)) 2775 ((I569a 2775) - 1)) (w_upF A569a 61 (w_upA (A569a 61) (y88_4) (v570))) from s642) (show m_TR lo I A from hTR) (show 0 ≤ (I 3905) by omega)) (t_N_mk16 t_up_same (show 0 ≤ (I 3905) by omega) (show (I 3905) ≤ v656 by omega) (show 0 ≤ (8 * (24 - (I 2775)) + (0)) by omega) (m_hw (show m_RK (t_up lo490 v570 (I_88 3905) (8 * (24 - (I 2775)) + (-1))) (I 3905) v656 (8 * (24 - (I 2775)) + (-1)) from fun q q1 q2 => (show m_RK (t_up lo490 v570 (I_88 3905) (8 * (24 - (I 2775)) + (-1))) (I 3905) (I569a 3905) (8 * (24 - (I 2775)) + (-1)) from rk593) q (show (I 3905) ≤ q by omega) (show q < (I569a 3905) by omega)) (m_r8l (by decide))) ⟨m_ch f661 (show (I 3905) ≤ (I 3905) by omega) (show m_kd (t_up lo490 v570 (I_88 3905) (8 * (24 - (I 2775)) + (-1))) (w_up (w_up I569a 2774 ((I569a 2774) + 1)) 2775 ((I569a 2775) - 1)) (w_upF A569a 61 (w_upA (A569a 61) (y88_4) (v570))) (I 3905) (8 * (24 - (I 2775)) + (-1)) v12 t_E from k596), m_ch f661 (show (I 3905) ≤ v12 + 1 by omega) (show m_kd (t_up lo490 v570 (I_88 3905) (8 * (24 - (I 2775)) + (-1))) (w_up (w_up I569a 2774 ((I569a 2774) + 1)) 2775 ((I569a 2775) - 1)) (w_upF A569a 61 (w_upA (A569a 61) (y88_4) (v570))) (v12 + 1) (8 * (24 - (I 2775)) + (-1)) y88_3 (fun k => k = 17) from k597), m_od f661 (show m_kd (t_up lo490 v570 (I_88 3905) (8 * (24 - (I 2775)) + (-1))) (w_up (w_up I569a 2774 ((I569a 2774) + 1)) 2775 ((I569a 2775) - 1)) (w_upF A569a 61 (w_upA (A569a 61) (y88_4) (v570))) (v12 + 1) (8 * (24 - (I 2775)) + (-1)) y88_3 (fun k => k = 17) from k597) (show v12 < v12 + 1 by omega)⟩)
          have s678 : m_ST lo I A (t_up (t_up lo490 v570 (I_88 3905) (8 * (24 - (I 2775)) + (-1))) v656 (I 3905) (8 * (24 - (I 2775)) + (0))) I655a A655a := m_ST_nd (l := (I 3905)) (show m_ST lo I A (t_up lo490 v570 (I_88 3905) (8 * (24 - (I 2775)) + (-1))) (w_up (w_up I569a 2774 ((I569a 2774) + 1)) 2775 ((I569a 2775) - 1)) (w_upF A569a 61 (w_upA (A569a 61) (y88_4) (v570))) from s642) f661 (show (I 3905) ≤ (I 3905) by omega) (show (I 3905) ≤ (I569a 3905) by omega)
          have rk679 : m_RK (t_up (t_up lo490 v570 (I_88 3905) (8 * (24 - (I 2775)) + (-1))) v656 (I 3905) (8 * (24 - (I 2775)) + (0))) (I 3905) (I655a 3905) (8 * (24 - (I 2775)) + (0)) := fun q q1 q2 => m_RK_nd (show m_RK (t_up lo490 v570 (I_88 3905) (8 * (24 - (I 2775)) + (-1))) (I 3905) v656 (8 * (24 - (I 2775)) + (-1)) from fun q q1 q2 => (show m_RK (t_up lo490 v570 (I_88 3905) (8 * (24 - (I 2775)) + (-1))) (I 3905) (I569a 3905) (8 * (24 - (I 2775)) + (-1)) from rk593) q q1 (show q < (I569a 3905) by omega)) (m_r8 (by decide)) (m_r8 (by decide)) q q1 (show q < v656 + 1 by omega)
          have k680 : m_kd (t_up (t_up lo490 v570 (I_88 3905) (8 * (24 - (I 2775)) + (-1))) v656 (I 3905) (8 * (24 - (I 2775)) + (0))) I655a A655a (v12 + 1) (8 * (24 - (I 2775)) + (-1)) y88_4 (fun k => k = 17) := m_kd_nd (l := (I 3905)) f661 (show m_kd (t_up lo490 v570 (I_88 3905) (8 * (24 - (I 2775)) + (-1))) (w_up (w_up I569a 2774 ((I569a 2774) + 1)) 2775 ((I569a 2775) - 1)) (w_upF A569a 61 (w_upA (A569a 61) (y88_4) (v570))) (v12 + 1) (8 * (24 - (I 2775)) + (-1)) y88_4 (fun k => k = 17) from k599)
          have k681 : m_kd (t_up (t_up lo490 v570 (I_88 3905) (8 * (24 - (I 2775)) + (-1))) v656 (I 3905) (8 * (24 - (I 2775)) + (0))) I655a A655a (I 3905) (8 * (24 - (I 2775)) + (0)) v656 (fun k => k = 16) := m_kd_new f661 (show 0 ≤ (I 3905) by omega) (show (I 3905) ≤ v656 by omega) rfl
          have rt682 : m_rt (t_up (t_up lo490 v570 (I_88 3905) (8 * (24 - (I 2775)) + (-1))) v656 (I 3905) (8 * (24 - (I 2775)) + (0))) (I655a 3905) v656 := m_rt_new f661
          have p683 : (I655a 2754) = (I 2754) := by first | assumption | omega
          have p684 : (I 2774) + 3 ≤ (I655a 2774) := by first | assumption | omega
          have p685 : (I655a 2775) = (I 2775) + (0) := by first | assumption | omega
          have p686 : (I655a 4289) = (I 4289) := by first | assumption | omega
          have p687 : (I655a 5889) = (I 5889) := by first | assumption | omega
          have p688 : (I 3905) ≤ (I655a 3905) := by first | assumption | omega
          have p689 : (I655a 3905) + (9) ≤ (I 3905) + 3 * ((I655a 2774) - (I 2774)) := by first | assumption | omega
          have p690 : (I 4033) ≤ (I655a 4033) := by first | assumption | omega
          have p691 : (I655a 4033) ≤ (I 4033) + ((I655a 2774) - (I 2774)) := by first | assumption | omega
          have p692 : 0 ≤ (I655a 2774) := by first | assumption | omega
          have p693 : (I655a 2774) < (I655a 2754) := by first | assumption | omega
          have p694 : (I655a 2754) ≤ 1501 := by first | assumption | omega
          have p695 : 0 ≤ (I655a 2775) := by first | assumption | omega
          have p696 : (I655a 2775) ≤ 24 := by first | assumption | omega
          have p697 : (I655a 3393) = (I655a 3905) := by first | assumption | omega
          have p698 : (I655a 3521) = (I655a 3905) := by first | assumption | omega
          have p699 : (I655a 3649) = (I655a 3905) := by first | assumption | omega
          have p700 : (I655a 3777) = (I655a 3905) := by first | assumption | omega
          have p701 : 0 ≤ (I655a 3905) := by first | assumption | omega
          have p702 : (I655a 3905) ≤ 3 * (I655a 2774) := by first | assumption | omega
          have p703 : (I655a 4161) = (I655a 4033) := by first | assumption | omega
          have p704 : 7 ≤ (I655a 4289) := by first | assumption | omega
          have p705 : (I655a 4289) ≤ (I655a 4033) := by first | assumption | omega
          have p706 : (I655a 4033) ≤ 7 + (I655a 2774) := by first | assumption | omega
          have p707 : 0 ≤ (I655a 5889) := by first | assumption | omega
          have p708 : (I655a 5889) ≤ (I655a 2774) := by first | assumption | omega
          have p709 : v656 + 1 = (I655a 3905) := by first | assumption | omega
          have p710 : 0 ≤ v12 + 1 ∧ (I 3905) ≤ v12 + 1 ∧ v12 + 1 ≤ y88_4 ∧ y88_4 < (I655a 3905) := by first | assumption | omega
          have p711 : 0 ≤ (I 3905) ∧ (I 3905) ≤ (I 3905) ∧ (I 3905) ≤ v656 ∧ v656 < (I655a 3905) := by first | assumption | omega
          clear p603 p604 p605 p606 p607 p608 p609 p610 p611 p612 p613 p614 p615 p616 p617 p618 p619 p620 p621 p622 p623 p624 p625 p626 p627 p628 p629 p630 p631 p632 p633 p634 p635 p636 n650 n651 n662 n663 n664 n665 n666 n667 n668 n669 n670 n671 n672 n673 n674
          show w_W _ _ _ (148, [(5, .int (Int32.ofInt (v570))), (0, .ref 43), (1, .int (Int32.ofInt (vl))), (2, .int (Int32.ofInt (v12))), (3, .int (Int32.ofInt (y88_3))), (4, .int (Int32.ofInt (y88_4)))], [.int (Int32.ofInt (v656))], M654) _
          refine w_fin (r := .inl (some (v656))) (M' := M654) rfl ?_
          exact Or.inl ⟨v656, (t_up (t_up lo490 v570 (I_88 3905) (8 * (24 - (I 2775)) + (-1))) v656 (I 3905) (8 * (24 - (I 2775)) + (0))), I655a, A655a, B655a, C655a, rfl, ⟨by omega, by omega⟩, hR655a, (show m_fx I A I655a A655a by exact (m_fx_trans (m_fx_trans (m_fx_trans hi88_6 f494) f574) f660)), (show ((0 ≤ (I655a 2774) ∧ (I655a 2774) < (I655a 2754) ∧ (I655a 2754) ≤ 1501 ∧ 0 ≤ (I655a 2775) ∧ (I655a 2775) ≤ 24) ∧ ((I655a 3393) = (I655a 3905) ∧ (I655a 3521) = (I655a 3905) ∧ (I655a 3649) = (I655a 3905) ∧ (I655a 3777) = (I655a 3905) ∧ 0 ≤ (I655a 3905) ∧ (I655a 3905) ≤ 3 * (I655a 2774)) ∧ ((I655a 4161) = (I655a 4033) ∧ 7 ≤ (I655a 4289) ∧ (I655a 4289) ≤ (I655a 4033) ∧ (I655a 4033) ≤ 7 + (I655a 2774)) ∧ 0 ≤ (I655a 5889) ∧ (I655a 5889) ≤ (I655a 2774)) ∧ ((I655a 2754) = (I 2754) ∧ (I 2774) + 1 ≤ (I655a 2774) ∧ (I655a 2775) = (I 2775) ∧ (I655a 4289) = (I 4289) + 0 ∧ (I655a 5889) = (I 5889)) ∧ ((I655a 3905) + 2 ≤ (I 3905) + 3 * ((I655a 2774) - (I 2774)) ∧ (I 3905) ≤ v656 ∧ v656 + 1 = (I655a 3905) ∧ (I 4033) ≤ (I655a 4033) ∧ (I655a 4033) ≤ (I 4033) + ((I655a 2774) - (I 2774))) by (repeat' apply And.intro) <;> first | assumption | omega), (show m_SC I655a A655a by exact sc676), (show m_TR (t_up (t_up lo490 v570 (I_88 3905) (8 * (24 - (I 2775)) + (-1))) v656 (I 3905) (8 * (24 - (I 2775)) + (0))) I655a A655a by exact tr677), (show m_ST lo I A (t_up (t_up lo490 v570 (I_88 3905) (8 * (24 - (I 2775)) + (-1))) v656 (I 3905) (8 * (24 - (I 2775)) + (0))) I655a A655a by exact s678), (show (fun k => k = 16) ((A655a 53) (v656)) by exact (k681).2), (show m_rt (t_up (t_up lo490 v570 (I_88 3905) (8 * (24 - (I 2775)) + (-1))) v656 (I 3905) (8 * (24 - (I 2775)) + (0))) (I655a 3905) v656 by exact rt682), (show m_RK (t_up (t_up lo490 v570 (I_88 3905) (8 * (24 - (I 2775)) + (-1))) v656 (I 3905) (8 * (24 - (I 2775)) + (0))) (I 3905) (I655a 3905) (8 * (24 - (I 2775)) + 0) by exact m_RK_le (show m_RK (t_up (t_up lo490 v570 (I_88 3905) (8 * (24 - (I 2775)) + (-1))) v656 (I 3905) (8 * (24 - (I 2775)) + (0))) (I 3905) (I655a 3905) (8 * (24 - (I 2775)) + (0)) from rk679) (show (8 * (24 - (I 2775)) + (0)) ≤ 8 * (24 - (I 2775)) + 0 by omega))⟩
        · rw [e648]
          replace hR645b : w_Rep w_TM fr X u l I645b A645b B645b C645b M644 := hR645b
          replace f649 : m_fx I569a (w_upF A569a 61 (w_upA (A569a 61) (y88_4) (v570))) I645b A645b := f649
          exact Or.inr (⟨I645b, A645b, B645b, C645b, rfl, hR645b, (show m_fx I A I645b A645b by exact (m_fx_trans (m_fx_trans (m_fx_trans hi88_6 f494) f574) f649))⟩)
      · rw [e502]
        replace hR488b : w_Rep w_TM fr X u l I488b A488b B488b C488b M487 := hR488b
        replace f503 : m_fx (w_up I_88 2774 ((I_88 2774) + 1)) A_88 I488b A488b := f503
        exact Or.inr (⟨I488b, A488b, B488b, C488b, rfl, hR488b, (show m_fx I A I488b A488b by exact (m_fx_trans hi88_6 f503))⟩)
    · rw [e476, e477]
      replace f478 : ¬ ((A_88 45) ((I_88 2774)) = 5 ∧ (A_88 46) ((I_88 2774)) = 6) := f478
      show w_W _ _ _ (94, [(0, .ref 43), (1, .int (Int32.ofInt (vl))), (2, .int (Int32.ofInt (v12))), (3, .int (Int32.ofInt (y88_3))), (4, .int (Int32.ofInt (y88_4)))], [.int (Int32.ofInt (0))], M_88) _
      refine w_adv (n := 3) (F' := (136, [(0, .ref 43), (1, .int (Int32.ofInt (vl))), (2, .int (Int32.ofInt (v12))), (3, .int (Int32.ofInt (y88_3))), (4, .int (Int32.ofInt (y88_4)))], [.int (Int32.ofInt (3)), .ref 43], M_88)) rfl ?_
      refine w_call (cm := 244) (as := [(0, .ref 43), (1, .int (Int32.ofInt (3)))]) (rest := []) (o := some (9, 43)) rfl (w_fitR hR_88 rfl) (m_closeWord (3) hR_88 (show 3 ≤ d by omega) ⟨by omega, by omega⟩ (show 0 ≤ (I_88 2774) ∧ (I_88 2774) < 1501 by omega) (show 1 ≤ (I_88 2775) ∧ (I_88 2775) ≤ 24 by first | assumption | omega)) (fun r712 M713 q714 => ?_)
      rcases q714 with ⟨e715, hR714a, f716⟩ | ⟨I714b, A714b, B714b, C714b, e717, hR714b, f718⟩
      · rw [e715]
        replace hR714a : w_Rep w_TM fr X u l (w_up (w_up I_88 2774 ((I_88 2774) + 1)) 2775 ((I_88 2775) - 1)) A_88 B_88 C_88 M713 := hR714a
        replace f716 : (A_88 45) ((I_88 2774)) = 5 ∧ (A_88 46) ((I_88 2774)) = 3 := f716
        obtain ⟨n719, n720⟩ := id f716
        clear f716
        have w721 : (I_88 2774) + 1 < (I_88 2754) := m_TK_lt hi88_2 (show (I_88 2774) < (I_88 2754) by omega) (show 1 ≤ (A_88 45) ((I_88 2774)) by omega) (show (A_88 45) ((I_88 2774)) ≤ 6 by omega)
        show w_W _ _ _ (139, [(0, .ref 43), (1, .int (Int32.ofInt (vl))), (2, .int (Int32.ofInt (v12))), (3, .int (Int32.ofInt (y88_3))), (4, .int (Int32.ofInt (y88_4)))], [], M713) _
        refine w_adv (n := 5) (F' := (145, [(0, .ref 43), (1, .int (Int32.ofInt (vl))), (2, .int (Int32.ofInt (v12))), (3, .int (Int32.ofInt (y88_3))), (4, .int (Int32.ofInt (y88_4)))], [.int (Int32.ofInt (0)), .int (Int32.ofInt (y88_3)), .int (Int32.ofInt (v12)), .int (Int32.ofInt (16)), .ref 43], M713)) rfl ?_
        refine w_call (cm := 239) (as := [(0, .ref 43), (1, .int (Int32.ofInt (16))), (2, .int (Int32.ofInt (v12))), (3, .int (Int32.ofInt (y88_3))), (4, .int (Int32.ofInt (0)))]) (rest := []) (o := some (9, 43)) rfl (w_fitR hR714a rfl) (m_node (16) (v12) (y88_3) (0) hR714a (show 2 ≤ d by omega) ⟨by omega, by omega⟩ ⟨by omega, by omega⟩ ⟨by omega, by omega⟩ ⟨by omega, by omega⟩ (show (I_88 3393) = (I_88 3905) by first | assumption | omega) (show (I_88 3521) = (I_88 3905) by first | assumption | omega) (show (I_88 3649) = (I_88 3905) by first | assumption | omega) (show (I_88 3777) = (I_88 3905) by first | assumption | omega) (show (I_88 3905) < 65536 by first | assumption | omega)) (fun r722 M723 q724 => ?_)
        rcases q724 with ⟨v725, I724a, A724a, B724a, C724a, e726, ⟨r727, r728⟩, hR724a, f729, f730⟩
        rw [e726]
        replace hR724a : w_Rep w_TM fr X u l I724a A724a B724a C724a M723 := hR724a
        replace f729 : m_fx (w_up (w_up I_88 2774 ((I_88 2774) + 1)) 2775 ((I_88 2775) - 1)) A_88 I724a A724a := f729
        replace f730 : m_nd (w_up (w_up I_88 2774 ((I_88 2774) + 1)) 2775 ((I_88 2775) - 1)) A_88 I724a A724a v725 16 v12 y88_3 0 := f730
        obtain ⟨⟨n731, n732, n733, n734, n735, n736⟩, ⟨n737, n738, n739, n740, n741, n742, n743⟩⟩ : (v725 = (I_88 3905) ∧ (I724a 3905) = (I_88 3905) + 1 ∧ (I724a 3393) = (I_88 3393) + 1 ∧ (I724a 3521) = (I_88 3521) + 1 ∧ (I724a 3649) = (I_88 3649) + 1 ∧ (I724a 3777) = (I_88 3777) + 1) ∧ ((I724a 2774) = (I_88 2774) + 1 ∧ (I724a 2754) = (I_88 2754) ∧ (I724a 2775) = (I_88 2775) - 1 ∧ (I724a 4289) = (I_88 4289) ∧ (I724a 4033) = (I_88 4033) ∧ (I724a 4161) = (I_88 4161) ∧ (I724a 5889) = (I_88 5889)) := m_nd_num f730
        have tk744 : m_TK I724a A724a := m_TK_fx f729 hi88_2
        have sc745 : m_SC I724a A724a := m_SC_nd f730 hi88_3
        have tr746 : m_TR (t_up lo_88 v725 (I 3905) (8 * (24 - (I 2775)) + (0))) I724a A724a := m_TR_nd (show m_TR lo_88 (w_up (w_up I_88 2774 ((I_88 2774) + 1)) 2775 ((I_88 2775) - 1)) A_88 from hi88_4) f730 (show 0 ≤ (I 3905) by omega) (show (I 3905) ≤ v725 by omega) (m_cl_ST (I1 := I) (show m_ST lo I A lo_88 (w_up (w_up I_88 2774 ((I_88 2774) + 1)) 2775 ((I_88 2775) - 1)) A_88 from hi88_5) (show m_TR lo I A from hTR) (show 0 ≤ (I 3905) by omega)) (t_N_mk16 t_up_same (show 0 ≤ (I 3905) by omega) (show (I 3905) ≤ v725 by omega) (show 0 ≤ (8 * (24 - (I 2775)) + (0)) by omega) (m_hw (show m_RK lo_88 (I 3905) v725 (8 * (24 - (I 2775)) + (-1)) from fun q q1 q2 => (show m_RK lo_88 (I 3905) (I_88 3905) (8 * (24 - (I 2775)) + (-1)) from hi88_8) q (show (I 3905) ≤ q by omega) (show q < (I_88 3905) by omega)) (m_r8l (by decide))) ⟨m_ch f730 (show (I 3905) ≤ (I 3905) by omega) (show m_kd lo_88 (w_up (w_up I_88 2774 ((I_88 2774) + 1)) 2775 ((I_88 2775) - 1)) A_88 (I 3905) (8 * (24 - (I 2775)) + (-1)) v12 t_E from hi88_9), m_ch f730 (show (I 3905) ≤ v12 + 1 by omega) (show m_kd lo_88 (w_up (w_up I_88 2774 ((I_88 2774) + 1)) 2775 ((I_88 2775) - 1)) A_88 (v12 + 1) (8 * (24 - (I 2775)) + (-1)) y88_3 (fun k => k = 17) from g456), m_od f730 (show m_kd lo_88 (w_up (w_up I_88 2774 ((I_88 2774) + 1)) 2775 ((I_88 2775) - 1)) A_88 (v12 + 1) (8 * (24 - (I 2775)) + (-1)) y88_3 (fun k => k = 17) from g456) (show v12 < v12 + 1 by omega)⟩)
        have s747 : m_ST lo I A (t_up lo_88 v725 (I 3905) (8 * (24 - (I 2775)) + (0))) I724a A724a := m_ST_nd (l := (I 3905)) (show m_ST lo I A lo_88 (w_up (w_up I_88 2774 ((I_88 2774) + 1)) 2775 ((I_88 2775) - 1)) A_88 from hi88_5) f730 (show (I 3905) ≤ (I 3905) by omega) (show (I 3905) ≤ (I_88 3905) by omega)
        have rk748 : m_RK (t_up lo_88 v725 (I 3905) (8 * (24 - (I 2775)) + (0))) (I 3905) (I724a 3905) (8 * (24 - (I 2775)) + (0)) := fun q q1 q2 => m_RK_nd (show m_RK lo_88 (I 3905) v725 (8 * (24 - (I 2775)) + (-1)) from fun q q1 q2 => (show m_RK lo_88 (I 3905) (I_88 3905) (8 * (24 - (I 2775)) + (-1)) from hi88_8) q q1 (show q < (I_88 3905) by omega)) (m_r8 (by decide)) (m_r8 (by decide)) q q1 (show q < v725 + 1 by omega)
        have k749 : m_kd (t_up lo_88 v725 (I 3905) (8 * (24 - (I 2775)) + (0))) I724a A724a (v12 + 1) (8 * (24 - (I 2775)) + (-1)) y88_4 (fun k => k = 17) := m_kd_nd (l := (I 3905)) f730 (show m_kd lo_88 (w_up (w_up I_88 2774 ((I_88 2774) + 1)) 2775 ((I_88 2775) - 1)) A_88 (v12 + 1) (8 * (24 - (I 2775)) + (-1)) y88_4 (fun k => k = 17) from g457)
        have k750 : m_kd (t_up lo_88 v725 (I 3905) (8 * (24 - (I 2775)) + (0))) I724a A724a (I 3905) (8 * (24 - (I 2775)) + (0)) v725 (fun k => k = 16) := m_kd_new f730 (show 0 ≤ (I 3905) by omega) (show (I 3905) ≤ v725 by omega) rfl
        have rt751 : m_rt (t_up lo_88 v725 (I 3905) (8 * (24 - (I 2775)) + (0))) (I724a 3905) v725 := m_rt_new f730
        have p752 : (I724a 2754) = (I 2754) := by first | assumption | omega
        have p753 : (I 2774) + 1 ≤ (I724a 2774) := by first | assumption | omega
        have p754 : (I724a 2775) = (I 2775) + (0) := by first | assumption | omega
        have p755 : (I724a 4289) = (I 4289) := by first | assumption | omega
        have p756 : (I724a 5889) = (I 5889) := by first | assumption | omega
        have p757 : (I 3905) ≤ (I724a 3905) := by first | assumption | omega
        have p758 : (I724a 3905) + (6) ≤ (I 3905) + 3 * ((I724a 2774) - (I 2774)) := by first | assumption | omega
        have p759 : (I 4033) ≤ (I724a 4033) := by first | assumption | omega
        have p760 : (I724a 4033) ≤ (I 4033) + ((I724a 2774) - (I 2774)) := by first | assumption | omega
        have p761 : 0 ≤ (I724a 2774) := by first | assumption | omega
        have p762 : (I724a 2774) < (I724a 2754) := by first | assumption | omega
        have p763 : (I724a 2754) ≤ 1501 := by first | assumption | omega
        have p764 : 0 ≤ (I724a 2775) := by first | assumption | omega
        have p765 : (I724a 2775) ≤ 24 := by first | assumption | omega
        have p766 : (I724a 3393) = (I724a 3905) := by first | assumption | omega
        have p767 : (I724a 3521) = (I724a 3905) := by first | assumption | omega
        have p768 : (I724a 3649) = (I724a 3905) := by first | assumption | omega
        have p769 : (I724a 3777) = (I724a 3905) := by first | assumption | omega
        have p770 : 0 ≤ (I724a 3905) := by first | assumption | omega
        have p771 : (I724a 3905) ≤ 3 * (I724a 2774) := by first | assumption | omega
        have p772 : (I724a 4161) = (I724a 4033) := by first | assumption | omega
        have p773 : 7 ≤ (I724a 4289) := by first | assumption | omega
        have p774 : (I724a 4289) ≤ (I724a 4033) := by first | assumption | omega
        have p775 : (I724a 4033) ≤ 7 + (I724a 2774) := by first | assumption | omega
        have p776 : 0 ≤ (I724a 5889) := by first | assumption | omega
        have p777 : (I724a 5889) ≤ (I724a 2774) := by first | assumption | omega
        have p778 : v725 + 1 = (I724a 3905) := by first | assumption | omega
        have p779 : 0 ≤ v12 + 1 ∧ (I 3905) ≤ v12 + 1 ∧ v12 + 1 ≤ y88_4 ∧ y88_4 < (I724a 3905) := by first | assumption | omega
        have p780 : 0 ≤ (I 3905) ∧ (I 3905) ≤ (I 3905) ∧ (I 3905) ≤ v725 ∧ v725 < (I724a 3905) := by first | assumption | omega
        clear n423 n424 n425 n426 n427 n428 n429 n430 n431 n432 n433 n434 n435 n436 n437 n438 n439 n440 n441 n442 n443 n444 n445 n446 n447 n448 n719 n720 n731 n732 n733 n734 n735 n736 n737 n738 n739 n740 n741 n742 n743
        show w_W _ _ _ (148, [(0, .ref 43), (1, .int (Int32.ofInt (vl))), (2, .int (Int32.ofInt (v12))), (3, .int (Int32.ofInt (y88_3))), (4, .int (Int32.ofInt (y88_4)))], [.int (Int32.ofInt (v725))], M723) _
        refine w_fin (r := .inl (some (v725))) (M' := M723) rfl ?_
        exact Or.inl ⟨v725, (t_up lo_88 v725 (I 3905) (8 * (24 - (I 2775)) + (0))), I724a, A724a, B724a, C724a, rfl, ⟨by omega, by omega⟩, hR724a, (show m_fx I A I724a A724a by exact (m_fx_trans hi88_6 f729)), (show ((0 ≤ (I724a 2774) ∧ (I724a 2774) < (I724a 2754) ∧ (I724a 2754) ≤ 1501 ∧ 0 ≤ (I724a 2775) ∧ (I724a 2775) ≤ 24) ∧ ((I724a 3393) = (I724a 3905) ∧ (I724a 3521) = (I724a 3905) ∧ (I724a 3649) = (I724a 3905) ∧ (I724a 3777) = (I724a 3905) ∧ 0 ≤ (I724a 3905) ∧ (I724a 3905) ≤ 3 * (I724a 2774)) ∧ ((I724a 4161) = (I724a 4033) ∧ 7 ≤ (I724a 4289) ∧ (I724a 4289) ≤ (I724a 4033) ∧ (I724a 4033) ≤ 7 + (I724a 2774)) ∧ 0 ≤ (I724a 5889) ∧ (I724a 5889) ≤ (I724a 2774)) ∧ ((I724a 2754) = (I 2754) ∧ (I 2774) + 1 ≤ (I724a 2774) ∧ (I724a 2775) = (I 2775) ∧ (I724a 4289) = (I 4289) + 0 ∧ (I724a 5889) = (I 5889)) ∧ ((I724a 3905) + 2 ≤ (I 3905) + 3 * ((I724a 2774) - (I 2774)) ∧ (I 3905) ≤ v725 ∧ v725 + 1 = (I724a 3905) ∧ (I 4033) ≤ (I724a 4033) ∧ (I724a 4033) ≤ (I 4033) + ((I724a 2774) - (I 2774))) by (repeat' apply And.intro) <;> first | assumption | omega), (show m_SC I724a A724a by exact sc745), (show m_TR (t_up lo_88 v725 (I 3905) (8 * (24 - (I 2775)) + (0))) I724a A724a by exact tr746), (show m_ST lo I A (t_up lo_88 v725 (I 3905) (8 * (24 - (I 2775)) + (0))) I724a A724a by exact s747), (show (fun k => k = 16) ((A724a 53) (v725)) by exact (k750).2), (show m_rt (t_up lo_88 v725 (I 3905) (8 * (24 - (I 2775)) + (0))) (I724a 3905) v725 by exact rt751), (show m_RK (t_up lo_88 v725 (I 3905) (8 * (24 - (I 2775)) + (0))) (I 3905) (I724a 3905) (8 * (24 - (I 2775)) + 0) by exact m_RK_le (show m_RK (t_up lo_88 v725 (I 3905) (8 * (24 - (I 2775)) + (0))) (I 3905) (I724a 3905) (8 * (24 - (I 2775)) + (0)) from rk748) (show (8 * (24 - (I 2775)) + (0)) ≤ 8 * (24 - (I 2775)) + 0 by omega))⟩
      · rw [e717]
        replace hR714b : w_Rep w_TM fr X u l I714b A714b B714b C714b M713 := hR714b
        replace f718 : m_fx I_88 A_88 I714b A714b := f718
        exact Or.inr (⟨I714b, A714b, B714b, C714b, rfl, hR714b, (show m_fx I A I714b A714b by exact (m_fx_trans hi88_6 f718))⟩)
