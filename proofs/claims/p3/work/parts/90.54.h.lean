def m_attempt_Q (fr : Nat → Bool) (X : Nat → Option (q_C (Nat → Int32))) (u l : Nat) (I : Nat → Int) (A : Nat → Int → Int) (B C : Nat → Nat) (M : w_M) (lo : Int → Int × Int) : w_X → w_M → Prop := fun r M' => (∃ v : Int, ∃ lo' : Int → Int × Int, ∃ (I' : Nat → Int) (A' : Nat → Int → Int) (B' C' : Nat → Nat), (r = .inl (some v)) ∧ (w_in v) ∧ (w_Rep w_TM fr X u l I' A' B' C' M') ∧ (m_fx I A I' A') ∧ (((0 ≤ (I' 2774) ∧ (I' 2774) < (I' 2754) ∧ (I' 2754) ≤ 1501 ∧ 0 ≤ (I' 2775) ∧ (I' 2775) ≤ 24) ∧ ((I' 3393) = (I' 3905) ∧ (I' 3521) = (I' 3905) ∧ (I' 3649) = (I' 3905) ∧ (I' 3777) = (I' 3905) ∧ 0 ≤ (I' 3905) ∧ (I' 3905) ≤ 3 * (I' 2774)) ∧ ((I' 4161) = (I' 4033) ∧ 7 ≤ (I' 4289) ∧ (I' 4289) ≤ (I' 4033) ∧ (I' 4033) ≤ 7 + (I' 2774)) ∧ 0 ≤ (I' 5889) ∧ (I' 5889) ≤ (I' 2774)) ∧ ((I' 2754) = (I 2754) ∧ (I 2774) + 1 ≤ (I' 2774) ∧ (I' 2775) = (I 2775) ∧ (I' 4289) = (I 4289) + 0 ∧ (I' 5889) = (I 5889)) ∧ ((I' 3905) + 2 ≤ (I 3905) + 3 * ((I' 2774) - (I 2774)) ∧ (I 3905) ≤ v ∧ v + 1 = (I' 3905) ∧ (I 4033) ≤ (I' 4033) ∧ (I' 4033) ≤ (I 4033) + ((I' 2774) - (I 2774)))) ∧ (m_SC I' A') ∧ (m_TR lo' I' A') ∧ (m_ST lo I A lo' I' A') ∧ ((fun k => k = 21) ((A' 53) (v))) ∧ (m_rt lo' (I' 3905) v) ∧ (m_RK lo' (I 3905) (I' 3905) (8 * (24 - (I 2775)) + 0))) ∨ (∃ (I' : Nat → Int) (A' : Nat → Int → Int) (B' C' : Nat → Nat), (r = .inr 69) ∧ (w_Rep w_TM fr X u l I' A' B' C' M') ∧ (m_fx I A I' A'))
set_option maxHeartbeats 100000000 in
set_option maxRecDepth 100000 in
theorem m_attempt {L : Nat} {xs : Nat → Int32} {d : Nat} {fr : Nat → Bool} {X : Nat → Option (q_C (Nat → Int32))} {u l : Nat} {I : Nat → Int} {A : Nat → Int → Int} {B C : Nat → Nat} {M : w_M} {N : Int} (hA : m_all L xs N) (lo : Int → Int × Int) (hR : w_Rep w_TM fr X u l I A B C M) (hd : 20 * (24 - (I 2775)) + 11 ≤ (d : Int)) (hTK : m_TK I A) (hNU : (0 ≤ (I 2774) ∧ (I 2774) < (I 2754) ∧ (I 2754) ≤ 1501 ∧ 0 ≤ (I 2775) ∧ (I 2775) ≤ 24) ∧ ((I 3393) = (I 3905) ∧ (I 3521) = (I 3905) ∧ (I 3649) = (I 3905) ∧ (I 3777) = (I 3905) ∧ 0 ≤ (I 3905) ∧ (I 3905) ≤ 3 * (I 2774)) ∧ ((I 4161) = (I 4033) ∧ 7 ≤ (I 4289) ∧ (I 4289) ≤ (I 4033) ∧ (I 4033) ≤ 7 + (I 2774)) ∧ 0 ≤ (I 5889) ∧ (I 5889) ≤ (I 2774)) (hSC : m_SC I A) (hTR : m_TR lo I A) (hk : 1 ≤ (A 45) ((I 2774)) ∧ (A 45) ((I 2774)) ≤ 6) (hm : (I 2754) - (I 2774) ≤ N) : w_W (z_P L xs) d 275 (0, [(0, .ref 43)], [], M) (m_attempt_Q fr X u l I A B C M lo) := by
  obtain ⟨d, rfl⟩ : ∃ d0, d = d0 + 1 := ⟨d - 1, by omega⟩
  have wl : (I 2774) + 1 < (I 2754) := m_TK_lt hTK (by omega) (by omega) (by omega)
  refine w_adv (n := 2) (F' := (2, [(0, .ref 43)], [.ref 43, .ref 43], M)) rfl ?_
  refine w_gf (v := .int (Int32.ofInt ((I 2776)))) hR rfl rfl rfl rfl ?_
  obtain ⟨r1, r2⟩ : -2147483648 ≤ (I 2776) ∧ (I 2776) ≤ 2147483647 := hR.ri 2776
  refine w_adv (n := 2) (F' := (7, [(0, .ref 43)], [.int ((Int32.ofInt ((I 2776))) ||| (Int32.ofInt (2))), .ref 43], M)) rfl ?_
  refine w_int (fun x3 r4 e5 => ?_)
  obtain ⟨r4a, r4b⟩ := r4
  refine w_pf hR rfl rfl rfl rfl (show w_in (x3) from ⟨by omega, by omega⟩) (fun h => absurd h (by decide)) (fun M6 hR7 => ?_)
  replace hR7 : w_Rep w_TM fr X u l (w_up I 2776 (x3)) A B C M6 := hR7
  refine w_adv (n := 1) (F' := (11, [(0, .ref 43)], [.ref 43], M6)) rfl ?_
  refine w_call (cm := 235) (as := [(0, .ref 43)]) (rest := []) (o := some (9, 43)) rfl (w_fitR hR7 rfl) (m_enter hR7 (show 2 ≤ d by omega) (show 0 ≤ (I 2774) ∧ (I 2774) < 1501 by omega) (show 0 ≤ (I 2775) ∧ (I 2775) ≤ 24 by first | assumption | omega)) (fun r8 M9 q10 => ?_)
  rcases q10 with ⟨e11, hR10a, f12⟩ | ⟨I10b, A10b, B10b, C10b, e13, hR10b, f14⟩
  · rw [e11]
    replace hR10a : w_Rep w_TM fr X u l (w_up (w_up (w_up I 2776 (x3)) 2775 ((I 2775) + 1)) 2774 ((I 2774) + 1)) A B C M9 := hR10a
    replace f12 : (I 2775) < 24 := f12
    have w15 : (I 2774) + 1 < (I 2754) := m_TK_lt hTK (show (I 2774) < (I 2754) by omega) (show 1 ≤ (A 45) ((I 2774)) by omega) (show (A 45) ((I 2774)) ≤ 6 by omega)
    show w_W _ _ _ (14, [(0, .ref 43)], [], M9) _
    refine w_adv (n := 1) (F' := (15, [(0, .ref 43)], [.ref 43], M9)) rfl ?_
    refine w_call (cm := 227) (as := [(0, .ref 43)]) (rest := []) (o := some (9, 43)) rfl (w_fitR hR10a rfl) (hA.2.1 (lo) hR10a (show 20 * (24 - ((I 2775) + 1)) + 19 ≤ (d : Int) by omega) (show m_TK (w_up (w_up (w_up I 2776 (x3)) 2775 ((I 2775) + 1)) 2774 ((I 2774) + 1)) A by exact hTK) (show (0 ≤ (I 2774) + 1 ∧ (I 2774) + 1 < (I 2754) ∧ (I 2754) ≤ 1501 ∧ 0 ≤ (I 2775) + 1 ∧ (I 2775) + 1 ≤ 24) ∧ ((I 3393) = (I 3905) ∧ (I 3521) = (I 3905) ∧ (I 3649) = (I 3905) ∧ (I 3777) = (I 3905) ∧ 0 ≤ (I 3905) ∧ (I 3905) ≤ 3 * ((I 2774) + 1)) ∧ ((I 4161) = (I 4033) ∧ 7 ≤ (I 4289) ∧ (I 4289) ≤ (I 4033) ∧ (I 4033) ≤ 7 + ((I 2774) + 1)) ∧ 0 ≤ (I 5889) ∧ (I 5889) ≤ (I 2774) + 1 by (repeat' apply And.intro) <;> first | assumption | omega) (show m_SC (w_up (w_up (w_up I 2776 (x3)) 2775 ((I 2775) + 1)) 2774 ((I 2774) + 1)) A by exact hSC) (show m_TR lo (w_up (w_up (w_up I 2776 (x3)) 2775 ((I 2775) + 1)) 2774 ((I 2774) + 1)) A by exact hTR) (show (I 2754) - ((I 2774) + 1) < N by first | assumption | omega)) (fun r16 M17 q18 => ?_)
    rcases q18 with ⟨v19, lo20, I18a, A18a, B18a, C18a, e21, ⟨r22, r23⟩, hR18a, f24, f25, f26, f27, f28, f29, f30, f31⟩ | ⟨I18b, A18b, B18b, C18b, e32, hR18b, f33⟩
    · rw [e21]
      replace hR18a : w_Rep w_TM fr X u l I18a A18a B18a C18a M17 := hR18a
      replace f24 : m_fx (w_up (w_up (w_up I 2776 (x3)) 2775 ((I 2775) + 1)) 2774 ((I 2774) + 1)) A I18a A18a := f24
      replace f25 : ((0 ≤ (I18a 2774) ∧ (I18a 2774) < (I18a 2754) ∧ (I18a 2754) ≤ 1501 ∧ 0 ≤ (I18a 2775) ∧ (I18a 2775) ≤ 24) ∧ ((I18a 3393) = (I18a 3905) ∧ (I18a 3521) = (I18a 3905) ∧ (I18a 3649) = (I18a 3905) ∧ (I18a 3777) = (I18a 3905) ∧ 0 ≤ (I18a 3905) ∧ (I18a 3905) ≤ 3 * (I18a 2774)) ∧ ((I18a 4161) = (I18a 4033) ∧ 7 ≤ (I18a 4289) ∧ (I18a 4289) ≤ (I18a 4033) ∧ (I18a 4033) ≤ 7 + (I18a 2774)) ∧ 0 ≤ (I18a 5889) ∧ (I18a 5889) ≤ (I18a 2774)) ∧ ((I18a 2754) = (I 2754) ∧ ((I 2774) + 1) + 1 ≤ (I18a 2774) ∧ (I18a 2775) = (I 2775) + 1 ∧ (I18a 4289) = (I 4289) + 0 ∧ (I18a 5889) = (I 5889)) ∧ ((I18a 3905) + 1 ≤ (I 3905) + 3 * ((I18a 2774) - ((I 2774) + 1)) ∧ (I 3905) ≤ v19 ∧ v19 + 1 = (I18a 3905) ∧ (I 4033) ≤ (I18a 4033) ∧ (I18a 4033) ≤ (I 4033) + ((I18a 2774) - ((I 2774) + 1))) := f25
      obtain ⟨⟨⟨n34, n35, n36, n37, n38⟩, ⟨n39, n40, n41, n42, n43, n44⟩, ⟨n45, n46, n47, n48⟩, n49, n50⟩, ⟨n51, n52, n53, n54, n55⟩, ⟨n56, n57, n58, n59, n60⟩⟩ := id f25
      clear f25
      replace f26 : m_SC I18a A18a := f26
      replace f27 : m_TR lo20 I18a A18a := f27
      replace f28 : m_ST lo (w_up (w_up (w_up I 2776 (x3)) 2775 ((I 2775) + 1)) 2774 ((I 2774) + 1)) A lo20 I18a A18a := f28
      replace f29 : (fun k => k = 25) ((A18a 53) (v19)) := f29
      replace f30 : m_rt lo20 (I18a 3905) v19 := f30
      replace f31 : m_RK lo20 (I 3905) (I18a 3905) (8 * (24 - ((I 2775) + 1)) + 7) := f31
      have tk61 : m_TK I18a A18a := m_TK_fx f24 hTK
      have nn62 : (I 3905) ≤ (I18a 3905) := by omega
      have nz63 : 0 ≤ (I 3905) := by first | assumption | omega
      have ho64 : (I 2775) + 1 = (I 2775) + (1) := by omega
      have rk66 : m_RK lo20 (I 3905) (I18a 3905) (8 * (24 - (I 2775)) + (-1)) := m_RK_app (I := (w_up (w_up (w_up I 2776 (x3)) 2775 ((I 2775) + 1)) 2774 ((I 2774) + 1))) (I' := I18a) (R := (8 * (24 - (I 2775)) + (-1))) (show m_RK lo (I 3905) (I 3905) (8 * (24 - (I 2775)) + (-1)) from fun q q1 q2 => by omega) f28 f31 (show 0 ≤ (I 3905) by first | assumption | omega) (m_r8 (by decide)) (m_r8o (k := 1) ho64 (by decide))
      have s65 : m_ST lo I A lo20 I18a A18a := f28
      have k67 : m_kd lo20 I18a A18a (I 3905) (8 * (24 - ((I 2775) + 1)) + 7) v19 (fun k => k = 25) := m_kd_of f28 f27 nz63 (show (I 3905) ≤ v19 by first | assumption | omega) (show v19 < (I18a 3905) by omega) f29 f31
      obtain ⟨j68, j69, j70, j71, j72⟩ := k67.1
      show w_W _ _ _ (18, [(0, .ref 43)], [.int (Int32.ofInt (v19))], M17) _
      refine w_adv (n := 3) (F' := (22, [(1, .int (Int32.ofInt (v19))), (0, .ref 43)], [.int (Int32.ofInt (14)), .ref 43], M17)) rfl ?_
      refine w_call (cm := 241) (as := [(0, .ref 43), (1, .int (Int32.ofInt (14)))]) (rest := []) (o := some (9, 43)) rfl (w_fitR hR18a rfl) (m_needWord (14) hR18a (show 2 ≤ d by omega) ⟨by omega, by omega⟩ (show 0 ≤ (I18a 2774) ∧ (I18a 2774) < 1501 by omega)) (fun r73 M74 q75 => ?_)
      rcases q75 with ⟨e76, hR75a, f77⟩ | ⟨I75b, A75b, B75b, C75b, e78, hR75b, f79⟩
      · rw [e76]
        replace hR75a : w_Rep w_TM fr X u l (w_up I18a 2774 ((I18a 2774) + 1)) A18a B18a C18a M74 := hR75a
        replace f77 : (A18a 45) ((I18a 2774)) = 5 ∧ (A18a 46) ((I18a 2774)) = 14 := f77
        obtain ⟨n80, n81⟩ := id f77
        clear f77
        have w82 : (I18a 2774) + 1 < (I18a 2754) := m_TK_lt tk61 (show (I18a 2774) < (I18a 2754) by omega) (show 1 ≤ (A18a 45) ((I18a 2774)) by omega) (show (A18a 45) ((I18a 2774)) ≤ 6 by omega)
        show w_W _ _ _ (25, [(1, .int (Int32.ofInt (v19))), (0, .ref 43)], [], M74) _
        refine w_adv (n := 1) (F' := (26, [(1, .int (Int32.ofInt (v19))), (0, .ref 43)], [.ref 43], M74)) rfl ?_
        refine w_gf (v := .ref 45) hR75a rfl rfl rfl rfl ?_
        refine w_adv (n := 1) (F' := (30, [(1, .int (Int32.ofInt (v19))), (0, .ref 43)], [.ref 43, .ref 45], M74)) rfl ?_
        refine w_gf (v := .int (Int32.ofInt ((I18a 2774) + 1))) hR75a rfl rfl rfl rfl ?_
        obtain ⟨r83, r84⟩ : -2147483648 ≤ (I18a 2774) + 1 ∧ (I18a 2774) + 1 ≤ 2147483647 := hR75a.ri 2774
        refine w_la (n := 1502) hR75a rfl (Or.inl ⟨rfl, rfl⟩) rfl (show 0 ≤ (I18a 2774) + 1 by omega) (show (I18a 2774) + 1 < (1502 : Int) by omega) (by decide) ?_
        obtain ⟨r85, r86⟩ : -2147483648 ≤ (A18a 45) ((I18a 2774) + 1) ∧ (A18a 45) ((I18a 2774) + 1) ≤ 2147483647 := hR75a.ra 45 ((I18a 2774) + 1)
        show w_W _ _ _ (34, [(1, .int (Int32.ofInt (v19))), (0, .ref 43)], [.int (Int32.ofInt ((A18a 45) ((I18a 2774) + 1)))], M74) _
        refine w_adv (n := 1) (F' := (35, [(1, .int (Int32.ofInt (v19))), (0, .ref 43)], [.int (Int32.ofInt (2)), .int (Int32.ofInt ((A18a 45) ((I18a 2774) + 1)))], M74)) rfl ?_
        refine w_br2 (a := (A18a 45) ((I18a 2774) + 1)) (b := 2) rfl rfl ⟨by omega, by omega⟩ ⟨by omega, by omega⟩ (fun h87 => ?_) (fun h87 => ?_)
        · have h87 : (A18a 45) ((I18a 2774) + 1) = 2 := h87
          have w88 : ((I18a 2774) + 1) + 1 < (I18a 2754) := m_TK_lt tk61 (by omega) (by omega) (by omega)
          show w_W _ _ _ (43, [(1, .int (Int32.ofInt (v19))), (0, .ref 43)], [], M74) _
          refine w_adv (n := 1) (F' := (44, [(1, .int (Int32.ofInt (v19))), (0, .ref 43)], [.ref 43], M74)) rfl ?_
          refine w_gf (v := .ref 67) hR75a rfl rfl rfl rfl ?_
          refine w_gf (v := .int (Int32.ofInt ((I18a 4289)))) hR75a rfl rfl rfl rfl ?_
          obtain ⟨r89, r90⟩ : -2147483648 ≤ (I18a 4289) ∧ (I18a 4289) ≤ 2147483647 := hR75a.ri 4289
          obtain ⟨r91a, r91b, r91c⟩ : 0 ≤ (I18a 4289) ∧ (I18a 4289) ≤ (C18a 67 : Int) ∧ (C18a 67 : Int) ≤ 131072 := hR75a.sz (show 67 ∈ w_TM.2.2 by decide)
          refine w_adv (n := 4) (F' := (54, [(2, .int (Int32.ofInt ((I18a 4289)))), (1, .int (Int32.ofInt (v19))), (0, .ref 43)], [.int (Int32.ofInt (0)), .int (Int32.ofInt ((I18a 4289))), .ref 43], M74)) rfl ?_
          refine w_call (cm := 237) (as := [(0, .ref 43), (1, .int (Int32.ofInt ((I18a 4289)))), (2, .int (Int32.ofInt (0)))]) (rest := []) (o := some (9, 43)) rfl (w_fitR hR75a rfl) (m_bind ((I18a 4289)) (0) (lo20) hR75a (show 20 * (24 - (I18a 2775)) + 6 ≤ (d : Int) by omega) ⟨by omega, by omega⟩ ⟨by omega, by omega⟩ (show m_TK (w_up I18a 2774 ((I18a 2774) + 1)) A18a by exact tk61) (show (0 ≤ (I18a 2774) + 1 ∧ (I18a 2774) + 1 < (I18a 2754) ∧ (I18a 2754) ≤ 1501 ∧ 0 ≤ (I18a 2775) ∧ (I18a 2775) ≤ 24) ∧ ((I18a 3393) = (I18a 3905) ∧ (I18a 3521) = (I18a 3905) ∧ (I18a 3649) = (I18a 3905) ∧ (I18a 3777) = (I18a 3905) ∧ 0 ≤ (I18a 3905) ∧ (I18a 3905) ≤ 3 * ((I18a 2774) + 1)) ∧ ((I18a 4161) = (I18a 4033) ∧ 7 ≤ (I18a 4289) ∧ (I18a 4289) ≤ (I18a 4033) ∧ (I18a 4033) ≤ 7 + ((I18a 2774) + 1)) ∧ 0 ≤ (I18a 5889) ∧ (I18a 5889) ≤ (I18a 2774) + 1 by (repeat' apply And.intro) <;> first | assumption | omega) (show m_SC (w_up I18a 2774 ((I18a 2774) + 1)) A18a by exact f26) (show m_TR lo20 (w_up I18a 2774 ((I18a 2774) + 1)) A18a by exact f27) (show (A18a 45) ((I18a 2774) + 1) = 2 by first | assumption | omega) (show 0 ≤ (I18a 4289) ∧ (I18a 4289) ≤ (I18a 4289) by first | assumption | omega)) (fun r92 M93 q94 => ?_)
          rcases q94 with ⟨v95, lo96, I94a, A94a, B94a, C94a, e97, ⟨r98, r99⟩, hR94a, f100, f101, f102, f103, f104, f105, f106, f107⟩ | ⟨I94b, A94b, B94b, C94b, e108, hR94b, f109⟩
          · rw [e97]
            replace hR94a : w_Rep w_TM fr X u l I94a A94a B94a C94a M93 := hR94a
            replace f100 : m_fx (w_up I18a 2774 ((I18a 2774) + 1)) A18a I94a A94a := f100
            replace f101 : ((0 ≤ (I94a 2774) ∧ (I94a 2774) < (I94a 2754) ∧ (I94a 2754) ≤ 1501 ∧ 0 ≤ (I94a 2775) ∧ (I94a 2775) ≤ 24) ∧ ((I94a 3393) = (I94a 3905) ∧ (I94a 3521) = (I94a 3905) ∧ (I94a 3649) = (I94a 3905) ∧ (I94a 3777) = (I94a 3905) ∧ 0 ≤ (I94a 3905) ∧ (I94a 3905) ≤ 3 * (I94a 2774)) ∧ ((I94a 4161) = (I94a 4033) ∧ 7 ≤ (I94a 4289) ∧ (I94a 4289) ≤ (I94a 4033) ∧ (I94a 4033) ≤ 7 + (I94a 2774)) ∧ 0 ≤ (I94a 5889) ∧ (I94a 5889) ≤ (I94a 2774)) ∧ ((I94a 2754) = (I18a 2754) ∧ ((I18a 2774) + 1) + 1 ≤ (I94a 2774) ∧ (I94a 2775) = (I18a 2775) ∧ (I94a 4289) = (I18a 4289) + 1 ∧ (I94a 5889) = (I18a 5889)) ∧ ((I94a 3905) + 2 ≤ (I18a 3905) + 3 * ((I94a 2774) - ((I18a 2774) + 1)) ∧ (I18a 3905) ≤ v95 ∧ v95 + 1 = (I94a 3905) ∧ (I18a 4033) ≤ (I94a 4033) ∧ (I94a 4033) ≤ (I18a 4033) + ((I94a 2774) - ((I18a 2774) + 1))) := f101
            obtain ⟨⟨⟨n110, n111, n112, n113, n114⟩, ⟨n115, n116, n117, n118, n119, n120⟩, ⟨n121, n122, n123, n124⟩, n125, n126⟩, ⟨n127, n128, n129, n130, n131⟩, ⟨n132, n133, n134, n135, n136⟩⟩ := id f101
            clear f101
            replace f102 : m_SC I94a A94a := f102
            replace f103 : m_TR lo96 I94a A94a := f103
            replace f104 : m_ST lo20 (w_up I18a 2774 ((I18a 2774) + 1)) A18a lo96 I94a A94a := f104
            replace f105 : (fun k => k = 28) ((A94a 53) (v95)) := f105
            replace f106 : m_rt lo96 (I94a 3905) v95 := f106
            replace f107 : m_RK lo96 (I18a 3905) (I94a 3905) (8 * (24 - (I18a 2775)) + 0) := f107
            have tk137 : m_TK I94a A94a := m_TK_fx f100 tk61
            have nn138 : (I18a 3905) ≤ (I94a 3905) := by omega
            have nz139 : 0 ≤ (I18a 3905) := by first | assumption | omega
            have ho140 : (I18a 2775) = (I 2775) + (1) := by omega
            have rk142 : m_RK lo96 (I 3905) (I94a 3905) (8 * (24 - (I 2775)) + (-1)) := m_RK_app (I := (w_up I18a 2774 ((I18a 2774) + 1))) (I' := I94a) (R := (8 * (24 - (I 2775)) + (-1))) (show m_RK lo20 (I 3905) (I18a 3905) (8 * (24 - (I 2775)) + (-1)) from rk66) f104 f107 (show 0 ≤ (I 3905) by first | assumption | omega) (m_r8 (by decide)) (m_r8o (k := 1) ho140 (by decide))
            have s141 : m_ST lo I A lo96 I94a A94a := m_ST_trans (show m_ST lo I A lo20 (w_up I18a 2774 ((I18a 2774) + 1)) A18a from s65) f104 (show 0 ≤ (I 3905) by first | assumption | omega) (show (I 3905) ≤ (I18a 3905) by first | assumption | omega) (show (I 4289) ≤ (I18a 4289) by first | assumption | omega) (show (I 5889) ≤ (I18a 5889) by first | assumption | omega)
            have k143 : m_kd lo96 I94a A94a (I 3905) (8 * (24 - ((I 2775) + 1)) + 7) v19 (fun k => k = 25) := m_kd_ST f104 nn138 k67
            have rt144 := m_rt_ST f104 (show 0 ≤ v19 by omega) (show v19 < (I18a 3905) by omega) f30
            have k145 : m_kd lo96 I94a A94a (I18a 3905) (8 * (24 - (I18a 2775)) + 0) v95 (fun k => k = 28) := m_kd_of f104 f103 nz139 (show (I18a 3905) ≤ v95 by first | assumption | omega) (show v95 < (I94a 3905) by omega) f105 f107
            obtain ⟨j146, j147, j148, j149, j150⟩ := k145.1
            show w_W _ _ _ (57, [(2, .int (Int32.ofInt ((I18a 4289)))), (1, .int (Int32.ofInt (v19))), (0, .ref 43)], [.int (Int32.ofInt (v95))], M93) _
            refine w_adv (n := 3) (F' := (60, [(3, .int (Int32.ofInt (v95))), (2, .int (Int32.ofInt ((I18a 4289)))), (1, .int (Int32.ofInt (v19))), (0, .ref 43)], [.int (Int32.ofInt (5)), .ref 43], M93)) rfl ?_
            refine w_call (cm := 241) (as := [(0, .ref 43), (1, .int (Int32.ofInt (5)))]) (rest := []) (o := some (9, 43)) rfl (w_fitR hR94a rfl) (m_needWord (5) hR94a (show 2 ≤ d by omega) ⟨by omega, by omega⟩ (show 0 ≤ (I94a 2774) ∧ (I94a 2774) < 1501 by omega)) (fun r151 M152 q153 => ?_)
            rcases q153 with ⟨e154, hR153a, f155⟩ | ⟨I153b, A153b, B153b, C153b, e156, hR153b, f157⟩
            · rw [e154]
              replace hR153a : w_Rep w_TM fr X u l (w_up I94a 2774 ((I94a 2774) + 1)) A94a B94a C94a M152 := hR153a
              replace f155 : (A94a 45) ((I94a 2774)) = 5 ∧ (A94a 46) ((I94a 2774)) = 5 := f155
              obtain ⟨n158, n159⟩ := id f155
              clear f155
              have w160 : (I94a 2774) + 1 < (I94a 2754) := m_TK_lt tk137 (show (I94a 2774) < (I94a 2754) by omega) (show 1 ≤ (A94a 45) ((I94a 2774)) by omega) (show (A94a 45) ((I94a 2774)) ≤ 6 by omega)
              show w_W _ _ _ (63, [(3, .int (Int32.ofInt (v95))), (2, .int (Int32.ofInt ((I18a 4289)))), (1, .int (Int32.ofInt (v19))), (0, .ref 43)], [], M152) _
              refine w_adv (n := 1) (F' := (64, [(3, .int (Int32.ofInt (v95))), (2, .int (Int32.ofInt ((I18a 4289)))), (1, .int (Int32.ofInt (v19))), (0, .ref 43)], [.ref 43], M152)) rfl ?_
              refine w_call (cm := 227) (as := [(0, .ref 43)]) (rest := []) (o := some (9, 43)) rfl (w_fitR hR153a rfl) (hA.2.1 (lo96) hR153a (show 20 * (24 - (I94a 2775)) + 19 ≤ (d : Int) by omega) (show m_TK (w_up I94a 2774 ((I94a 2774) + 1)) A94a by exact tk137) (show (0 ≤ (I94a 2774) + 1 ∧ (I94a 2774) + 1 < (I94a 2754) ∧ (I94a 2754) ≤ 1501 ∧ 0 ≤ (I94a 2775) ∧ (I94a 2775) ≤ 24) ∧ ((I94a 3393) = (I94a 3905) ∧ (I94a 3521) = (I94a 3905) ∧ (I94a 3649) = (I94a 3905) ∧ (I94a 3777) = (I94a 3905) ∧ 0 ≤ (I94a 3905) ∧ (I94a 3905) ≤ 3 * ((I94a 2774) + 1)) ∧ ((I94a 4161) = (I94a 4033) ∧ 7 ≤ (I94a 4289) ∧ (I94a 4289) ≤ (I94a 4033) ∧ (I94a 4033) ≤ 7 + ((I94a 2774) + 1)) ∧ 0 ≤ (I94a 5889) ∧ (I94a 5889) ≤ (I94a 2774) + 1 by (repeat' apply And.intro) <;> first | assumption | omega) (show m_SC (w_up I94a 2774 ((I94a 2774) + 1)) A94a by exact f102) (show m_TR lo96 (w_up I94a 2774 ((I94a 2774) + 1)) A94a by exact f103) (show (I94a 2754) - ((I94a 2774) + 1) < N by first | assumption | omega)) (fun r161 M162 q163 => ?_)
              rcases q163 with ⟨v164, lo165, I163a, A163a, B163a, C163a, e166, ⟨r167, r168⟩, hR163a, f169, f170, f171, f172, f173, f174, f175, f176⟩ | ⟨I163b, A163b, B163b, C163b, e177, hR163b, f178⟩
              · rw [e166]
                replace hR163a : w_Rep w_TM fr X u l I163a A163a B163a C163a M162 := hR163a
                replace f169 : m_fx (w_up I94a 2774 ((I94a 2774) + 1)) A94a I163a A163a := f169
                replace f170 : ((0 ≤ (I163a 2774) ∧ (I163a 2774) < (I163a 2754) ∧ (I163a 2754) ≤ 1501 ∧ 0 ≤ (I163a 2775) ∧ (I163a 2775) ≤ 24) ∧ ((I163a 3393) = (I163a 3905) ∧ (I163a 3521) = (I163a 3905) ∧ (I163a 3649) = (I163a 3905) ∧ (I163a 3777) = (I163a 3905) ∧ 0 ≤ (I163a 3905) ∧ (I163a 3905) ≤ 3 * (I163a 2774)) ∧ ((I163a 4161) = (I163a 4033) ∧ 7 ≤ (I163a 4289) ∧ (I163a 4289) ≤ (I163a 4033) ∧ (I163a 4033) ≤ 7 + (I163a 2774)) ∧ 0 ≤ (I163a 5889) ∧ (I163a 5889) ≤ (I163a 2774)) ∧ ((I163a 2754) = (I94a 2754) ∧ ((I94a 2774) + 1) + 1 ≤ (I163a 2774) ∧ (I163a 2775) = (I94a 2775) ∧ (I163a 4289) = (I94a 4289) + 0 ∧ (I163a 5889) = (I94a 5889)) ∧ ((I163a 3905) + 1 ≤ (I94a 3905) + 3 * ((I163a 2774) - ((I94a 2774) + 1)) ∧ (I94a 3905) ≤ v164 ∧ v164 + 1 = (I163a 3905) ∧ (I94a 4033) ≤ (I163a 4033) ∧ (I163a 4033) ≤ (I94a 4033) + ((I163a 2774) - ((I94a 2774) + 1))) := f170
                obtain ⟨⟨⟨n179, n180, n181, n182, n183⟩, ⟨n184, n185, n186, n187, n188, n189⟩, ⟨n190, n191, n192, n193⟩, n194, n195⟩, ⟨n196, n197, n198, n199, n200⟩, ⟨n201, n202, n203, n204, n205⟩⟩ := id f170
                clear f170
                replace f171 : m_SC I163a A163a := f171
                replace f172 : m_TR lo165 I163a A163a := f172
                replace f173 : m_ST lo96 (w_up I94a 2774 ((I94a 2774) + 1)) A94a lo165 I163a A163a := f173
                replace f174 : (fun k => k = 25) ((A163a 53) (v164)) := f174
                replace f175 : m_rt lo165 (I163a 3905) v164 := f175
                replace f176 : m_RK lo165 (I94a 3905) (I163a 3905) (8 * (24 - (I94a 2775)) + 7) := f176
                have tk206 : m_TK I163a A163a := m_TK_fx f169 tk137
                have nn207 : (I94a 3905) ≤ (I163a 3905) := by omega
                have nz208 : 0 ≤ (I94a 3905) := by first | assumption | omega
                have ho209 : (I94a 2775) = (I 2775) + (1) := by omega
                have rk211 : m_RK lo165 (I 3905) (I163a 3905) (8 * (24 - (I 2775)) + (-1)) := m_RK_app (I := (w_up I94a 2774 ((I94a 2774) + 1))) (I' := I163a) (R := (8 * (24 - (I 2775)) + (-1))) (show m_RK lo96 (I 3905) (I94a 3905) (8 * (24 - (I 2775)) + (-1)) from rk142) f173 f176 (show 0 ≤ (I 3905) by first | assumption | omega) (m_r8 (by decide)) (m_r8o (k := 1) ho209 (by decide))
                have s210 : m_ST lo I A lo165 I163a A163a := m_ST_trans (show m_ST lo I A lo96 (w_up I94a 2774 ((I94a 2774) + 1)) A94a from s141) f173 (show 0 ≤ (I 3905) by first | assumption | omega) (show (I 3905) ≤ (I94a 3905) by first | assumption | omega) (show (I 4289) ≤ (I94a 4289) by first | assumption | omega) (show (I 5889) ≤ (I94a 5889) by first | assumption | omega)
                have k212 : m_kd lo165 I163a A163a (I 3905) (8 * (24 - ((I 2775) + 1)) + 7) v19 (fun k => k = 25) := m_kd_ST f173 nn207 k143
                have rt213 := m_rt_ST f173 (show 0 ≤ v19 by omega) (show v19 < (I94a 3905) by omega) rt144
                have k214 : m_kd lo165 I163a A163a (I18a 3905) (8 * (24 - (I18a 2775)) + 0) v95 (fun k => k = 28) := m_kd_ST f173 nn207 k145
                have rt215 := m_rt_ST f173 (show 0 ≤ v95 by omega) (show v95 < (I94a 3905) by omega) f106
                have k216 : m_kd lo165 I163a A163a (I94a 3905) (8 * (24 - (I94a 2775)) + 7) v164 (fun k => k = 25) := m_kd_of f173 f172 nz208 (show (I94a 3905) ≤ v164 by first | assumption | omega) (show v164 < (I163a 3905) by omega) f174 f176
                obtain ⟨j217, j218, j219, j220, j221⟩ := k216.1
                show w_W _ _ _ (67, [(3, .int (Int32.ofInt (v95))), (2, .int (Int32.ofInt ((I18a 4289)))), (1, .int (Int32.ofInt (v19))), (0, .ref 43)], [.int (Int32.ofInt (v164))], M162) _
                refine w_adv (n := 3) (F' := (71, [(4, .int (Int32.ofInt (v164))), (3, .int (Int32.ofInt (v95))), (2, .int (Int32.ofInt ((I18a 4289)))), (1, .int (Int32.ofInt (v19))), (0, .ref 43)], [.int (Int32.ofInt (3)), .ref 43], M162)) rfl ?_
                refine w_call (cm := 244) (as := [(0, .ref 43), (1, .int (Int32.ofInt (3)))]) (rest := []) (o := some (9, 43)) rfl (w_fitR hR163a rfl) (m_closeWord (3) hR163a (show 3 ≤ d by omega) ⟨by omega, by omega⟩ (show 0 ≤ (I163a 2774) ∧ (I163a 2774) < 1501 by omega) (show 1 ≤ (I163a 2775) ∧ (I163a 2775) ≤ 24 by first | assumption | omega)) (fun r222 M223 q224 => ?_)
                rcases q224 with ⟨e225, hR224a, f226⟩ | ⟨I224b, A224b, B224b, C224b, e227, hR224b, f228⟩
                · rw [e225]
                  replace hR224a : w_Rep w_TM fr X u l (w_up (w_up I163a 2774 ((I163a 2774) + 1)) 2775 ((I163a 2775) - 1)) A163a B163a C163a M223 := hR224a
                  replace f226 : (A163a 45) ((I163a 2774)) = 5 ∧ (A163a 46) ((I163a 2774)) = 3 := f226
                  obtain ⟨n229, n230⟩ := id f226
                  clear f226
                  have w231 : (I163a 2774) + 1 < (I163a 2754) := m_TK_lt tk206 (show (I163a 2774) < (I163a 2754) by omega) (show 1 ≤ (A163a 45) ((I163a 2774)) by omega) (show (A163a 45) ((I163a 2774)) ≤ 6 by omega)
                  show w_W _ _ _ (74, [(4, .int (Int32.ofInt (v164))), (3, .int (Int32.ofInt (v95))), (2, .int (Int32.ofInt ((I18a 4289)))), (1, .int (Int32.ofInt (v19))), (0, .ref 43)], [], M223) _
                  refine w_adv (n := 1) (F' := (75, [(4, .int (Int32.ofInt (v164))), (3, .int (Int32.ofInt (v95))), (2, .int (Int32.ofInt ((I18a 4289)))), (1, .int (Int32.ofInt (v19))), (0, .ref 43)], [.ref 43], M223)) rfl ?_
                  refine w_gf (v := .ref 67) hR224a rfl rfl rfl rfl ?_
                  refine w_adv (n := 1) (F' := (79, [(4, .int (Int32.ofInt (v164))), (3, .int (Int32.ofInt (v95))), (2, .int (Int32.ofInt ((I18a 4289)))), (1, .int (Int32.ofInt (v19))), (0, .ref 43)], [.int (Int32.ofInt ((I18a 4289))), .ref 67], M223)) rfl ?_
                  obtain ⟨r232a, r232b, r232c⟩ : 0 ≤ (I163a 4289) ∧ (I163a 4289) ≤ (C163a 67 : Int) ∧ (C163a 67 : Int) ≤ 131072 := hR224a.sz (show 67 ∈ w_TM.2.2 by decide)
                  refine w_pf hR224a rfl rfl rfl rfl (show w_in ((I18a 4289)) from ⟨by omega, by omega⟩) (fun _ _ => (show 0 ≤ (I18a 4289) ∧ (I18a 4289) ≤ (C163a 67 : Int) by omega)) (fun M233 hR234 => ?_)
                  replace hR234 : w_Rep w_TM fr X u l (w_up (w_up (w_up I163a 2774 ((I163a 2774) + 1)) 2775 ((I163a 2775) - 1)) 4289 ((I18a 4289))) A163a B163a C163a M233 := hR234
                  have sc235 : m_SC (w_up (w_up (w_up I163a 2774 ((I163a 2774) + 1)) 2775 ((I163a 2775) - 1)) 4289 ((I18a 4289))) A163a := m_SC_cut f171 (show (I18a 4289) ≤ (I163a 4289) by omega) rfl rfl
                  refine w_adv (n := 5) (F' := (89, [(4, .int (Int32.ofInt (v164))), (3, .int (Int32.ofInt (v95))), (2, .int (Int32.ofInt ((I18a 4289)))), (1, .int (Int32.ofInt (v19))), (0, .ref 43)], [.int (Int32.ofInt (v164)), .int (Int32.ofInt (v95)), .int (Int32.ofInt (v19)), .int (Int32.ofInt (21)), .ref 43], M233)) rfl ?_
                  refine w_call (cm := 239) (as := [(0, .ref 43), (1, .int (Int32.ofInt (21))), (2, .int (Int32.ofInt (v19))), (3, .int (Int32.ofInt (v95))), (4, .int (Int32.ofInt (v164)))]) (rest := []) (o := some (9, 43)) rfl (w_fitR hR234 rfl) (m_node (21) (v19) (v95) (v164) hR234 (show 2 ≤ d by omega) ⟨by omega, by omega⟩ ⟨by omega, by omega⟩ ⟨by omega, by omega⟩ ⟨by omega, by omega⟩ (show (I163a 3393) = (I163a 3905) by first | assumption | omega) (show (I163a 3521) = (I163a 3905) by first | assumption | omega) (show (I163a 3649) = (I163a 3905) by first | assumption | omega) (show (I163a 3777) = (I163a 3905) by first | assumption | omega) (show (I163a 3905) < 65536 by first | assumption | omega)) (fun r236 M237 q238 => ?_)
                  rcases q238 with ⟨v239, I238a, A238a, B238a, C238a, e240, ⟨r241, r242⟩, hR238a, f243, f244⟩
                  rw [e240]
                  replace hR238a : w_Rep w_TM fr X u l I238a A238a B238a C238a M237 := hR238a
                  replace f243 : m_fx (w_up (w_up (w_up I163a 2774 ((I163a 2774) + 1)) 2775 ((I163a 2775) - 1)) 4289 ((I18a 4289))) A163a I238a A238a := f243
                  replace f244 : m_nd (w_up (w_up (w_up I163a 2774 ((I163a 2774) + 1)) 2775 ((I163a 2775) - 1)) 4289 ((I18a 4289))) A163a I238a A238a v239 21 v19 v95 v164 := f244
                  obtain ⟨⟨n245, n246, n247, n248, n249, n250⟩, ⟨n251, n252, n253, n254, n255, n256, n257⟩⟩ : (v239 = (I163a 3905) ∧ (I238a 3905) = (I163a 3905) + 1 ∧ (I238a 3393) = (I163a 3393) + 1 ∧ (I238a 3521) = (I163a 3521) + 1 ∧ (I238a 3649) = (I163a 3649) + 1 ∧ (I238a 3777) = (I163a 3777) + 1) ∧ ((I238a 2774) = (I163a 2774) + 1 ∧ (I238a 2754) = (I163a 2754) ∧ (I238a 2775) = (I163a 2775) - 1 ∧ (I238a 4289) = (I18a 4289) ∧ (I238a 4033) = (I163a 4033) ∧ (I238a 4161) = (I163a 4161) ∧ (I238a 5889) = (I163a 5889)) := m_nd_num f244
                  have tk258 : m_TK I238a A238a := m_TK_fx f243 tk206
                  have sc259 : m_SC I238a A238a := m_SC_nd f244 sc235
                  have tr260 : m_TR (t_up lo165 v239 (I 3905) (8 * (24 - (I 2775)) + (0))) I238a A238a := m_TR_nd (show m_TR lo165 (w_up (w_up (w_up I163a 2774 ((I163a 2774) + 1)) 2775 ((I163a 2775) - 1)) 4289 ((I18a 4289))) A163a from f172) f244 (show 0 ≤ (I 3905) by omega) (show (I 3905) ≤ v239 by omega) (m_cl_ST (show m_ST lo I A lo165 (w_up (w_up (w_up I163a 2774 ((I163a 2774) + 1)) 2775 ((I163a 2775) - 1)) 4289 ((I18a 4289))) A163a from s210) hTR (show 0 ≤ (I 3905) by omega)) (t_N_mk21 t_up_same (show 0 ≤ (I 3905) by omega) (show (I 3905) ≤ v239 by omega) (show 0 ≤ (8 * (24 - (I 2775)) + (0)) by omega) (m_hw (show m_RK lo165 (I 3905) v239 (8 * (24 - (I 2775)) + (-1)) from fun q q1 q2 => (show m_RK lo165 (I 3905) (I163a 3905) (8 * (24 - (I 2775)) + (-1)) from rk211) q (show (I 3905) ≤ q by omega) (show q < (I163a 3905) by omega)) (m_r8l (by decide))) ⟨m_ch f244 (show (I 3905) ≤ (I 3905) by omega) (show m_kd lo165 (w_up (w_up (w_up I163a 2774 ((I163a 2774) + 1)) 2775 ((I163a 2775) - 1)) 4289 ((I18a 4289))) A163a (I 3905) (8 * (24 - ((I 2775) + 1)) + 7) v19 (fun k => k = 25) from k212), m_ch f244 (show (I 3905) ≤ (I18a 3905) by omega) (show m_kd lo165 (w_up (w_up (w_up I163a 2774 ((I163a 2774) + 1)) 2775 ((I163a 2775) - 1)) 4289 ((I18a 4289))) A163a (I18a 3905) (8 * (24 - (I18a 2775)) + 0) v95 (fun k => k = 28) from k214), m_ch f244 (show (I 3905) ≤ (I94a 3905) by omega) (show m_kd lo165 (w_up (w_up (w_up I163a 2774 ((I163a 2774) + 1)) 2775 ((I163a 2775) - 1)) 4289 ((I18a 4289))) A163a (I94a 3905) (8 * (24 - (I94a 2775)) + 7) v164 (fun k => k = 25) from k216), m_od f244 (show m_kd lo165 (w_up (w_up (w_up I163a 2774 ((I163a 2774) + 1)) 2775 ((I163a 2775) - 1)) 4289 ((I18a 4289))) A163a (I18a 3905) (8 * (24 - (I18a 2775)) + 0) v95 (fun k => k = 28) from k214) (show v19 < (I18a 3905) by omega), m_od f244 (show m_kd lo165 (w_up (w_up (w_up I163a 2774 ((I163a 2774) + 1)) 2775 ((I163a 2775) - 1)) 4289 ((I18a 4289))) A163a (I94a 3905) (8 * (24 - (I94a 2775)) + 7) v164 (fun k => k = 25) from k216) (show v95 < (I94a 3905) by omega)⟩)
                  have s261 : m_ST lo I A (t_up lo165 v239 (I 3905) (8 * (24 - (I 2775)) + (0))) I238a A238a := m_ST_nd (l := (I 3905)) (show m_ST lo I A lo165 (w_up (w_up (w_up I163a 2774 ((I163a 2774) + 1)) 2775 ((I163a 2775) - 1)) 4289 ((I18a 4289))) A163a from s210) f244 (show (I 3905) ≤ (I 3905) by omega) (show (I 3905) ≤ (I163a 3905) by omega)
                  have rk262 : m_RK (t_up lo165 v239 (I 3905) (8 * (24 - (I 2775)) + (0))) (I 3905) (I238a 3905) (8 * (24 - (I 2775)) + (0)) := fun q q1 q2 => m_RK_nd (show m_RK lo165 (I 3905) v239 (8 * (24 - (I 2775)) + (-1)) from fun q q1 q2 => (show m_RK lo165 (I 3905) (I163a 3905) (8 * (24 - (I 2775)) + (-1)) from rk211) q q1 (show q < (I163a 3905) by omega)) (m_r8 (by decide)) (m_r8 (by decide)) q q1 (show q < v239 + 1 by omega)
                  have k263 : m_kd (t_up lo165 v239 (I 3905) (8 * (24 - (I 2775)) + (0))) I238a A238a (I 3905) (8 * (24 - (I 2775)) + (0)) v239 (fun k => k = 21) := m_kd_new f244 (show 0 ≤ (I 3905) by omega) (show (I 3905) ≤ v239 by omega) rfl
                  have rt264 : m_rt (t_up lo165 v239 (I 3905) (8 * (24 - (I 2775)) + (0))) (I238a 3905) v239 := m_rt_new f244
                  show w_W _ _ _ (92, [(4, .int (Int32.ofInt (v164))), (3, .int (Int32.ofInt (v95))), (2, .int (Int32.ofInt ((I18a 4289)))), (1, .int (Int32.ofInt (v19))), (0, .ref 43)], [.int (Int32.ofInt (v239))], M237) _
                  refine w_fin (r := .inl (some (v239))) (M' := M237) rfl ?_
                  exact Or.inl ⟨v239, (t_up lo165 v239 (I 3905) (8 * (24 - (I 2775)) + (0))), I238a, A238a, B238a, C238a, rfl, ⟨by omega, by omega⟩, hR238a, (show m_fx I A I238a A238a by exact (m_fx_trans (m_fx_trans (m_fx_trans f24 f100) f169) f243)), (show ((0 ≤ (I238a 2774) ∧ (I238a 2774) < (I238a 2754) ∧ (I238a 2754) ≤ 1501 ∧ 0 ≤ (I238a 2775) ∧ (I238a 2775) ≤ 24) ∧ ((I238a 3393) = (I238a 3905) ∧ (I238a 3521) = (I238a 3905) ∧ (I238a 3649) = (I238a 3905) ∧ (I238a 3777) = (I238a 3905) ∧ 0 ≤ (I238a 3905) ∧ (I238a 3905) ≤ 3 * (I238a 2774)) ∧ ((I238a 4161) = (I238a 4033) ∧ 7 ≤ (I238a 4289) ∧ (I238a 4289) ≤ (I238a 4033) ∧ (I238a 4033) ≤ 7 + (I238a 2774)) ∧ 0 ≤ (I238a 5889) ∧ (I238a 5889) ≤ (I238a 2774)) ∧ ((I238a 2754) = (I 2754) ∧ (I 2774) + 1 ≤ (I238a 2774) ∧ (I238a 2775) = (I 2775) ∧ (I238a 4289) = (I 4289) + 0 ∧ (I238a 5889) = (I 5889)) ∧ ((I238a 3905) + 2 ≤ (I 3905) + 3 * ((I238a 2774) - (I 2774)) ∧ (I 3905) ≤ v239 ∧ v239 + 1 = (I238a 3905) ∧ (I 4033) ≤ (I238a 4033) ∧ (I238a 4033) ≤ (I 4033) + ((I238a 2774) - (I 2774))) by (repeat' apply And.intro) <;> first | assumption | omega), (show m_SC I238a A238a by exact sc259), (show m_TR (t_up lo165 v239 (I 3905) (8 * (24 - (I 2775)) + (0))) I238a A238a by exact tr260), (show m_ST lo I A (t_up lo165 v239 (I 3905) (8 * (24 - (I 2775)) + (0))) I238a A238a by exact s261), (show (fun k => k = 21) ((A238a 53) (v239)) by exact (k263).2), (show m_rt (t_up lo165 v239 (I 3905) (8 * (24 - (I 2775)) + (0))) (I238a 3905) v239 by exact rt264), (show m_RK (t_up lo165 v239 (I 3905) (8 * (24 - (I 2775)) + (0))) (I 3905) (I238a 3905) (8 * (24 - (I 2775)) + 0) by exact m_RK_le (show m_RK (t_up lo165 v239 (I 3905) (8 * (24 - (I 2775)) + (0))) (I 3905) (I238a 3905) (8 * (24 - (I 2775)) + (0)) from rk262) (show (8 * (24 - (I 2775)) + (0)) ≤ 8 * (24 - (I 2775)) + 0 by omega))⟩
                · rw [e227]
                  replace hR224b : w_Rep w_TM fr X u l I224b A224b B224b C224b M223 := hR224b
                  replace f228 : m_fx I163a A163a I224b A224b := f228
                  exact Or.inr (⟨I224b, A224b, B224b, C224b, rfl, hR224b, (show m_fx I A I224b A224b by exact (m_fx_trans (m_fx_trans (m_fx_trans f24 f100) f169) f228))⟩)
              · rw [e177]
                replace hR163b : w_Rep w_TM fr X u l I163b A163b B163b C163b M162 := hR163b
                replace f178 : m_fx (w_up I94a 2774 ((I94a 2774) + 1)) A94a I163b A163b := f178
                exact Or.inr (⟨I163b, A163b, B163b, C163b, rfl, hR163b, (show m_fx I A I163b A163b by exact (m_fx_trans (m_fx_trans f24 f100) f178))⟩)
            · rw [e156]
              replace hR153b : w_Rep w_TM fr X u l I153b A153b B153b C153b M152 := hR153b
              replace f157 : m_fx I94a A94a I153b A153b := f157
              exact Or.inr (⟨I153b, A153b, B153b, C153b, rfl, hR153b, (show m_fx I A I153b A153b by exact (m_fx_trans (m_fx_trans f24 f100) f157))⟩)
          · rw [e108]
            replace hR94b : w_Rep w_TM fr X u l I94b A94b B94b C94b M93 := hR94b
            replace f109 : m_fx (w_up I18a 2774 ((I18a 2774) + 1)) A18a I94b A94b := f109
            exact Or.inr (⟨I94b, A94b, B94b, C94b, rfl, hR94b, (show m_fx I A I94b A94b by exact (m_fx_trans f24 f109))⟩)
        · have h87 : ¬ ((A18a 45) ((I18a 2774) + 1) = 2) := h87
          show w_W _ _ _ (38, [(1, .int (Int32.ofInt (v19))), (0, .ref 43)], [], M74) _
          refine w_adv (n := 2) (F' := (40, [(1, .int (Int32.ofInt (v19))), (0, .ref 43)], [.int (Int32.ofInt (1)), .ref 43], M74)) rfl ?_
          refine w_call (cm := 232) (as := [(0, .ref 43), (1, .int (Int32.ofInt (1)))]) (rest := []) (o := some (9, 43)) rfl (w_fitR hR75a rfl) (m_fail (1) hR75a ⟨by omega, by omega⟩ (show 0 ≤ (I18a 2774) + 1 ∧ (I18a 2774) + 1 < 1501 by omega) (show 1 ≤ 1 ∧ 1 ≤ 7 by first | assumption | omega)) (fun r265 M266 q267 => ?_)
          rcases q267 with ⟨I267a, A267a, B267a, C267a, e268, hR267a, f269⟩
          rw [e268]
          replace hR267a : w_Rep w_TM fr X u l I267a A267a B267a C267a M266 := hR267a
          replace f269 : m_fx (w_up I18a 2774 ((I18a 2774) + 1)) A18a I267a A267a := f269
          exact Or.inr (⟨I267a, A267a, B267a, C267a, rfl, hR267a, (show m_fx I A I267a A267a by exact (m_fx_trans f24 f269))⟩)
      · rw [e78]
        replace hR75b : w_Rep w_TM fr X u l I75b A75b B75b C75b M74 := hR75b
        replace f79 : m_fx I18a A18a I75b A75b := f79
        exact Or.inr (⟨I75b, A75b, B75b, C75b, rfl, hR75b, (show m_fx I A I75b A75b by exact (m_fx_trans f24 f79))⟩)
    · rw [e32]
      replace hR18b : w_Rep w_TM fr X u l I18b A18b B18b C18b M17 := hR18b
      replace f33 : m_fx (w_up (w_up (w_up I 2776 (x3)) 2775 ((I 2775) + 1)) 2774 ((I 2774) + 1)) A I18b A18b := f33
      exact Or.inr (⟨I18b, A18b, B18b, C18b, rfl, hR18b, (show m_fx I A I18b A18b by exact f33)⟩)
  · rw [e13]
    replace hR10b : w_Rep w_TM fr X u l I10b A10b B10b C10b M9 := hR10b
    replace f14 : m_fx (w_up I 2776 (x3)) A I10b A10b := f14
    exact Or.inr (⟨I10b, A10b, B10b, C10b, rfl, hR10b, (show m_fx I A I10b A10b by exact f14)⟩)
