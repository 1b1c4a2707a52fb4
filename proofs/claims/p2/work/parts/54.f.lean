def m_local_Q (fr : Nat → Bool) (X : Nat → Option (q_C (Nat → Int32))) (u l : Nat) (I : Nat → Int) (A : Nat → Int → Int) (B C : Nat → Nat) (M : w_M) (vl : Int) (lo : Int → Int) : w_X → w_M → Prop := fun r M' => (∃ v : Int, ∃ lo' : Int → Int, ∃ (I' : Nat → Int) (A' : Nat → Int → Int) (B' C' : Nat → Nat), (r = .inl (some v)) ∧ (w_in v) ∧ (w_Rep w_TM fr X u l I' A' B' C' M') ∧ (m_fx I A I' A') ∧ (((0 ≤ (I' 2774) ∧ (I' 2774) < (I' 2754) ∧ (I' 2754) ≤ 1501 ∧ 0 ≤ (I' 2775) ∧ (I' 2775) ≤ 24) ∧ ((I' 3393) = (I' 3905) ∧ (I' 3521) = (I' 3905) ∧ (I' 3649) = (I' 3905) ∧ (I' 3777) = (I' 3905) ∧ 0 ≤ (I' 3905) ∧ (I' 3905) ≤ 3 * (I' 2774)) ∧ ((I' 4161) = (I' 4033) ∧ 7 ≤ (I' 4289) ∧ (I' 4289) ≤ (I' 4033) ∧ (I' 4033) ≤ 7 + (I' 2774)) ∧ 0 ≤ (I' 5889) ∧ (I' 5889) ≤ (I' 2774)) ∧ ((I' 2754) = (I 2754) ∧ (I 2774) + 1 ≤ (I' 2774) ∧ (I' 2775) = (I 2775) ∧ (I' 4289) = (I 4289) + 0 ∧ (I' 5889) = (I 5889)) ∧ ((I' 3905) + 2 ≤ (I 3905) + 3 * ((I' 2774) - (I 2774)) ∧ (I 3905) ≤ v ∧ v + 1 = (I' 3905) ∧ (I 4033) ≤ (I' 4033) ∧ (I' 4033) ≤ (I 4033) + ((I' 2774) - (I 2774)))) ∧ (m_SC I' A') ∧ (m_TR lo' I' A') ∧ (m_ST lo I A lo' I' A') ∧ ((fun k => k = 14) ((A' 53) (v))) ∧ (m_rt lo' (I' 3905) v)) ∨ (∃ (I' : Nat → Int) (A' : Nat → Int → Int) (B' C' : Nat → Nat), (r = .inr 69) ∧ (w_Rep w_TM fr X u l I' A' B' C' M') ∧ (m_fx I A I' A'))
set_option maxRecDepth 100000 in
theorem m_local {L : Nat} {xs : Nat → Int32} {d : Nat} {fr : Nat → Bool} {X : Nat → Option (q_C (Nat → Int32))} {u l : Nat} {I : Nat → Int} {A : Nat → Int → Int} {B C : Nat → Nat} {M : w_M} {N : Int} (hA : m_all L xs N) (vl : Int) (lo : Int → Int) (hR : w_Rep w_TM fr X u l I A B C M) (hd : 20 * (24 - (I 2775)) + 11 ≤ (d : Int)) (r_vl : w_in vl) (hTK : m_TK I A) (hNU : (0 ≤ (I 2774) ∧ (I 2774) < (I 2754) ∧ (I 2754) ≤ 1501 ∧ 0 ≤ (I 2775) ∧ (I 2775) ≤ 24) ∧ ((I 3393) = (I 3905) ∧ (I 3521) = (I 3905) ∧ (I 3649) = (I 3905) ∧ (I 3777) = (I 3905) ∧ 0 ≤ (I 3905) ∧ (I 3905) ≤ 3 * (I 2774)) ∧ ((I 4161) = (I 4033) ∧ 7 ≤ (I 4289) ∧ (I 4289) ≤ (I 4033) ∧ (I 4033) ≤ 7 + (I 2774)) ∧ 0 ≤ (I 5889) ∧ (I 5889) ≤ (I 2774)) (hSC : m_SC I A) (hTR : m_TR lo I A) (hk : 1 ≤ (A 45) ((I 2774)) ∧ (A 45) ((I 2774)) ≤ 6) (hm : (I 2754) - (I 2774) ≤ N) : w_W (z_P L xs) d 234 (0, [(0, .ref 43), (1, .int (Int32.ofInt (vl)))], [], M) (m_local_Q fr X u l I A B C M vl lo) := by
  obtain ⟨ra_vl, rb_vl⟩ := r_vl
  obtain ⟨d, rfl⟩ : ∃ d0, d = d0 + 1 := ⟨d - 1, by omega⟩
  have wl : (I 2774) + 1 < (I 2754) := m_TK_lt hTK (by omega) (by omega) (by omega)
  refine w_adv (n := 1) (F' := (1, [(0, .ref 43), (1, .int (Int32.ofInt (vl)))], [.ref 43], M)) rfl ?_
  refine w_gf (v := .ref 67) hR rfl rfl rfl rfl ?_
  refine w_gf (v := .int (Int32.ofInt ((I 4289)))) hR rfl rfl rfl rfl ?_
  obtain ⟨r1, r2⟩ : -2147483648 ≤ (I 4289) ∧ (I 4289) ≤ 2147483647 := hR.ri 4289
  obtain ⟨r3a, r3b, r3c⟩ : 0 ≤ (I 4289) ∧ (I 4289) ≤ (C 67 : Int) ∧ (C 67 : Int) ≤ 131072 := hR.sz (show 67 ∈ w_TM.2.2 by decide)
  refine w_adv (n := 2) (F' := (9, [(2, .int (Int32.ofInt ((I 4289)))), (0, .ref 43), (1, .int (Int32.ofInt (vl)))], [.ref 43], M)) rfl ?_
  refine w_call (cm := 235) (as := [(0, .ref 43)]) (rest := []) (o := some (9, 43)) rfl (w_fitR hR rfl) (m_enter hR (show 2 ≤ d by omega) (show 0 ≤ (I 2774) ∧ (I 2774) < 1501 by omega) (show 0 ≤ (I 2775) ∧ (I 2775) ≤ 24 by first | assumption | omega)) (fun r4 M5 q6 => ?_)
  rcases q6 with ⟨e7, hR6a, f8⟩ | ⟨I6b, A6b, B6b, C6b, e9, hR6b, f10⟩
  · rw [e7]
    replace hR6a : w_Rep w_TM fr X u l (w_up (w_up I 2775 ((I 2775) + 1)) 2774 ((I 2774) + 1)) A B C M5 := hR6a
    replace f8 : (I 2775) < 24 := f8
    have w11 : (I 2774) + 1 < (I 2754) := m_TK_lt hTK (show (I 2774) < (I 2754) by omega) (show 1 ≤ (A 45) ((I 2774)) by omega) (show (A 45) ((I 2774)) ≤ 6 by omega)
    show w_W _ _ _ (12, [(2, .int (Int32.ofInt ((I 4289)))), (0, .ref 43), (1, .int (Int32.ofInt (vl)))], [], M5) _
    refine w_adv (n := 1) (F' := (13, [(2, .int (Int32.ofInt ((I 4289)))), (0, .ref 43), (1, .int (Int32.ofInt (vl)))], [.ref 43], M5)) rfl ?_
    refine w_gf (v := .ref 45) hR6a rfl rfl rfl rfl ?_
    refine w_adv (n := 1) (F' := (17, [(2, .int (Int32.ofInt ((I 4289)))), (0, .ref 43), (1, .int (Int32.ofInt (vl)))], [.ref 43, .ref 45], M5)) rfl ?_
    refine w_gf (v := .int (Int32.ofInt ((I 2774) + 1))) hR6a rfl rfl rfl rfl ?_
    obtain ⟨r12, r13⟩ : -2147483648 ≤ (I 2774) + 1 ∧ (I 2774) + 1 ≤ 2147483647 := hR6a.ri 2774
    refine w_la (n := 1502) hR6a rfl (Or.inl ⟨rfl, rfl⟩) rfl (show 0 ≤ (I 2774) + 1 by omega) (show (I 2774) + 1 < (1502 : Int) by omega) (by decide) ?_
    obtain ⟨r14, r15⟩ : -2147483648 ≤ (A 45) ((I 2774) + 1) ∧ (A 45) ((I 2774) + 1) ≤ 2147483647 := hR6a.ra 45 ((I 2774) + 1)
    show w_W _ _ _ (21, [(2, .int (Int32.ofInt ((I 4289)))), (0, .ref 43), (1, .int (Int32.ofInt (vl)))], [.int (Int32.ofInt ((A 45) ((I 2774) + 1)))], M5) _
    refine w_adv (n := 1) (F' := (22, [(2, .int (Int32.ofInt ((I 4289)))), (0, .ref 43), (1, .int (Int32.ofInt (vl)))], [.int (Int32.ofInt (2)), .int (Int32.ofInt ((A 45) ((I 2774) + 1)))], M5)) rfl ?_
    refine w_br2 (a := (A 45) ((I 2774) + 1)) (b := 2) rfl rfl ⟨by omega, by omega⟩ ⟨by omega, by omega⟩ (fun h16 => ?_) (fun h16 => ?_)
    · have h16 : (A 45) ((I 2774) + 1) = 2 := h16
      have w17 : ((I 2774) + 1) + 1 < (I 2754) := m_TK_lt hTK (by omega) (by omega) (by omega)
      show w_W _ _ _ (30, [(2, .int (Int32.ofInt ((I 4289)))), (0, .ref 43), (1, .int (Int32.ofInt (vl)))], [], M5) _
      refine w_adv (n := 1) (F' := (31, [(2, .int (Int32.ofInt ((I 4289)))), (0, .ref 43), (1, .int (Int32.ofInt (vl)))], [.ref 43], M5)) rfl ?_
      refine w_call (cm := 236) (as := [(0, .ref 43)]) (rest := []) (o := some (9, 43)) rfl (w_fitR hR6a rfl) (m_binds (lo) hR6a (show 20 * (24 - ((I 2775) + 1)) + 8 ≤ (d : Int) by omega) (show m_TK (w_up (w_up I 2775 ((I 2775) + 1)) 2774 ((I 2774) + 1)) A by exact hTK) (show (0 ≤ (I 2774) + 1 ∧ (I 2774) + 1 < (I 2754) ∧ (I 2754) ≤ 1501 ∧ 0 ≤ (I 2775) + 1 ∧ (I 2775) + 1 ≤ 24) ∧ ((I 3393) = (I 3905) ∧ (I 3521) = (I 3905) ∧ (I 3649) = (I 3905) ∧ (I 3777) = (I 3905) ∧ 0 ≤ (I 3905) ∧ (I 3905) ≤ 3 * ((I 2774) + 1)) ∧ ((I 4161) = (I 4033) ∧ 7 ≤ (I 4289) ∧ (I 4289) ≤ (I 4033) ∧ (I 4033) ≤ 7 + ((I 2774) + 1)) ∧ 0 ≤ (I 5889) ∧ (I 5889) ≤ (I 2774) + 1 by (repeat' apply And.intro) <;> omega) (show m_SC (w_up (w_up I 2775 ((I 2775) + 1)) 2774 ((I 2774) + 1)) A by exact hSC) (show m_TR lo (w_up (w_up I 2775 ((I 2775) + 1)) 2774 ((I 2774) + 1)) A by exact hTR)) (fun r18 M19 q20 => ?_)
      rcases q20 with ⟨v21, lo22, I20a, A20a, B20a, C20a, e23, ⟨r24, r25⟩, hR20a, f26, f27, f28, f29, f30, f31, f32⟩ | ⟨I20b, A20b, B20b, C20b, e33, hR20b, f34⟩
      · rw [e23]
        replace hR20a : w_Rep w_TM fr X u l I20a A20a B20a C20a M19 := hR20a
        replace f26 : m_fx (w_up (w_up I 2775 ((I 2775) + 1)) 2774 ((I 2774) + 1)) A I20a A20a := f26
        replace f27 : ((0 ≤ (I20a 2774) ∧ (I20a 2774) < (I20a 2754) ∧ (I20a 2754) ≤ 1501 ∧ 0 ≤ (I20a 2775) ∧ (I20a 2775) ≤ 24) ∧ ((I20a 3393) = (I20a 3905) ∧ (I20a 3521) = (I20a 3905) ∧ (I20a 3649) = (I20a 3905) ∧ (I20a 3777) = (I20a 3905) ∧ 0 ≤ (I20a 3905) ∧ (I20a 3905) ≤ 3 * (I20a 2774)) ∧ ((I20a 4161) = (I20a 4033) ∧ 7 ≤ (I20a 4289) ∧ (I20a 4289) ≤ (I20a 4033) ∧ (I20a 4033) ≤ 7 + (I20a 2774)) ∧ 0 ≤ (I20a 5889) ∧ (I20a 5889) ≤ (I20a 2774)) ∧ ((I20a 2754) = (I 2754) ∧ ((I 2774) + 1) + 0 ≤ (I20a 2774) ∧ (I20a 2775) = (I 2775) + 1 ∧ (I 4289) ≤ (I20a 4289) ∧ (I20a 5889) = (I 5889)) ∧ ((I20a 3905) + 0 ≤ (I 3905) + 3 * ((I20a 2774) - ((I 2774) + 1)) ∧ (I 3905) ≤ (I20a 3905) ∧ -1 ≤ v21 ∧ v21 < (I20a 3905) ∧ (I 4033) ≤ (I20a 4033) ∧ (I20a 4033) ≤ (I 4033) + ((I20a 2774) - ((I 2774) + 1))) := f27
        replace f28 : m_SC I20a A20a := f28
        replace f29 : m_TR lo22 I20a A20a := f29
        replace f30 : m_ST lo (w_up (w_up I 2775 ((I 2775) + 1)) 2774 ((I 2774) + 1)) A lo22 I20a A20a := f30
        replace f31 : v21 = -1 ∨ m_kd lo22 I20a A20a (I 3905) v21 (fun k => k = 28) := f31
        replace f32 : v21 = -1 ∨ m_rt lo22 (I20a 3905) v21 := f32
        have tk35 : m_TK I20a A20a := m_TK_fx f26 hTK
        have s36 : m_ST lo I A lo22 I20a A20a := f30
        show w_W _ _ _ (34, [(2, .int (Int32.ofInt ((I 4289)))), (0, .ref 43), (1, .int (Int32.ofInt (vl)))], [.int (Int32.ofInt (v21))], M19) _
        refine w_adv (n := 3) (F' := (37, [(3, .int (Int32.ofInt (v21))), (2, .int (Int32.ofInt ((I 4289)))), (0, .ref 43), (1, .int (Int32.ofInt (vl)))], [.int (Int32.ofInt (2)), .ref 43], M19)) rfl ?_
        refine w_call (cm := 241) (as := [(0, .ref 43), (1, .int (Int32.ofInt (2)))]) (rest := []) (o := some (9, 43)) rfl (w_fitR hR20a rfl) (m_needWord (2) hR20a (show 2 ≤ d by omega) ⟨by omega, by omega⟩ (show 0 ≤ (I20a 2774) ∧ (I20a 2774) < 1501 by omega)) (fun r37 M38 q39 => ?_)
        rcases q39 with ⟨e40, hR39a, f41⟩ | ⟨I39b, A39b, B39b, C39b, e42, hR39b, f43⟩
        · rw [e40]
          replace hR39a : w_Rep w_TM fr X u l (w_up I20a 2774 ((I20a 2774) + 1)) A20a B20a C20a M38 := hR39a
          replace f41 : (A20a 45) ((I20a 2774)) = 5 ∧ (A20a 46) ((I20a 2774)) = 2 := f41
          have w44 : (I20a 2774) + 1 < (I20a 2754) := m_TK_lt tk35 (show (I20a 2774) < (I20a 2754) by omega) (show 1 ≤ (A20a 45) ((I20a 2774)) by omega) (show (A20a 45) ((I20a 2774)) ≤ 6 by omega)
          show w_W _ _ _ (40, [(3, .int (Int32.ofInt (v21))), (2, .int (Int32.ofInt ((I 4289)))), (0, .ref 43), (1, .int (Int32.ofInt (vl)))], [], M38) _
          refine w_adv (n := 2) (F' := (42, [(3, .int (Int32.ofInt (v21))), (2, .int (Int32.ofInt ((I 4289)))), (0, .ref 43), (1, .int (Int32.ofInt (vl)))], [.int (Int32.ofInt (vl)), .ref 43], M38)) rfl ?_
          refine w_call (cm := 242) (as := [(0, .ref 43), (1, .int (Int32.ofInt (vl)))]) (rest := []) (o := some (9, 43)) rfl (w_fitR hR39a rfl) (m_bodyOr hA (vl) (lo22) hR39a (show 20 * (24 - (I20a 2775)) + 21 ≤ (d : Int) by omega) ⟨by omega, by omega⟩ (show m_TK (w_up I20a 2774 ((I20a 2774) + 1)) A20a by exact tk35) (show (0 ≤ (I20a 2774) + 1 ∧ (I20a 2774) + 1 < (I20a 2754) ∧ (I20a 2754) ≤ 1501 ∧ 0 ≤ (I20a 2775) ∧ (I20a 2775) ≤ 24) ∧ ((I20a 3393) = (I20a 3905) ∧ (I20a 3521) = (I20a 3905) ∧ (I20a 3649) = (I20a 3905) ∧ (I20a 3777) = (I20a 3905) ∧ 0 ≤ (I20a 3905) ∧ (I20a 3905) ≤ 3 * ((I20a 2774) + 1)) ∧ ((I20a 4161) = (I20a 4033) ∧ 7 ≤ (I20a 4289) ∧ (I20a 4289) ≤ (I20a 4033) ∧ (I20a 4033) ≤ 7 + ((I20a 2774) + 1)) ∧ 0 ≤ (I20a 5889) ∧ (I20a 5889) ≤ (I20a 2774) + 1 by (repeat' apply And.intro) <;> omega) (show m_SC (w_up I20a 2774 ((I20a 2774) + 1)) A20a by exact f28) (show m_TR lo22 (w_up I20a 2774 ((I20a 2774) + 1)) A20a by exact f29) (show (I20a 2754) - ((I20a 2774) + 1) < N by first | assumption | omega)) (fun r45 M46 q47 => ?_)
          rcases q47 with ⟨v48, lo49, I47a, A47a, B47a, C47a, e50, ⟨r51, r52⟩, hR47a, f53, f54, f55, f56, f57, f58, f59⟩ | ⟨I47b, A47b, B47b, C47b, e60, hR47b, f61⟩
          · rw [e50]
            replace hR47a : w_Rep w_TM fr X u l I47a A47a B47a C47a M46 := hR47a
            replace f53 : m_fx (w_up I20a 2774 ((I20a 2774) + 1)) A20a I47a A47a := f53
            replace f54 : ((0 ≤ (I47a 2774) ∧ (I47a 2774) < (I47a 2754) ∧ (I47a 2754) ≤ 1501 ∧ 0 ≤ (I47a 2775) ∧ (I47a 2775) ≤ 24) ∧ ((I47a 3393) = (I47a 3905) ∧ (I47a 3521) = (I47a 3905) ∧ (I47a 3649) = (I47a 3905) ∧ (I47a 3777) = (I47a 3905) ∧ 0 ≤ (I47a 3905) ∧ (I47a 3905) ≤ 3 * (I47a 2774)) ∧ ((I47a 4161) = (I47a 4033) ∧ 7 ≤ (I47a 4289) ∧ (I47a 4289) ≤ (I47a 4033) ∧ (I47a 4033) ≤ 7 + (I47a 2774)) ∧ 0 ≤ (I47a 5889) ∧ (I47a 5889) ≤ (I47a 2774)) ∧ ((I47a 2754) = (I20a 2754) ∧ ((I20a 2774) + 1) + 1 ≤ (I47a 2774) ∧ (I47a 2775) = (I20a 2775) ∧ (I47a 4289) = (I20a 4289) + 0 ∧ (I47a 5889) = (I20a 5889)) ∧ ((I47a 3905) + 1 ≤ (I20a 3905) + 3 * ((I47a 2774) - ((I20a 2774) + 1)) ∧ (I20a 3905) ≤ v48 ∧ v48 + 1 = (I47a 3905) ∧ (I20a 4033) ≤ (I47a 4033) ∧ (I47a 4033) ≤ (I20a 4033) + ((I47a 2774) - ((I20a 2774) + 1))) := f54
            replace f55 : m_SC I47a A47a := f55
            replace f56 : m_TR lo49 I47a A47a := f56
            replace f57 : m_ST lo22 (w_up I20a 2774 ((I20a 2774) + 1)) A20a lo49 I47a A47a := f57
            replace f58 : t_B ((A47a 53) (v48)) := f58
            replace f59 : m_rt lo49 (I47a 3905) v48 := f59
            have tk62 : m_TK I47a A47a := m_TK_fx f53 tk35
            have s63 : m_ST lo I A lo49 I47a A47a := m_ST_trans (show m_ST lo I A lo22 (w_up I20a 2774 ((I20a 2774) + 1)) A20a from s36) f57 (by omega) (by omega) (by omega) (by omega)
            have o64 := f31.imp_right (fun q => m_kd_ST f57 (by omega) q)
            have k65 : m_kd lo49 I47a A47a (I20a 3905) v48 t_B := m_kd_of f57 f56 (by omega) (by omega) (by omega) f58
            have j66 := k65.1
            show w_W _ _ _ (45, [(3, .int (Int32.ofInt (v21))), (2, .int (Int32.ofInt ((I 4289)))), (0, .ref 43), (1, .int (Int32.ofInt (vl)))], [.int (Int32.ofInt (v48))], M46) _
            refine w_adv (n := 3) (F' := (49, [(4, .int (Int32.ofInt (v48))), (3, .int (Int32.ofInt (v21))), (2, .int (Int32.ofInt ((I 4289)))), (0, .ref 43), (1, .int (Int32.ofInt (vl)))], [.int (Int32.ofInt (3)), .ref 43], M46)) rfl ?_
            refine w_call (cm := 244) (as := [(0, .ref 43), (1, .int (Int32.ofInt (3)))]) (rest := []) (o := some (9, 43)) rfl (w_fitR hR47a rfl) (m_closeWord (3) hR47a (show 3 ≤ d by omega) ⟨by omega, by omega⟩ (show 0 ≤ (I47a 2774) ∧ (I47a 2774) < 1501 by omega) (show 1 ≤ (I47a 2775) ∧ (I47a 2775) ≤ 24 by first | assumption | omega)) (fun r67 M68 q69 => ?_)
            rcases q69 with ⟨e70, hR69a, f71⟩ | ⟨I69b, A69b, B69b, C69b, e72, hR69b, f73⟩
            · rw [e70]
              replace hR69a : w_Rep w_TM fr X u l (w_up (w_up I47a 2774 ((I47a 2774) + 1)) 2775 ((I47a 2775) - 1)) A47a B47a C47a M68 := hR69a
              replace f71 : (A47a 45) ((I47a 2774)) = 5 ∧ (A47a 46) ((I47a 2774)) = 3 := f71
              have w74 : (I47a 2774) + 1 < (I47a 2754) := m_TK_lt tk62 (show (I47a 2774) < (I47a 2754) by omega) (show 1 ≤ (A47a 45) ((I47a 2774)) by omega) (show (A47a 45) ((I47a 2774)) ≤ 6 by omega)
              show w_W _ _ _ (52, [(4, .int (Int32.ofInt (v48))), (3, .int (Int32.ofInt (v21))), (2, .int (Int32.ofInt ((I 4289)))), (0, .ref 43), (1, .int (Int32.ofInt (vl)))], [], M68) _
              refine w_adv (n := 1) (F' := (53, [(4, .int (Int32.ofInt (v48))), (3, .int (Int32.ofInt (v21))), (2, .int (Int32.ofInt ((I 4289)))), (0, .ref 43), (1, .int (Int32.ofInt (vl)))], [.ref 43], M68)) rfl ?_
              refine w_gf (v := .ref 67) hR69a rfl rfl rfl rfl ?_
              refine w_adv (n := 1) (F' := (57, [(4, .int (Int32.ofInt (v48))), (3, .int (Int32.ofInt (v21))), (2, .int (Int32.ofInt ((I 4289)))), (0, .ref 43), (1, .int (Int32.ofInt (vl)))], [.int (Int32.ofInt ((I 4289))), .ref 67], M68)) rfl ?_
              refine w_pf hR69a rfl rfl rfl rfl (show w_in ((I 4289)) from ⟨by omega, by omega⟩) (fun _ _ => (show 0 ≤ (I 4289) ∧ (I 4289) ≤ (C47a 67 : Int) by omega)) (fun M75 hR76 => ?_)
              replace hR76 : w_Rep w_TM fr X u l (w_up (w_up (w_up I47a 2774 ((I47a 2774) + 1)) 2775 ((I47a 2775) - 1)) 4289 ((I 4289))) A47a B47a C47a M75 := hR76
              have sc77 : m_SC (w_up (w_up (w_up I47a 2774 ((I47a 2774) + 1)) 2775 ((I47a 2775) - 1)) 4289 ((I 4289))) A47a := m_SC_cut f55 (show (I 4289) ≤ (I47a 4289) by omega) rfl rfl
              refine w_adv (n := 5) (F' := (67, [(4, .int (Int32.ofInt (v48))), (3, .int (Int32.ofInt (v21))), (2, .int (Int32.ofInt ((I 4289)))), (0, .ref 43), (1, .int (Int32.ofInt (vl)))], [.int (Int32.ofInt (0)), .int (Int32.ofInt (v48)), .int (Int32.ofInt (v21)), .int (Int32.ofInt (14)), .ref 43], M75)) rfl ?_
              refine w_call (cm := 239) (as := [(0, .ref 43), (1, .int (Int32.ofInt (14))), (2, .int (Int32.ofInt (v21))), (3, .int (Int32.ofInt (v48))), (4, .int (Int32.ofInt (0)))]) (rest := []) (o := some (9, 43)) rfl (w_fitR hR76 rfl) (m_node (14) (v21) (v48) (0) hR76 (show 2 ≤ d by omega) ⟨by omega, by omega⟩ ⟨by omega, by omega⟩ ⟨by omega, by omega⟩ ⟨by omega, by omega⟩ (show (I47a 3393) = (I47a 3905) by first | assumption | omega) (show (I47a 3521) = (I47a 3905) by first | assumption | omega) (show (I47a 3649) = (I47a 3905) by first | assumption | omega) (show (I47a 3777) = (I47a 3905) by first | assumption | omega) (show (I47a 3905) < 65536 by first | assumption | omega)) (fun r78 M79 q80 => ?_)
              rcases q80 with ⟨v81, I80a, A80a, B80a, C80a, e82, ⟨r83, r84⟩, hR80a, f85, f86⟩
              rw [e82]
              replace hR80a : w_Rep w_TM fr X u l I80a A80a B80a C80a M79 := hR80a
              replace f85 : m_fx (w_up (w_up (w_up I47a 2774 ((I47a 2774) + 1)) 2775 ((I47a 2775) - 1)) 4289 ((I 4289))) A47a I80a A80a := f85
              replace f86 : m_nd (w_up (w_up (w_up I47a 2774 ((I47a 2774) + 1)) 2775 ((I47a 2775) - 1)) 4289 ((I 4289))) A47a I80a A80a v81 14 v21 v48 0 := f86
              have j87 : (v81 = (I47a 3905) ∧ (I80a 3905) = (I47a 3905) + 1 ∧ (I80a 3393) = (I47a 3393) + 1 ∧ (I80a 3521) = (I47a 3521) + 1 ∧ (I80a 3649) = (I47a 3649) + 1 ∧ (I80a 3777) = (I47a 3777) + 1) ∧ ((I80a 2774) = (I47a 2774) + 1 ∧ (I80a 2754) = (I47a 2754) ∧ (I80a 2775) = (I47a 2775) - 1 ∧ (I80a 4289) = (I 4289) ∧ (I80a 4033) = (I47a 4033) ∧ (I80a 4161) = (I47a 4161) ∧ (I80a 5889) = (I47a 5889)) := m_nd_num f86
              have tk88 : m_TK I80a A80a := m_TK_fx f85 tk62
              have sc89 := m_SC_nd f86 sc77
              have tr90 : m_TR (t_up lo49 v81 (I 3905)) I80a A80a := m_TR_nd (show m_TR lo49 (w_up (w_up (w_up I47a 2774 ((I47a 2774) + 1)) 2775 ((I47a 2775) - 1)) 4289 ((I 4289))) A47a from f56) f86 (by omega) (by omega) (m_cl_ST (show m_ST lo I A lo49 (w_up (w_up (w_up I47a 2774 ((I47a 2774) + 1)) 2775 ((I47a 2775) - 1)) 4289 ((I 4289))) A47a from s63) hTR (by omega)) (t_N_mk14 t_up_same (by omega) (by omega) ⟨(o64.imp_right (fun q => m_ch f86 (by omega) q)), m_ch f86 (by omega) k65, (o64.imp_right (fun q => m_od f86 k65 (by have := q.1; omega))), (by omega)⟩)
              have s91 := m_ST_nd (l := (I 3905)) (show m_ST lo I A lo49 (w_up (w_up (w_up I47a 2774 ((I47a 2774) + 1)) 2775 ((I47a 2775) - 1)) 4289 ((I 4289))) A47a from s63) f86 (show (I 3905) ≤ (I 3905) by omega) (show (I 3905) ≤ (I47a 3905) by omega)
              have k92 : m_kd (t_up lo49 v81 (I 3905)) I80a A80a (I 3905) v81 (fun k => k = 14) := m_kd_new f86 (by omega) (by omega) rfl
              have j93 := k92.1
              have rt94 : m_rt (t_up lo49 v81 (I 3905)) (I80a 3905) v81 := m_rt_new f86
              show w_W _ _ _ (70, [(4, .int (Int32.ofInt (v48))), (3, .int (Int32.ofInt (v21))), (2, .int (Int32.ofInt ((I 4289)))), (0, .ref 43), (1, .int (Int32.ofInt (vl)))], [.int (Int32.ofInt (v81))], M79) _
              refine w_fin (r := .inl (some (v81))) (M' := M79) rfl ?_
              exact Or.inl ⟨v81, (t_up lo49 v81 (I 3905)), I80a, A80a, B80a, C80a, rfl, ⟨by omega, by omega⟩, hR80a, (show m_fx I A I80a A80a by exact (m_fx_trans (m_fx_trans f26 f53) f85)), (show ((0 ≤ (I80a 2774) ∧ (I80a 2774) < (I80a 2754) ∧ (I80a 2754) ≤ 1501 ∧ 0 ≤ (I80a 2775) ∧ (I80a 2775) ≤ 24) ∧ ((I80a 3393) = (I80a 3905) ∧ (I80a 3521) = (I80a 3905) ∧ (I80a 3649) = (I80a 3905) ∧ (I80a 3777) = (I80a 3905) ∧ 0 ≤ (I80a 3905) ∧ (I80a 3905) ≤ 3 * (I80a 2774)) ∧ ((I80a 4161) = (I80a 4033) ∧ 7 ≤ (I80a 4289) ∧ (I80a 4289) ≤ (I80a 4033) ∧ (I80a 4033) ≤ 7 + (I80a 2774)) ∧ 0 ≤ (I80a 5889) ∧ (I80a 5889) ≤ (I80a 2774)) ∧ ((I80a 2754) = (I 2754) ∧ (I 2774) + 1 ≤ (I80a 2774) ∧ (I80a 2775) = (I 2775) ∧ (I80a 4289) = (I 4289) + 0 ∧ (I80a 5889) = (I 5889)) ∧ ((I80a 3905) + 2 ≤ (I 3905) + 3 * ((I80a 2774) - (I 2774)) ∧ (I 3905) ≤ v81 ∧ v81 + 1 = (I80a 3905) ∧ (I 4033) ≤ (I80a 4033) ∧ (I80a 4033) ≤ (I 4033) + ((I80a 2774) - (I 2774))) by (repeat' apply And.intro) <;> omega), (show m_SC I80a A80a by exact sc89), (show m_TR (t_up lo49 v81 (I 3905)) I80a A80a by exact tr90), (show m_ST lo I A (t_up lo49 v81 (I 3905)) I80a A80a by exact s91), (show (fun k => k = 14) ((A80a 53) (v81)) by exact (k92).2), (show m_rt (t_up lo49 v81 (I 3905)) (I80a 3905) v81 by exact rt94)⟩
            · rw [e72]
              replace hR69b : w_Rep w_TM fr X u l I69b A69b B69b C69b M68 := hR69b
              replace f73 : m_fx I47a A47a I69b A69b := f73
              exact Or.inr (⟨I69b, A69b, B69b, C69b, rfl, hR69b, (show m_fx I A I69b A69b by exact (m_fx_trans (m_fx_trans f26 f53) f73))⟩)
          · rw [e60]
            replace hR47b : w_Rep w_TM fr X u l I47b A47b B47b C47b M46 := hR47b
            replace f61 : m_fx (w_up I20a 2774 ((I20a 2774) + 1)) A20a I47b A47b := f61
            exact Or.inr (⟨I47b, A47b, B47b, C47b, rfl, hR47b, (show m_fx I A I47b A47b by exact (m_fx_trans f26 f61))⟩)
        · rw [e42]
          replace hR39b : w_Rep w_TM fr X u l I39b A39b B39b C39b M38 := hR39b
          replace f43 : m_fx I20a A20a I39b A39b := f43
          exact Or.inr (⟨I39b, A39b, B39b, C39b, rfl, hR39b, (show m_fx I A I39b A39b by exact (m_fx_trans f26 f43))⟩)
      · rw [e33]
        replace hR20b : w_Rep w_TM fr X u l I20b A20b B20b C20b M19 := hR20b
        replace f34 : m_fx (w_up (w_up I 2775 ((I 2775) + 1)) 2774 ((I 2774) + 1)) A I20b A20b := f34
        exact Or.inr (⟨I20b, A20b, B20b, C20b, rfl, hR20b, (show m_fx I A I20b A20b by exact f34)⟩)
    · have h16 : ¬ ((A 45) ((I 2774) + 1) = 2) := h16
      show w_W _ _ _ (25, [(2, .int (Int32.ofInt ((I 4289)))), (0, .ref 43), (1, .int (Int32.ofInt (vl)))], [], M5) _
      refine w_adv (n := 2) (F' := (27, [(2, .int (Int32.ofInt ((I 4289)))), (0, .ref 43), (1, .int (Int32.ofInt (vl)))], [.int (Int32.ofInt (1)), .ref 43], M5)) rfl ?_
      refine w_call (cm := 232) (as := [(0, .ref 43), (1, .int (Int32.ofInt (1)))]) (rest := []) (o := some (9, 43)) rfl (w_fitR hR6a rfl) (m_fail (1) hR6a ⟨by omega, by omega⟩ (show 0 ≤ (I 2774) + 1 ∧ (I 2774) + 1 < 1501 by omega) (show 1 ≤ 1 ∧ 1 ≤ 7 by first | assumption | omega)) (fun r95 M96 q97 => ?_)
      rcases q97 with ⟨I97a, A97a, B97a, C97a, e98, hR97a, f99⟩
      rw [e98]
      replace hR97a : w_Rep w_TM fr X u l I97a A97a B97a C97a M96 := hR97a
      replace f99 : m_fx (w_up (w_up I 2775 ((I 2775) + 1)) 2774 ((I 2774) + 1)) A I97a A97a := f99
      exact Or.inr (⟨I97a, A97a, B97a, C97a, rfl, hR97a, (show m_fx I A I97a A97a by exact f99)⟩)
  · rw [e9]
    replace hR6b : w_Rep w_TM fr X u l I6b A6b B6b C6b M5 := hR6b
    replace f10 : m_fx I A I6b A6b := f10
    exact Or.inr (⟨I6b, A6b, B6b, C6b, rfl, hR6b, (show m_fx I A I6b A6b by exact f10)⟩)
def m_choice_Q (fr : Nat → Bool) (X : Nat → Option (q_C (Nat → Int32))) (u l : Nat) (I : Nat → Int) (A : Nat → Int → Int) (B C : Nat → Nat) (M : w_M) (vl : Int) (lo : Int → Int) : w_X → w_M → Prop := fun r M' => (∃ v : Int, ∃ lo' : Int → Int, ∃ (I' : Nat → Int) (A' : Nat → Int → Int) (B' C' : Nat → Nat), (r = .inl (some v)) ∧ (w_in v) ∧ (w_Rep w_TM fr X u l I' A' B' C' M') ∧ (m_fx I A I' A') ∧ (((0 ≤ (I' 2774) ∧ (I' 2774) < (I' 2754) ∧ (I' 2754) ≤ 1501 ∧ 0 ≤ (I' 2775) ∧ (I' 2775) ≤ 24) ∧ ((I' 3393) = (I' 3905) ∧ (I' 3521) = (I' 3905) ∧ (I' 3649) = (I' 3905) ∧ (I' 3777) = (I' 3905) ∧ 0 ≤ (I' 3905) ∧ (I' 3905) ≤ 3 * (I' 2774)) ∧ ((I' 4161) = (I' 4033) ∧ 7 ≤ (I' 4289) ∧ (I' 4289) ≤ (I' 4033) ∧ (I' 4033) ≤ 7 + (I' 2774)) ∧ 0 ≤ (I' 5889) ∧ (I' 5889) ≤ (I' 2774)) ∧ ((I' 2754) = (I 2754) ∧ (I 2774) + 1 ≤ (I' 2774) ∧ (I' 2775) = (I 2775) ∧ (I' 4289) = (I 4289) + 0 ∧ (I' 5889) = (I 5889)) ∧ ((I' 3905) + 2 ≤ (I 3905) + 3 * ((I' 2774) - (I 2774)) ∧ (I 3905) ≤ v ∧ v + 1 = (I' 3905) ∧ (I 4033) ≤ (I' 4033) ∧ (I' 4033) ≤ (I 4033) + ((I' 2774) - (I 2774)))) ∧ (m_SC I' A') ∧ (m_TR lo' I' A') ∧ (m_ST lo I A lo' I' A') ∧ ((fun k => k = 15) ((A' 53) (v))) ∧ (m_rt lo' (I' 3905) v)) ∨ (∃ (I' : Nat → Int) (A' : Nat → Int → Int) (B' C' : Nat → Nat), (r = .inr 69) ∧ (w_Rep w_TM fr X u l I' A' B' C' M') ∧ (m_fx I A I' A'))
set_option maxRecDepth 100000 in
theorem m_choice {L : Nat} {xs : Nat → Int32} {d : Nat} {fr : Nat → Bool} {X : Nat → Option (q_C (Nat → Int32))} {u l : Nat} {I : Nat → Int} {A : Nat → Int → Int} {B C : Nat → Nat} {M : w_M} {N : Int} (hA : m_all L xs N) (vl : Int) (lo : Int → Int) (hR : w_Rep w_TM fr X u l I A B C M) (hd : 20 * (24 - (I 2775)) + 11 ≤ (d : Int)) (r_vl : w_in vl) (hTK : m_TK I A) (hNU : (0 ≤ (I 2774) ∧ (I 2774) < (I 2754) ∧ (I 2754) ≤ 1501 ∧ 0 ≤ (I 2775) ∧ (I 2775) ≤ 24) ∧ ((I 3393) = (I 3905) ∧ (I 3521) = (I 3905) ∧ (I 3649) = (I 3905) ∧ (I 3777) = (I 3905) ∧ 0 ≤ (I 3905) ∧ (I 3905) ≤ 3 * (I 2774)) ∧ ((I 4161) = (I 4033) ∧ 7 ≤ (I 4289) ∧ (I 4289) ≤ (I 4033) ∧ (I 4033) ≤ 7 + (I 2774)) ∧ 0 ≤ (I 5889) ∧ (I 5889) ≤ (I 2774)) (hSC : m_SC I A) (hTR : m_TR lo I A) (hk : 1 ≤ (A 45) ((I 2774)) ∧ (A 45) ((I 2774)) ≤ 6) (hm : (I 2754) - (I 2774) ≤ N) : w_W (z_P L xs) d 268 (0, [(0, .ref 43), (1, .int (Int32.ofInt (vl)))], [], M) (m_choice_Q fr X u l I A B C M vl lo) := by
  obtain ⟨ra_vl, rb_vl⟩ := r_vl
  obtain ⟨d, rfl⟩ : ∃ d0, d = d0 + 1 := ⟨d - 1, by omega⟩
  have wl : (I 2774) + 1 < (I 2754) := m_TK_lt hTK (by omega) (by omega) (by omega)
  refine w_adv (n := 1) (F' := (1, [(0, .ref 43), (1, .int (Int32.ofInt (vl)))], [.ref 43], M)) rfl ?_
  refine w_call (cm := 235) (as := [(0, .ref 43)]) (rest := []) (o := some (9, 43)) rfl (w_fitR hR rfl) (m_enter hR (show 2 ≤ d by omega) (show 0 ≤ (I 2774) ∧ (I 2774) < 1501 by omega) (show 0 ≤ (I 2775) ∧ (I 2775) ≤ 24 by first | assumption | omega)) (fun r1 M2 q3 => ?_)
  rcases q3 with ⟨e4, hR3a, f5⟩ | ⟨I3b, A3b, B3b, C3b, e6, hR3b, f7⟩
  · rw [e4]
    replace hR3a : w_Rep w_TM fr X u l (w_up (w_up I 2775 ((I 2775) + 1)) 2774 ((I 2774) + 1)) A B C M2 := hR3a
    replace f5 : (I 2775) < 24 := f5
    have w8 : (I 2774) + 1 < (I 2754) := m_TK_lt hTK (show (I 2774) < (I 2754) by omega) (show 1 ≤ (A 45) ((I 2774)) by omega) (show (A 45) ((I 2774)) ≤ 6 by omega)
    show w_W _ _ _ (4, [(0, .ref 43), (1, .int (Int32.ofInt (vl)))], [], M2) _
    refine w_adv (n := 1) (F' := (5, [(0, .ref 43), (1, .int (Int32.ofInt (vl)))], [.ref 43], M2)) rfl ?_
    refine w_call (cm := 245) (as := [(0, .ref 43)]) (rest := []) (o := some (9, 43)) rfl (w_fitR hR3a rfl) (hA.1 (lo) hR3a (show 20 * (24 - ((I 2775) + 1)) + 17 ≤ (d : Int) by omega) (show m_TK (w_up (w_up I 2775 ((I 2775) + 1)) 2774 ((I 2774) + 1)) A by exact hTK) (show (0 ≤ (I 2774) + 1 ∧ (I 2774) + 1 < (I 2754) ∧ (I 2754) ≤ 1501 ∧ 0 ≤ (I 2775) + 1 ∧ (I 2775) + 1 ≤ 24) ∧ ((I 3393) = (I 3905) ∧ (I 3521) = (I 3905) ∧ (I 3649) = (I 3905) ∧ (I 3777) = (I 3905) ∧ 0 ≤ (I 3905) ∧ (I 3905) ≤ 3 * ((I 2774) + 1)) ∧ ((I 4161) = (I 4033) ∧ 7 ≤ (I 4289) ∧ (I 4289) ≤ (I 4033) ∧ (I 4033) ≤ 7 + ((I 2774) + 1)) ∧ 0 ≤ (I 5889) ∧ (I 5889) ≤ (I 2774) + 1 by (repeat' apply And.intro) <;> omega) (show m_SC (w_up (w_up I 2775 ((I 2775) + 1)) 2774 ((I 2774) + 1)) A by exact hSC) (show m_TR lo (w_up (w_up I 2775 ((I 2775) + 1)) 2774 ((I 2774) + 1)) A by exact hTR) (show (I 2754) - ((I 2774) + 1) < N by first | assumption | omega)) (fun r9 M10 q11 => ?_)
    rcases q11 with ⟨v12, lo13, I11a, A11a, B11a, C11a, e14, ⟨r15, r16⟩, hR11a, f17, f18, f19, f20, f21, f22, f23⟩ | ⟨I11b, A11b, B11b, C11b, e24, hR11b, f25⟩
    · rw [e14]
      replace hR11a : w_Rep w_TM fr X u l I11a A11a B11a C11a M10 := hR11a
      replace f17 : m_fx (w_up (w_up I 2775 ((I 2775) + 1)) 2774 ((I 2774) + 1)) A I11a A11a := f17
      replace f18 : ((0 ≤ (I11a 2774) ∧ (I11a 2774) < (I11a 2754) ∧ (I11a 2754) ≤ 1501 ∧ 0 ≤ (I11a 2775) ∧ (I11a 2775) ≤ 24) ∧ ((I11a 3393) = (I11a 3905) ∧ (I11a 3521) = (I11a 3905) ∧ (I11a 3649) = (I11a 3905) ∧ (I11a 3777) = (I11a 3905) ∧ 0 ≤ (I11a 3905) ∧ (I11a 3905) ≤ 3 * (I11a 2774)) ∧ ((I11a 4161) = (I11a 4033) ∧ 7 ≤ (I11a 4289) ∧ (I11a 4289) ≤ (I11a 4033) ∧ (I11a 4033) ≤ 7 + (I11a 2774)) ∧ 0 ≤ (I11a 5889) ∧ (I11a 5889) ≤ (I11a 2774)) ∧ ((I11a 2754) = (I 2754) ∧ ((I 2774) + 1) + 1 ≤ (I11a 2774) ∧ (I11a 2775) = (I 2775) + 1 ∧ (I11a 4289) = (I 4289) + 0 ∧ (I11a 5889) = (I 5889)) ∧ ((I11a 3905) + 2 ≤ (I 3905) + 3 * ((I11a 2774) - ((I 2774) + 1)) ∧ (I 3905) ≤ v12 ∧ v12 + 1 = (I11a 3905) ∧ (I 4033) ≤ (I11a 4033) ∧ (I11a 4033) ≤ (I 4033) + ((I11a 2774) - ((I 2774) + 1))) := f18
      replace f19 : m_SC I11a A11a := f19
      replace f20 : m_TR lo13 I11a A11a := f20
      replace f21 : m_ST lo (w_up (w_up I 2775 ((I 2775) + 1)) 2774 ((I 2774) + 1)) A lo13 I11a A11a := f21
      replace f22 : t_E ((A11a 53) (v12)) := f22
      replace f23 : m_rt lo13 (I11a 3905) v12 := f23
      have tk26 : m_TK I11a A11a := m_TK_fx f17 hTK
      have s27 : m_ST lo I A lo13 I11a A11a := f21
      have k28 : m_kd lo13 I11a A11a (I 3905) v12 t_E := m_kd_of f21 f20 (by omega) (by omega) (by omega) f22
      have j29 := k28.1
      show w_W _ _ _ (8, [(0, .ref 43), (1, .int (Int32.ofInt (vl)))], [.int (Int32.ofInt (v12))], M10) _
      refine w_adv (n := 3) (F' := (11, [(2, .int (Int32.ofInt (v12))), (0, .ref 43), (1, .int (Int32.ofInt (vl)))], [.int (Int32.ofInt (5)), .ref 43], M10)) rfl ?_
      refine w_call (cm := 241) (as := [(0, .ref 43), (1, .int (Int32.ofInt (5)))]) (rest := []) (o := some (9, 43)) rfl (w_fitR hR11a rfl) (m_needWord (5) hR11a (show 2 ≤ d by omega) ⟨by omega, by omega⟩ (show 0 ≤ (I11a 2774) ∧ (I11a 2774) < 1501 by omega)) (fun r30 M31 q32 => ?_)
      rcases q32 with ⟨e33, hR32a, f34⟩ | ⟨I32b, A32b, B32b, C32b, e35, hR32b, f36⟩
      · rw [e33]
        replace hR32a : w_Rep w_TM fr X u l (w_up I11a 2774 ((I11a 2774) + 1)) A11a B11a C11a M31 := hR32a
        replace f34 : (A11a 45) ((I11a 2774)) = 5 ∧ (A11a 46) ((I11a 2774)) = 5 := f34
        have w37 : (I11a 2774) + 1 < (I11a 2754) := m_TK_lt tk26 (show (I11a 2774) < (I11a 2754) by omega) (show 1 ≤ (A11a 45) ((I11a 2774)) by omega) (show (A11a 45) ((I11a 2774)) ≤ 6 by omega)
        show w_W _ _ _ (14, [(2, .int (Int32.ofInt (v12))), (0, .ref 43), (1, .int (Int32.ofInt (vl)))], [], M31) _
        refine w_adv (n := 2) (F' := (16, [(2, .int (Int32.ofInt (v12))), (0, .ref 43), (1, .int (Int32.ofInt (vl)))], [.int (Int32.ofInt (vl)), .ref 43], M31)) rfl ?_
        refine w_call (cm := 242) (as := [(0, .ref 43), (1, .int (Int32.ofInt (vl)))]) (rest := []) (o := some (9, 43)) rfl (w_fitR hR32a rfl) (m_bodyOr hA (vl) (lo13) hR32a (show 20 * (24 - (I11a 2775)) + 21 ≤ (d : Int) by omega) ⟨by omega, by omega⟩ (show m_TK (w_up I11a 2774 ((I11a 2774) + 1)) A11a by exact tk26) (show (0 ≤ (I11a 2774) + 1 ∧ (I11a 2774) + 1 < (I11a 2754) ∧ (I11a 2754) ≤ 1501 ∧ 0 ≤ (I11a 2775) ∧ (I11a 2775) ≤ 24) ∧ ((I11a 3393) = (I11a 3905) ∧ (I11a 3521) = (I11a 3905) ∧ (I11a 3649) = (I11a 3905) ∧ (I11a 3777) = (I11a 3905) ∧ 0 ≤ (I11a 3905) ∧ (I11a 3905) ≤ 3 * ((I11a 2774) + 1)) ∧ ((I11a 4161) = (I11a 4033) ∧ 7 ≤ (I11a 4289) ∧ (I11a 4289) ≤ (I11a 4033) ∧ (I11a 4033) ≤ 7 + ((I11a 2774) + 1)) ∧ 0 ≤ (I11a 5889) ∧ (I11a 5889) ≤ (I11a 2774) + 1 by (repeat' apply And.intro) <;> omega) (show m_SC (w_up I11a 2774 ((I11a 2774) + 1)) A11a by exact f19) (show m_TR lo13 (w_up I11a 2774 ((I11a 2774) + 1)) A11a by exact f20) (show (I11a 2754) - ((I11a 2774) + 1) < N by first | assumption | omega)) (fun r38 M39 q40 => ?_)
        rcases q40 with ⟨v41, lo42, I40a, A40a, B40a, C40a, e43, ⟨r44, r45⟩, hR40a, f46, f47, f48, f49, f50, f51, f52⟩ | ⟨I40b, A40b, B40b, C40b, e53, hR40b, f54⟩
        · rw [e43]
          replace hR40a : w_Rep w_TM fr X u l I40a A40a B40a C40a M39 := hR40a
          replace f46 : m_fx (w_up I11a 2774 ((I11a 2774) + 1)) A11a I40a A40a := f46
          replace f47 : ((0 ≤ (I40a 2774) ∧ (I40a 2774) < (I40a 2754) ∧ (I40a 2754) ≤ 1501 ∧ 0 ≤ (I40a 2775) ∧ (I40a 2775) ≤ 24) ∧ ((I40a 3393) = (I40a 3905) ∧ (I40a 3521) = (I40a 3905) ∧ (I40a 3649) = (I40a 3905) ∧ (I40a 3777) = (I40a 3905) ∧ 0 ≤ (I40a 3905) ∧ (I40a 3905) ≤ 3 * (I40a 2774)) ∧ ((I40a 4161) = (I40a 4033) ∧ 7 ≤ (I40a 4289) ∧ (I40a 4289) ≤ (I40a 4033) ∧ (I40a 4033) ≤ 7 + (I40a 2774)) ∧ 0 ≤ (I40a 5889) ∧ (I40a 5889) ≤ (I40a 2774)) ∧ ((I40a 2754) = (I11a 2754) ∧ ((I11a 2774) + 1) + 1 ≤ (I40a 2774) ∧ (I40a 2775) = (I11a 2775) ∧ (I40a 4289) = (I11a 4289) + 0 ∧ (I40a 5889) = (I11a 5889)) ∧ ((I40a 3905) + 1 ≤ (I11a 3905) + 3 * ((I40a 2774) - ((I11a 2774) + 1)) ∧ (I11a 3905) ≤ v41 ∧ v41 + 1 = (I40a 3905) ∧ (I11a 4033) ≤ (I40a 4033) ∧ (I40a 4033) ≤ (I11a 4033) + ((I40a 2774) - ((I11a 2774) + 1))) := f47
          replace f48 : m_SC I40a A40a := f48
          replace f49 : m_TR lo42 I40a A40a := f49
          replace f50 : m_ST lo13 (w_up I11a 2774 ((I11a 2774) + 1)) A11a lo42 I40a A40a := f50
          replace f51 : t_B ((A40a 53) (v41)) := f51
          replace f52 : m_rt lo42 (I40a 3905) v41 := f52
          have tk55 : m_TK I40a A40a := m_TK_fx f46 tk26
          have s56 : m_ST lo I A lo42 I40a A40a := m_ST_trans (show m_ST lo I A lo13 (w_up I11a 2774 ((I11a 2774) + 1)) A11a from s27) f50 (by omega) (by omega) (by omega) (by omega)
          have k57 := m_kd_ST f50 (by omega) k28
          have j58 := k57.1
          have rt59 := m_rt_ST f50 (by omega) (by omega) f23
          have k60 : m_kd lo42 I40a A40a (I11a 3905) v41 t_B := m_kd_of f50 f49 (by omega) (by omega) (by omega) f51
          have j61 := k60.1
          show w_W _ _ _ (19, [(2, .int (Int32.ofInt (v12))), (0, .ref 43), (1, .int (Int32.ofInt (vl)))], [.int (Int32.ofInt (v41))], M39) _
          refine w_adv (n := 4) (F' := (24, [(4, .int (Int32.ofInt ((-1)))), (3, .int (Int32.ofInt (v41))), (2, .int (Int32.ofInt (v12))), (0, .ref 43), (1, .int (Int32.ofInt (vl)))], [.int (Int32.ofInt (vl))], M39)) rfl ?_
          refine w_br1 (a := vl) rfl rfl ⟨by omega, by omega⟩ (fun h62 => ?_) (fun h62 => ?_)
          · have h62 : ¬ vl = 0 := h62
            show w_W _ _ _ (36, [(4, .int (Int32.ofInt ((-1)))), (3, .int (Int32.ofInt (v41))), (2, .int (Int32.ofInt (v12))), (0, .ref 43), (1, .int (Int32.ofInt (vl)))], [], M39) _
            refine w_adv (n := 2) (F' := (39, [(4, .int (Int32.ofInt ((-1)))), (3, .int (Int32.ofInt (v41))), (2, .int (Int32.ofInt (v12))), (0, .ref 43), (1, .int (Int32.ofInt (vl)))], [.int (Int32.ofInt (6)), .ref 43], M39)) rfl ?_
            refine w_call (cm := 241) (as := [(0, .ref 43), (1, .int (Int32.ofInt (6)))]) (rest := []) (o := some (9, 43)) rfl (w_fitR hR40a rfl) (m_needWord (6) hR40a (show 2 ≤ d by omega) ⟨by omega, by omega⟩ (show 0 ≤ (I40a 2774) ∧ (I40a 2774) < 1501 by omega)) (fun r63 M64 q65 => ?_)
            rcases q65 with ⟨e66, hR65a, f67⟩ | ⟨I65b, A65b, B65b, C65b, e68, hR65b, f69⟩
            · rw [e66]
              replace hR65a : w_Rep w_TM fr X u l (w_up I40a 2774 ((I40a 2774) + 1)) A40a B40a C40a M64 := hR65a
              replace f67 : (A40a 45) ((I40a 2774)) = 5 ∧ (A40a 46) ((I40a 2774)) = 6 := f67
              have w70 : (I40a 2774) + 1 < (I40a 2754) := m_TK_lt tk55 (show (I40a 2774) < (I40a 2754) by omega) (show 1 ≤ (A40a 45) ((I40a 2774)) by omega) (show (A40a 45) ((I40a 2774)) ≤ 6 by omega)
              show w_W _ _ _ (42, [(4, .int (Int32.ofInt ((-1)))), (3, .int (Int32.ofInt (v41))), (2, .int (Int32.ofInt (v12))), (0, .ref 43), (1, .int (Int32.ofInt (vl)))], [], M64) _
              refine w_adv (n := 2) (F' := (44, [(4, .int (Int32.ofInt ((-1)))), (3, .int (Int32.ofInt (v41))), (2, .int (Int32.ofInt (v12))), (0, .ref 43), (1, .int (Int32.ofInt (vl)))], [.int (Int32.ofInt (vl)), .ref 43], M64)) rfl ?_
              refine w_call (cm := 242) (as := [(0, .ref 43), (1, .int (Int32.ofInt (vl)))]) (rest := []) (o := some (9, 43)) rfl (w_fitR hR65a rfl) (m_bodyOr hA (vl) (lo42) hR65a (show 20 * (24 - (I40a 2775)) + 21 ≤ (d : Int) by omega) ⟨by omega, by omega⟩ (show m_TK (w_up I40a 2774 ((I40a 2774) + 1)) A40a by exact tk55) (show (0 ≤ (I40a 2774) + 1 ∧ (I40a 2774) + 1 < (I40a 2754) ∧ (I40a 2754) ≤ 1501 ∧ 0 ≤ (I40a 2775) ∧ (I40a 2775) ≤ 24) ∧ ((I40a 3393) = (I40a 3905) ∧ (I40a 3521) = (I40a 3905) ∧ (I40a 3649) = (I40a 3905) ∧ (I40a 3777) = (I40a 3905) ∧ 0 ≤ (I40a 3905) ∧ (I40a 3905) ≤ 3 * ((I40a 2774) + 1)) ∧ ((I40a 4161) = (I40a 4033) ∧ 7 ≤ (I40a 4289) ∧ (I40a 4289) ≤ (I40a 4033) ∧ (I40a 4033) ≤ 7 + ((I40a 2774) + 1)) ∧ 0 ≤ (I40a 5889) ∧ (I40a 5889) ≤ (I40a 2774) + 1 by (repeat' apply And.intro) <;> omega) (show m_SC (w_up I40a 2774 ((I40a 2774) + 1)) A40a by exact f48) (show m_TR lo42 (w_up I40a 2774 ((I40a 2774) + 1)) A40a by exact f49) (show (I40a 2754) - ((I40a 2774) + 1) < N by first | assumption | omega)) (fun r71 M72 q73 => ?_)
              rcases q73 with ⟨v74, lo75, I73a, A73a, B73a, C73a, e76, ⟨r77, r78⟩, hR73a, f79, f80, f81, f82, f83, f84, f85⟩ | ⟨I73b, A73b, B73b, C73b, e86, hR73b, f87⟩
              · rw [e76]
                replace hR73a : w_Rep w_TM fr X u l I73a A73a B73a C73a M72 := hR73a
                replace f79 : m_fx (w_up I40a 2774 ((I40a 2774) + 1)) A40a I73a A73a := f79
                replace f80 : ((0 ≤ (I73a 2774) ∧ (I73a 2774) < (I73a 2754) ∧ (I73a 2754) ≤ 1501 ∧ 0 ≤ (I73a 2775) ∧ (I73a 2775) ≤ 24) ∧ ((I73a 3393) = (I73a 3905) ∧ (I73a 3521) = (I73a 3905) ∧ (I73a 3649) = (I73a 3905) ∧ (I73a 3777) = (I73a 3905) ∧ 0 ≤ (I73a 3905) ∧ (I73a 3905) ≤ 3 * (I73a 2774)) ∧ ((I73a 4161) = (I73a 4033) ∧ 7 ≤ (I73a 4289) ∧ (I73a 4289) ≤ (I73a 4033) ∧ (I73a 4033) ≤ 7 + (I73a 2774)) ∧ 0 ≤ (I73a 5889) ∧ (I73a 5889) ≤ (I73a 2774)) ∧ ((I73a 2754) = (I40a 2754) ∧ ((I40a 2774) + 1) + 1 ≤ (I73a 2774) ∧ (I73a 2775) = (I40a 2775) ∧ (I73a 4289) = (I40a 4289) + 0 ∧ (I73a 5889) = (I40a 5889)) ∧ ((I73a 3905) + 1 ≤ (I40a 3905) + 3 * ((I73a 2774) - ((I40a 2774) + 1)) ∧ (I40a 3905) ≤ v74 ∧ v74 + 1 = (I73a 3905) ∧ (I40a 4033) ≤ (I73a 4033) ∧ (I73a 4033) ≤ (I40a 4033) + ((I73a 2774) - ((I40a 2774) + 1))) := f80
                replace f81 : m_SC I73a A73a := f81
                replace f82 : m_TR lo75 I73a A73a := f82
                replace f83 : m_ST lo42 (w_up I40a 2774 ((I40a 2774) + 1)) A40a lo75 I73a A73a := f83
                replace f84 : t_B ((A73a 53) (v74)) := f84
                replace f85 : m_rt lo75 (I73a 3905) v74 := f85
                have tk88 : m_TK I73a A73a := m_TK_fx f79 tk55
                have s89 : m_ST lo I A lo75 I73a A73a := m_ST_trans (show m_ST lo I A lo42 (w_up I40a 2774 ((I40a 2774) + 1)) A40a from s56) f83 (by omega) (by omega) (by omega) (by omega)
                have k90 := m_kd_ST f83 (by omega) k57
                have j91 := k90.1
                have rt92 := m_rt_ST f83 (by omega) (by omega) rt59
                have k93 := m_kd_ST f83 (by omega) k60
                have j94 := k93.1
                have rt95 := m_rt_ST f83 (by omega) (by omega) f52
                have k96 : m_kd lo75 I73a A73a (I40a 3905) v74 t_B := m_kd_of f83 f82 (by omega) (by omega) (by omega) f84
                have j97 := k96.1
                show w_W _ _ _ (47, [(4, .int (Int32.ofInt ((-1)))), (3, .int (Int32.ofInt (v41))), (2, .int (Int32.ofInt (v12))), (0, .ref 43), (1, .int (Int32.ofInt (vl)))], [.int (Int32.ofInt (v74))], M72) _
                refine w_adv (n := 3) (F' := (51, [(4, .int (Int32.ofInt (v74))), (3, .int (Int32.ofInt (v41))), (2, .int (Int32.ofInt (v12))), (0, .ref 43), (1, .int (Int32.ofInt (vl)))], [.int (Int32.ofInt (3)), .ref 43], M72)) rfl ?_
                refine w_call (cm := 244) (as := [(0, .ref 43), (1, .int (Int32.ofInt (3)))]) (rest := []) (o := some (9, 43)) rfl (w_fitR hR73a rfl) (m_closeWord (3) hR73a (show 3 ≤ d by omega) ⟨by omega, by omega⟩ (show 0 ≤ (I73a 2774) ∧ (I73a 2774) < 1501 by omega) (show 1 ≤ (I73a 2775) ∧ (I73a 2775) ≤ 24 by first | assumption | omega)) (fun r98 M99 q100 => ?_)
                rcases q100 with ⟨e101, hR100a, f102⟩ | ⟨I100b, A100b, B100b, C100b, e103, hR100b, f104⟩
                · rw [e101]
                  replace hR100a : w_Rep w_TM fr X u l (w_up (w_up I73a 2774 ((I73a 2774) + 1)) 2775 ((I73a 2775) - 1)) A73a B73a C73a M99 := hR100a
                  replace f102 : (A73a 45) ((I73a 2774)) = 5 ∧ (A73a 46) ((I73a 2774)) = 3 := f102
                  have w105 : (I73a 2774) + 1 < (I73a 2754) := m_TK_lt tk88 (show (I73a 2774) < (I73a 2754) by omega) (show 1 ≤ (A73a 45) ((I73a 2774)) by omega) (show (A73a 45) ((I73a 2774)) ≤ 6 by omega)
                  show w_W _ _ _ (54, [(4, .int (Int32.ofInt (v74))), (3, .int (Int32.ofInt (v41))), (2, .int (Int32.ofInt (v12))), (0, .ref 43), (1, .int (Int32.ofInt (vl)))], [], M99) _
                  refine w_adv (n := 5) (F' := (61, [(4, .int (Int32.ofInt (v74))), (3, .int (Int32.ofInt (v41))), (2, .int (Int32.ofInt (v12))), (0, .ref 43), (1, .int (Int32.ofInt (vl)))], [.int (Int32.ofInt (v74)), .int (Int32.ofInt (v41)), .int (Int32.ofInt (v12)), .int (Int32.ofInt (15)), .ref 43], M99)) rfl ?_
                  refine w_call (cm := 239) (as := [(0, .ref 43), (1, .int (Int32.ofInt (15))), (2, .int (Int32.ofInt (v12))), (3, .int (Int32.ofInt (v41))), (4, .int (Int32.ofInt (v74)))]) (rest := []) (o := some (9, 43)) rfl (w_fitR hR100a rfl) (m_node (15) (v12) (v41) (v74) hR100a (show 2 ≤ d by omega) ⟨by omega, by omega⟩ ⟨by omega, by omega⟩ ⟨by omega, by omega⟩ ⟨by omega, by omega⟩ (show (I73a 3393) = (I73a 3905) by first | assumption | omega) (show (I73a 3521) = (I73a 3905) by first | assumption | omega) (show (I73a 3649) = (I73a 3905) by first | assumption | omega) (show (I73a 3777) = (I73a 3905) by first | assumption | omega) (show (I73a 3905) < 65536 by first | assumption | omega)) (fun r106 M107 q108 => ?_)
                  rcases q108 with ⟨v109, I108a, A108a, B108a, C108a, e110, ⟨r111, r112⟩, hR108a, f113, f114⟩
                  rw [e110]
                  replace hR108a : w_Rep w_TM fr X u l I108a A108a B108a C108a M107 := hR108a
                  replace f113 : m_fx (w_up (w_up I73a 2774 ((I73a 2774) + 1)) 2775 ((I73a 2775) - 1)) A73a I108a A108a := f113
                  replace f114 : m_nd (w_up (w_up I73a 2774 ((I73a 2774) + 1)) 2775 ((I73a 2775) - 1)) A73a I108a A108a v109 15 v12 v41 v74 := f114
                  have j115 : (v109 = (I73a 3905) ∧ (I108a 3905) = (I73a 3905) + 1 ∧ (I108a 3393) = (I73a 3393) + 1 ∧ (I108a 3521) = (I73a 3521) + 1 ∧ (I108a 3649) = (I73a 3649) + 1 ∧ (I108a 3777) = (I73a 3777) + 1) ∧ ((I108a 2774) = (I73a 2774) + 1 ∧ (I108a 2754) = (I73a 2754) ∧ (I108a 2775) = (I73a 2775) - 1 ∧ (I108a 4289) = (I73a 4289) ∧ (I108a 4033) = (I73a 4033) ∧ (I108a 4161) = (I73a 4161) ∧ (I108a 5889) = (I73a 5889)) := m_nd_num f114
                  have tk116 : m_TK I108a A108a := m_TK_fx f113 tk88
                  have sc117 := m_SC_nd f114 f81
                  have tr118 : m_TR (t_up lo75 v109 (I 3905)) I108a A108a := m_TR_nd (show m_TR lo75 (w_up (w_up I73a 2774 ((I73a 2774) + 1)) 2775 ((I73a 2775) - 1)) A73a from f82) f114 (by omega) (by omega) (m_cl_ST (show m_ST lo I A lo75 (w_up (w_up I73a 2774 ((I73a 2774) + 1)) 2775 ((I73a 2775) - 1)) A73a from s89) hTR (by omega)) (t_N_mk15 t_up_same (by omega) (by omega) ⟨m_ch f114 (by omega) k90, m_ch f114 (by omega) k93, Or.inr (m_ch f114 (by omega) k96), m_od f114 k93 (by omega), Or.inr (m_od f114 k96 (by omega))⟩)
                  have s119 := m_ST_nd (l := (I 3905)) (show m_ST lo I A lo75 (w_up (w_up I73a 2774 ((I73a 2774) + 1)) 2775 ((I73a 2775) - 1)) A73a from s89) f114 (show (I 3905) ≤ (I 3905) by omega) (show (I 3905) ≤ (I73a 3905) by omega)
                  have k120 : m_kd (t_up lo75 v109 (I 3905)) I108a A108a (I 3905) v109 (fun k => k = 15) := m_kd_new f114 (by omega) (by omega) rfl
                  have j121 := k120.1
                  have rt122 : m_rt (t_up lo75 v109 (I 3905)) (I108a 3905) v109 := m_rt_new f114
                  show w_W _ _ _ (64, [(4, .int (Int32.ofInt (v74))), (3, .int (Int32.ofInt (v41))), (2, .int (Int32.ofInt (v12))), (0, .ref 43), (1, .int (Int32.ofInt (vl)))], [.int (Int32.ofInt (v109))], M107) _
                  refine w_fin (r := .inl (some (v109))) (M' := M107) rfl ?_
                  exact Or.inl ⟨v109, (t_up lo75 v109 (I 3905)), I108a, A108a, B108a, C108a, rfl, ⟨by omega, by omega⟩, hR108a, (show m_fx I A I108a A108a by exact (m_fx_trans (m_fx_trans (m_fx_trans f17 f46) f79) f113)), (show ((0 ≤ (I108a 2774) ∧ (I108a 2774) < (I108a 2754) ∧ (I108a 2754) ≤ 1501 ∧ 0 ≤ (I108a 2775) ∧ (I108a 2775) ≤ 24) ∧ ((I108a 3393) = (I108a 3905) ∧ (I108a 3521) = (I108a 3905) ∧ (I108a 3649) = (I108a 3905) ∧ (I108a 3777) = (I108a 3905) ∧ 0 ≤ (I108a 3905) ∧ (I108a 3905) ≤ 3 * (I108a 2774)) ∧ ((I108a 4161) = (I108a 4033) ∧ 7 ≤ (I108a 4289) ∧ (I108a 4289) ≤ (I108a 4033) ∧ (I108a 4033) ≤ 7 + (I108a 2774)) ∧ 0 ≤ (I108a 5889) ∧ (I108a 5889) ≤ (I108a 2774)) ∧ ((I108a 2754) = (I 2754) ∧ (I 2774) + 1 ≤ (I108a 2774) ∧ (I108a 2775) = (I 2775) ∧ (I108a 4289) = (I 4289) + 0 ∧ (I108a 5889) = (I 5889)) ∧ ((I108a 3905) + 2 ≤ (I 3905) + 3 * ((I108a 2774) - (I 2774)) ∧ (I 3905) ≤ v109 ∧ v109 + 1 = (I108a 3905) ∧ (I 4033) ≤ (I108a 4033) ∧ (I108a 4033) ≤ (I 4033) + ((I108a 2774) - (I 2774))) by (repeat' apply And.intro) <;> omega), (show m_SC I108a A108a by exact sc117), (show m_TR (t_up lo75 v109 (I 3905)) I108a A108a by exact tr118), (show m_ST lo I A (t_up lo75 v109 (I 3905)) I108a A108a by exact s119), (show (fun k => k = 15) ((A108a 53) (v109)) by exact (k120).2), (show m_rt (t_up lo75 v109 (I 3905)) (I108a 3905) v109 by exact rt122)⟩
                · rw [e103]
                  replace hR100b : w_Rep w_TM fr X u l I100b A100b B100b C100b M99 := hR100b
                  replace f104 : m_fx I73a A73a I100b A100b := f104
                  exact Or.inr (⟨I100b, A100b, B100b, C100b, rfl, hR100b, (show m_fx I A I100b A100b by exact (m_fx_trans (m_fx_trans (m_fx_trans f17 f46) f79) f104))⟩)
              · rw [e86]
                replace hR73b : w_Rep w_TM fr X u l I73b A73b B73b C73b M72 := hR73b
                replace f87 : m_fx (w_up I40a 2774 ((I40a 2774) + 1)) A40a I73b A73b := f87
                exact Or.inr (⟨I73b, A73b, B73b, C73b, rfl, hR73b, (show m_fx I A I73b A73b by exact (m_fx_trans (m_fx_trans f17 f46) f87))⟩)
            · rw [e68]
              replace hR65b : w_Rep w_TM fr X u l I65b A65b B65b C65b M64 := hR65b
              replace f69 : m_fx I40a A40a I65b A65b := f69
              exact Or.inr (⟨I65b, A65b, B65b, C65b, rfl, hR65b, (show m_fx I A I65b A65b by exact (m_fx_trans (m_fx_trans f17 f46) f69))⟩)
          · have h62 : ¬ (¬ vl = 0) := h62
            show w_W _ _ _ (27, [(4, .int (Int32.ofInt ((-1)))), (3, .int (Int32.ofInt (v41))), (2, .int (Int32.ofInt (v12))), (0, .ref 43), (1, .int (Int32.ofInt (vl)))], [], M39) _
            refine w_adv (n := 2) (F' := (30, [(4, .int (Int32.ofInt ((-1)))), (3, .int (Int32.ofInt (v41))), (2, .int (Int32.ofInt (v12))), (0, .ref 43), (1, .int (Int32.ofInt (vl)))], [.int (Int32.ofInt (6)), .ref 43], M39)) rfl ?_
            refine w_call (cm := 231) (as := [(0, .ref 43), (1, .int (Int32.ofInt (6)))]) (rest := []) (o := some (9, 43)) rfl (w_fitR hR40a rfl) (m_isWord (6) hR40a ⟨by omega, by omega⟩ (show 0 ≤ (I40a 2774) ∧ (I40a 2774) < 1501 by omega)) (fun r123 M124 q125 => ?_)
            rcases q125 with ⟨e126, e127, f128⟩ | ⟨e129, e130, f131⟩
            · rw [e126, e127]
              replace f128 : (A40a 45) ((I40a 2774)) = 5 ∧ (A40a 46) ((I40a 2774)) = 6 := f128
              have w132 : (I40a 2774) + 1 < (I40a 2754) := m_TK_lt tk55 (by omega) (by omega) (by omega)
              show w_W _ _ _ (33, [(4, .int (Int32.ofInt ((-1)))), (3, .int (Int32.ofInt (v41))), (2, .int (Int32.ofInt (v12))), (0, .ref 43), (1, .int (Int32.ofInt (vl)))], [.int (Int32.ofInt (1))], M39) _
              refine w_adv (n := 3) (F' := (39, [(4, .int (Int32.ofInt ((-1)))), (3, .int (Int32.ofInt (v41))), (2, .int (Int32.ofInt (v12))), (0, .ref 43), (1, .int (Int32.ofInt (vl)))], [.int (Int32.ofInt (6)), .ref 43], M39)) rfl ?_
              refine w_call (cm := 241) (as := [(0, .ref 43), (1, .int (Int32.ofInt (6)))]) (rest := []) (o := some (9, 43)) rfl (w_fitR hR40a rfl) (m_needWord (6) hR40a (show 2 ≤ d by omega) ⟨by omega, by omega⟩ (show 0 ≤ (I40a 2774) ∧ (I40a 2774) < 1501 by omega)) (fun r133 M134 q135 => ?_)
              rcases q135 with ⟨e136, hR135a, f137⟩ | ⟨I135b, A135b, B135b, C135b, e138, hR135b, f139⟩
              · rw [e136]
                replace hR135a : w_Rep w_TM fr X u l (w_up I40a 2774 ((I40a 2774) + 1)) A40a B40a C40a M134 := hR135a
                replace f137 : (A40a 45) ((I40a 2774)) = 5 ∧ (A40a 46) ((I40a 2774)) = 6 := f137
                have w140 : (I40a 2774) + 1 < (I40a 2754) := m_TK_lt tk55 (show (I40a 2774) < (I40a 2754) by omega) (show 1 ≤ (A40a 45) ((I40a 2774)) by omega) (show (A40a 45) ((I40a 2774)) ≤ 6 by omega)
                show w_W _ _ _ (42, [(4, .int (Int32.ofInt ((-1)))), (3, .int (Int32.ofInt (v41))), (2, .int (Int32.ofInt (v12))), (0, .ref 43), (1, .int (Int32.ofInt (vl)))], [], M134) _
                refine w_adv (n := 2) (F' := (44, [(4, .int (Int32.ofInt ((-1)))), (3, .int (Int32.ofInt (v41))), (2, .int (Int32.ofInt (v12))), (0, .ref 43), (1, .int (Int32.ofInt (vl)))], [.int (Int32.ofInt (vl)), .ref 43], M134)) rfl ?_
                refine w_call (cm := 242) (as := [(0, .ref 43), (1, .int (Int32.ofInt (vl)))]) (rest := []) (o := some (9, 43)) rfl (w_fitR hR135a rfl) (m_bodyOr hA (vl) (lo42) hR135a (show 20 * (24 - (I40a 2775)) + 21 ≤ (d : Int) by omega) ⟨by omega, by omega⟩ (show m_TK (w_up I40a 2774 ((I40a 2774) + 1)) A40a by exact tk55) (show (0 ≤ (I40a 2774) + 1 ∧ (I40a 2774) + 1 < (I40a 2754) ∧ (I40a 2754) ≤ 1501 ∧ 0 ≤ (I40a 2775) ∧ (I40a 2775) ≤ 24) ∧ ((I40a 3393) = (I40a 3905) ∧ (I40a 3521) = (I40a 3905) ∧ (I40a 3649) = (I40a 3905) ∧ (I40a 3777) = (I40a 3905) ∧ 0 ≤ (I40a 3905) ∧ (I40a 3905) ≤ 3 * ((I40a 2774) + 1)) ∧ ((I40a 4161) = (I40a 4033) ∧ 7 ≤ (I40a 4289) ∧ (I40a 4289) ≤ (I40a 4033) ∧ (I40a 4033) ≤ 7 + ((I40a 2774) + 1)) ∧ 0 ≤ (I40a 5889) ∧ (I40a 5889) ≤ (I40a 2774) + 1 by (repeat' apply And.intro) <;> omega) (show m_SC (w_up I40a 2774 ((I40a 2774) + 1)) A40a by exact f48) (show m_TR lo42 (w_up I40a 2774 ((I40a 2774) + 1)) A40a by exact f49) (show (I40a 2754) - ((I40a 2774) + 1) < N by first | assumption | omega)) (fun r141 M142 q143 => ?_)
                rcases q143 with ⟨v144, lo145, I143a, A143a, B143a, C143a, e146, ⟨r147, r148⟩, hR143a, f149, f150, f151, f152, f153, f154, f155⟩ | ⟨I143b, A143b, B143b, C143b, e156, hR143b, f157⟩
                · rw [e146]
                  replace hR143a : w_Rep w_TM fr X u l I143a A143a B143a C143a M142 := hR143a
                  replace f149 : m_fx (w_up I40a 2774 ((I40a 2774) + 1)) A40a I143a A143a := f149
                  replace f150 : ((0 ≤ (I143a 2774) ∧ (I143a 2774) < (I143a 2754) ∧ (I143a 2754) ≤ 1501 ∧ 0 ≤ (I143a 2775) ∧ (I143a 2775) ≤ 24) ∧ ((I143a 3393) = (I143a 3905) ∧ (I143a 3521) = (I143a 3905) ∧ (I143a 3649) = (I143a 3905) ∧ (I143a 3777) = (I143a 3905) ∧ 0 ≤ (I143a 3905) ∧ (I143a 3905) ≤ 3 * (I143a 2774)) ∧ ((I143a 4161) = (I143a 4033) ∧ 7 ≤ (I143a 4289) ∧ (I143a 4289) ≤ (I143a 4033) ∧ (I143a 4033) ≤ 7 + (I143a 2774)) ∧ 0 ≤ (I143a 5889) ∧ (I143a 5889) ≤ (I143a 2774)) ∧ ((I143a 2754) = (I40a 2754) ∧ ((I40a 2774) + 1) + 1 ≤ (I143a 2774) ∧ (I143a 2775) = (I40a 2775) ∧ (I143a 4289) = (I40a 4289) + 0 ∧ (I143a 5889) = (I40a 5889)) ∧ ((I143a 3905) + 1 ≤ (I40a 3905) + 3 * ((I143a 2774) - ((I40a 2774) + 1)) ∧ (I40a 3905) ≤ v144 ∧ v144 + 1 = (I143a 3905) ∧ (I40a 4033) ≤ (I143a 4033) ∧ (I143a 4033) ≤ (I40a 4033) + ((I143a 2774) - ((I40a 2774) + 1))) := f150
                  replace f151 : m_SC I143a A143a := f151
                  replace f152 : m_TR lo145 I143a A143a := f152
                  replace f153 : m_ST lo42 (w_up I40a 2774 ((I40a 2774) + 1)) A40a lo145 I143a A143a := f153
                  replace f154 : t_B ((A143a 53) (v144)) := f154
                  replace f155 : m_rt lo145 (I143a 3905) v144 := f155
                  have tk158 : m_TK I143a A143a := m_TK_fx f149 tk55
                  have s159 : m_ST lo I A lo145 I143a A143a := m_ST_trans (show m_ST lo I A lo42 (w_up I40a 2774 ((I40a 2774) + 1)) A40a from s56) f153 (by omega) (by omega) (by omega) (by omega)
                  have k160 := m_kd_ST f153 (by omega) k57
                  have j161 := k160.1
                  have rt162 := m_rt_ST f153 (by omega) (by omega) rt59
                  have k163 := m_kd_ST f153 (by omega) k60
                  have j164 := k163.1
                  have rt165 := m_rt_ST f153 (by omega) (by omega) f52
                  have k166 : m_kd lo145 I143a A143a (I40a 3905) v144 t_B := m_kd_of f153 f152 (by omega) (by omega) (by omega) f154
                  have j167 := k166.1
                  show w_W _ _ _ (47, [(4, .int (Int32.ofInt ((-1)))), (3, .int (Int32.ofInt (v41))), (2, .int (Int32.ofInt (v12))), (0, .ref 43), (1, .int (Int32.ofInt (vl)))], [.int (Int32.ofInt (v144))], M142) _
                  refine w_adv (n := 3) (F' := (51, [(4, .int (Int32.ofInt (v144))), (3, .int (Int32.ofInt (v41))), (2, .int (Int32.ofInt (v12))), (0, .ref 43), (1, .int (Int32.ofInt (vl)))], [.int (Int32.ofInt (3)), .ref 43], M142)) rfl ?_
                  refine w_call (cm := 244) (as := [(0, .ref 43), (1, .int (Int32.ofInt (3)))]) (rest := []) (o := some (9, 43)) rfl (w_fitR hR143a rfl) (m_closeWord (3) hR143a (show 3 ≤ d by omega) ⟨by omega, by omega⟩ (show 0 ≤ (I143a 2774) ∧ (I143a 2774) < 1501 by omega) (show 1 ≤ (I143a 2775) ∧ (I143a 2775) ≤ 24 by first | assumption | omega)) (fun r168 M169 q170 => ?_)
                  rcases q170 with ⟨e171, hR170a, f172⟩ | ⟨I170b, A170b, B170b, C170b, e173, hR170b, f174⟩
                  · rw [e171]
                    replace hR170a : w_Rep w_TM fr X u l (w_up (w_up I143a 2774 ((I143a 2774) + 1)) 2775 ((I143a 2775) - 1)) A143a B143a C143a M169 := hR170a
                    replace f172 : (A143a 45) ((I143a 2774)) = 5 ∧ (A143a 46) ((I143a 2774)) = 3 := f172
                    have w175 : (I143a 2774) + 1 < (I143a 2754) := m_TK_lt tk158 (show (I143a 2774) < (I143a 2754) by omega) (show 1 ≤ (A143a 45) ((I143a 2774)) by omega) (show (A143a 45) ((I143a 2774)) ≤ 6 by omega)
                    show w_W _ _ _ (54, [(4, .int (Int32.ofInt (v144))), (3, .int (Int32.ofInt (v41))), (2, .int (Int32.ofInt (v12))), (0, .ref 43), (1, .int (Int32.ofInt (vl)))], [], M169) _
                    refine w_adv (n := 5) (F' := (61, [(4, .int (Int32.ofInt (v144))), (3, .int (Int32.ofInt (v41))), (2, .int (Int32.ofInt (v12))), (0, .ref 43), (1, .int (Int32.ofInt (vl)))], [.int (Int32.ofInt (v144)), .int (Int32.ofInt (v41)), .int (Int32.ofInt (v12)), .int (Int32.ofInt (15)), .ref 43], M169)) rfl ?_
                    refine w_call (cm := 239) (as := [(0, .ref 43), (1, .int (Int32.ofInt (15))), (2, .int (Int32.ofInt (v12))), (3, .int (Int32.ofInt (v41))), (4, .int (Int32.ofInt (v144)))]) (rest := []) (o := some (9, 43)) rfl (w_fitR hR170a rfl) (m_node (15) (v12) (v41) (v144) hR170a (show 2 ≤ d by omega) ⟨by omega, by omega⟩ ⟨by omega, by omega⟩ ⟨by omega, by omega⟩ ⟨by omega, by omega⟩ (show (I143a 3393) = (I143a 3905) by first | assumption | omega) (show (I143a 3521) = (I143a 3905) by first | assumption | omega) (show (I143a 3649) = (I143a 3905) by first | assumption | omega) (show (I143a 3777) = (I143a 3905) by first | assumption | omega) (show (I143a 3905) < 65536 by first | assumption | omega)) (fun r176 M177 q178 => ?_)
                    rcases q178 with ⟨v179, I178a, A178a, B178a, C178a, e180, ⟨r181, r182⟩, hR178a, f183, f184⟩
                    rw [e180]
                    replace hR178a : w_Rep w_TM fr X u l I178a A178a B178a C178a M177 := hR178a
                    replace f183 : m_fx (w_up (w_up I143a 2774 ((I143a 2774) + 1)) 2775 ((I143a 2775) - 1)) A143a I178a A178a := f183
                    replace f184 : m_nd (w_up (w_up I143a 2774 ((I143a 2774) + 1)) 2775 ((I143a 2775) - 1)) A143a I178a A178a v179 15 v12 v41 v144 := f184
                    have j185 : (v179 = (I143a 3905) ∧ (I178a 3905) = (I143a 3905) + 1 ∧ (I178a 3393) = (I143a 3393) + 1 ∧ (I178a 3521) = (I143a 3521) + 1 ∧ (I178a 3649) = (I143a 3649) + 1 ∧ (I178a 3777) = (I143a 3777) + 1) ∧ ((I178a 2774) = (I143a 2774) + 1 ∧ (I178a 2754) = (I143a 2754) ∧ (I178a 2775) = (I143a 2775) - 1 ∧ (I178a 4289) = (I143a 4289) ∧ (I178a 4033) = (I143a 4033) ∧ (I178a 4161) = (I143a 4161) ∧ (I178a 5889) = (I143a 5889)) := m_nd_num f184
                    have tk186 : m_TK I178a A178a := m_TK_fx f183 tk158
                    have sc187 := m_SC_nd f184 f151
                    have tr188 : m_TR (t_up lo145 v179 (I 3905)) I178a A178a := m_TR_nd (show m_TR lo145 (w_up (w_up I143a 2774 ((I143a 2774) + 1)) 2775 ((I143a 2775) - 1)) A143a from f152) f184 (by omega) (by omega) (m_cl_ST (show m_ST lo I A lo145 (w_up (w_up I143a 2774 ((I143a 2774) + 1)) 2775 ((I143a 2775) - 1)) A143a from s159) hTR (by omega)) (t_N_mk15 t_up_same (by omega) (by omega) ⟨m_ch f184 (by omega) k160, m_ch f184 (by omega) k163, Or.inr (m_ch f184 (by omega) k166), m_od f184 k163 (by omega), Or.inr (m_od f184 k166 (by omega))⟩)
                    have s189 := m_ST_nd (l := (I 3905)) (show m_ST lo I A lo145 (w_up (w_up I143a 2774 ((I143a 2774) + 1)) 2775 ((I143a 2775) - 1)) A143a from s159) f184 (show (I 3905) ≤ (I 3905) by omega) (show (I 3905) ≤ (I143a 3905) by omega)
                    have k190 : m_kd (t_up lo145 v179 (I 3905)) I178a A178a (I 3905) v179 (fun k => k = 15) := m_kd_new f184 (by omega) (by omega) rfl
                    have j191 := k190.1
                    have rt192 : m_rt (t_up lo145 v179 (I 3905)) (I178a 3905) v179 := m_rt_new f184
                    show w_W _ _ _ (64, [(4, .int (Int32.ofInt (v144))), (3, .int (Int32.ofInt (v41))), (2, .int (Int32.ofInt (v12))), (0, .ref 43), (1, .int (Int32.ofInt (vl)))], [.int (Int32.ofInt (v179))], M177) _
                    refine w_fin (r := .inl (some (v179))) (M' := M177) rfl ?_
                    exact Or.inl ⟨v179, (t_up lo145 v179 (I 3905)), I178a, A178a, B178a, C178a, rfl, ⟨by omega, by omega⟩, hR178a, (show m_fx I A I178a A178a by exact (m_fx_trans (m_fx_trans (m_fx_trans f17 f46) f149) f183)), (show ((0 ≤ (I178a 2774) ∧ (I178a 2774) < (I178a 2754) ∧ (I178a 2754) ≤ 1501 ∧ 0 ≤ (I178a 2775) ∧ (I178a 2775) ≤ 24) ∧ ((I178a 3393) = (I178a 3905) ∧ (I178a 3521) = (I178a 3905) ∧ (I178a 3649) = (I178a 3905) ∧ (I178a 3777) = (I178a 3905) ∧ 0 ≤ (I178a 3905) ∧ (I178a 3905) ≤ 3 * (I178a 2774)) ∧ ((I178a 4161) = (I178a 4033) ∧ 7 ≤ (I178a 4289) ∧ (I178a 4289) ≤ (I178a 4033) ∧ (I178a 4033) ≤ 7 + (I178a 2774)) ∧ 0 ≤ (I178a 5889) ∧ (I178a 5889) ≤ (I178a 2774)) ∧ ((I178a 2754) = (I 2754) ∧ (I 2774) + 1 ≤ (I178a 2774) ∧ (I178a 2775) = (I 2775) ∧ (I178a 4289) = (I 4289) + 0 ∧ (I178a 5889) = (I 5889)) ∧ ((I178a 3905) + 2 ≤ (I 3905) + 3 * ((I178a 2774) - (I 2774)) ∧ (I 3905) ≤ v179 ∧ v179 + 1 = (I178a 3905) ∧ (I 4033) ≤ (I178a 4033) ∧ (I178a 4033) ≤ (I 4033) + ((I178a 2774) - (I 2774))) by (repeat' apply And.intro) <;> omega), (show m_SC I178a A178a by exact sc187), (show m_TR (t_up lo145 v179 (I 3905)) I178a A178a by exact tr188), (show m_ST lo I A (t_up lo145 v179 (I 3905)) I178a A178a by exact s189), (show (fun k => k = 15) ((A178a 53) (v179)) by exact (k190).2), (show m_rt (t_up lo145 v179 (I 3905)) (I178a 3905) v179 by exact rt192)⟩
                  · rw [e173]
                    replace hR170b : w_Rep w_TM fr X u l I170b A170b B170b C170b M169 := hR170b
                    replace f174 : m_fx I143a A143a I170b A170b := f174
                    exact Or.inr (⟨I170b, A170b, B170b, C170b, rfl, hR170b, (show m_fx I A I170b A170b by exact (m_fx_trans (m_fx_trans (m_fx_trans f17 f46) f149) f174))⟩)
                · rw [e156]
                  replace hR143b : w_Rep w_TM fr X u l I143b A143b B143b C143b M142 := hR143b
                  replace f157 : m_fx (w_up I40a 2774 ((I40a 2774) + 1)) A40a I143b A143b := f157
                  exact Or.inr (⟨I143b, A143b, B143b, C143b, rfl, hR143b, (show m_fx I A I143b A143b by exact (m_fx_trans (m_fx_trans f17 f46) f157))⟩)
              · rw [e138]
                replace hR135b : w_Rep w_TM fr X u l I135b A135b B135b C135b M134 := hR135b
                replace f139 : m_fx I40a A40a I135b A135b := f139
                exact Or.inr (⟨I135b, A135b, B135b, C135b, rfl, hR135b, (show m_fx I A I135b A135b by exact (m_fx_trans (m_fx_trans f17 f46) f139))⟩)
            · rw [e129, e130]
              replace f131 : ¬ ((A40a 45) ((I40a 2774)) = 5 ∧ (A40a 46) ((I40a 2774)) = 6) := f131
              show w_W _ _ _ (33, [(4, .int (Int32.ofInt ((-1)))), (3, .int (Int32.ofInt (v41))), (2, .int (Int32.ofInt (v12))), (0, .ref 43), (1, .int (Int32.ofInt (vl)))], [.int (Int32.ofInt (0))], M39) _
              refine w_adv (n := 3) (F' := (51, [(4, .int (Int32.ofInt ((-1)))), (3, .int (Int32.ofInt (v41))), (2, .int (Int32.ofInt (v12))), (0, .ref 43), (1, .int (Int32.ofInt (vl)))], [.int (Int32.ofInt (3)), .ref 43], M39)) rfl ?_
              refine w_call (cm := 244) (as := [(0, .ref 43), (1, .int (Int32.ofInt (3)))]) (rest := []) (o := some (9, 43)) rfl (w_fitR hR40a rfl) (m_closeWord (3) hR40a (show 3 ≤ d by omega) ⟨by omega, by omega⟩ (show 0 ≤ (I40a 2774) ∧ (I40a 2774) < 1501 by omega) (show 1 ≤ (I40a 2775) ∧ (I40a 2775) ≤ 24 by first | assumption | omega)) (fun r193 M194 q195 => ?_)
              rcases q195 with ⟨e196, hR195a, f197⟩ | ⟨I195b, A195b, B195b, C195b, e198, hR195b, f199⟩
              · rw [e196]
                replace hR195a : w_Rep w_TM fr X u l (w_up (w_up I40a 2774 ((I40a 2774) + 1)) 2775 ((I40a 2775) - 1)) A40a B40a C40a M194 := hR195a
                replace f197 : (A40a 45) ((I40a 2774)) = 5 ∧ (A40a 46) ((I40a 2774)) = 3 := f197
                have w200 : (I40a 2774) + 1 < (I40a 2754) := m_TK_lt tk55 (show (I40a 2774) < (I40a 2754) by omega) (show 1 ≤ (A40a 45) ((I40a 2774)) by omega) (show (A40a 45) ((I40a 2774)) ≤ 6 by omega)
                show w_W _ _ _ (54, [(4, .int (Int32.ofInt ((-1)))), (3, .int (Int32.ofInt (v41))), (2, .int (Int32.ofInt (v12))), (0, .ref 43), (1, .int (Int32.ofInt (vl)))], [], M194) _
                refine w_adv (n := 5) (F' := (61, [(4, .int (Int32.ofInt ((-1)))), (3, .int (Int32.ofInt (v41))), (2, .int (Int32.ofInt (v12))), (0, .ref 43), (1, .int (Int32.ofInt (vl)))], [.int (Int32.ofInt ((-1))), .int (Int32.ofInt (v41)), .int (Int32.ofInt (v12)), .int (Int32.ofInt (15)), .ref 43], M194)) rfl ?_
                refine w_call (cm := 239) (as := [(0, .ref 43), (1, .int (Int32.ofInt (15))), (2, .int (Int32.ofInt (v12))), (3, .int (Int32.ofInt (v41))), (4, .int (Int32.ofInt ((-1))))]) (rest := []) (o := some (9, 43)) rfl (w_fitR hR195a rfl) (m_node (15) (v12) (v41) ((-1)) hR195a (show 2 ≤ d by omega) ⟨by omega, by omega⟩ ⟨by omega, by omega⟩ ⟨by omega, by omega⟩ ⟨by omega, by omega⟩ (show (I40a 3393) = (I40a 3905) by first | assumption | omega) (show (I40a 3521) = (I40a 3905) by first | assumption | omega) (show (I40a 3649) = (I40a 3905) by first | assumption | omega) (show (I40a 3777) = (I40a 3905) by first | assumption | omega) (show (I40a 3905) < 65536 by first | assumption | omega)) (fun r201 M202 q203 => ?_)
                rcases q203 with ⟨v204, I203a, A203a, B203a, C203a, e205, ⟨r206, r207⟩, hR203a, f208, f209⟩
                rw [e205]
                replace hR203a : w_Rep w_TM fr X u l I203a A203a B203a C203a M202 := hR203a
                replace f208 : m_fx (w_up (w_up I40a 2774 ((I40a 2774) + 1)) 2775 ((I40a 2775) - 1)) A40a I203a A203a := f208
                replace f209 : m_nd (w_up (w_up I40a 2774 ((I40a 2774) + 1)) 2775 ((I40a 2775) - 1)) A40a I203a A203a v204 15 v12 v41 (-1) := f209
                have j210 : (v204 = (I40a 3905) ∧ (I203a 3905) = (I40a 3905) + 1 ∧ (I203a 3393) = (I40a 3393) + 1 ∧ (I203a 3521) = (I40a 3521) + 1 ∧ (I203a 3649) = (I40a 3649) + 1 ∧ (I203a 3777) = (I40a 3777) + 1) ∧ ((I203a 2774) = (I40a 2774) + 1 ∧ (I203a 2754) = (I40a 2754) ∧ (I203a 2775) = (I40a 2775) - 1 ∧ (I203a 4289) = (I40a 4289) ∧ (I203a 4033) = (I40a 4033) ∧ (I203a 4161) = (I40a 4161) ∧ (I203a 5889) = (I40a 5889)) := m_nd_num f209
                have tk211 : m_TK I203a A203a := m_TK_fx f208 tk55
                have sc212 := m_SC_nd f209 f48
                have tr213 : m_TR (t_up lo42 v204 (I 3905)) I203a A203a := m_TR_nd (show m_TR lo42 (w_up (w_up I40a 2774 ((I40a 2774) + 1)) 2775 ((I40a 2775) - 1)) A40a from f49) f209 (by omega) (by omega) (m_cl_ST (show m_ST lo I A lo42 (w_up (w_up I40a 2774 ((I40a 2774) + 1)) 2775 ((I40a 2775) - 1)) A40a from s56) hTR (by omega)) (t_N_mk15 t_up_same (by omega) (by omega) ⟨m_ch f209 (by omega) k57, m_ch f209 (by omega) k60, Or.inl rfl, m_od f209 k60 (by omega), Or.inl rfl⟩)
                have s214 := m_ST_nd (l := (I 3905)) (show m_ST lo I A lo42 (w_up (w_up I40a 2774 ((I40a 2774) + 1)) 2775 ((I40a 2775) - 1)) A40a from s56) f209 (show (I 3905) ≤ (I 3905) by omega) (show (I 3905) ≤ (I40a 3905) by omega)
                have k215 : m_kd (t_up lo42 v204 (I 3905)) I203a A203a (I 3905) v204 (fun k => k = 15) := m_kd_new f209 (by omega) (by omega) rfl
                have j216 := k215.1
                have rt217 : m_rt (t_up lo42 v204 (I 3905)) (I203a 3905) v204 := m_rt_new f209
                show w_W _ _ _ (64, [(4, .int (Int32.ofInt ((-1)))), (3, .int (Int32.ofInt (v41))), (2, .int (Int32.ofInt (v12))), (0, .ref 43), (1, .int (Int32.ofInt (vl)))], [.int (Int32.ofInt (v204))], M202) _
                refine w_fin (r := .inl (some (v204))) (M' := M202) rfl ?_
                exact Or.inl ⟨v204, (t_up lo42 v204 (I 3905)), I203a, A203a, B203a, C203a, rfl, ⟨by omega, by omega⟩, hR203a, (show m_fx I A I203a A203a by exact (m_fx_trans (m_fx_trans f17 f46) f208)), (show ((0 ≤ (I203a 2774) ∧ (I203a 2774) < (I203a 2754) ∧ (I203a 2754) ≤ 1501 ∧ 0 ≤ (I203a 2775) ∧ (I203a 2775) ≤ 24) ∧ ((I203a 3393) = (I203a 3905) ∧ (I203a 3521) = (I203a 3905) ∧ (I203a 3649) = (I203a 3905) ∧ (I203a 3777) = (I203a 3905) ∧ 0 ≤ (I203a 3905) ∧ (I203a 3905) ≤ 3 * (I203a 2774)) ∧ ((I203a 4161) = (I203a 4033) ∧ 7 ≤ (I203a 4289) ∧ (I203a 4289) ≤ (I203a 4033) ∧ (I203a 4033) ≤ 7 + (I203a 2774)) ∧ 0 ≤ (I203a 5889) ∧ (I203a 5889) ≤ (I203a 2774)) ∧ ((I203a 2754) = (I 2754) ∧ (I 2774) + 1 ≤ (I203a 2774) ∧ (I203a 2775) = (I 2775) ∧ (I203a 4289) = (I 4289) + 0 ∧ (I203a 5889) = (I 5889)) ∧ ((I203a 3905) + 2 ≤ (I 3905) + 3 * ((I203a 2774) - (I 2774)) ∧ (I 3905) ≤ v204 ∧ v204 + 1 = (I203a 3905) ∧ (I 4033) ≤ (I203a 4033) ∧ (I203a 4033) ≤ (I 4033) + ((I203a 2774) - (I 2774))) by (repeat' apply And.intro) <;> omega), (show m_SC I203a A203a by exact sc212), (show m_TR (t_up lo42 v204 (I 3905)) I203a A203a by exact tr213), (show m_ST lo I A (t_up lo42 v204 (I 3905)) I203a A203a by exact s214), (show (fun k => k = 15) ((A203a 53) (v204)) by exact (k215).2), (show m_rt (t_up lo42 v204 (I 3905)) (I203a 3905) v204 by exact rt217)⟩
              · rw [e198]
                replace hR195b : w_Rep w_TM fr X u l I195b A195b B195b C195b M194 := hR195b
                replace f199 : m_fx I40a A40a I195b A195b := f199
                exact Or.inr (⟨I195b, A195b, B195b, C195b, rfl, hR195b, (show m_fx I A I195b A195b by exact (m_fx_trans (m_fx_trans f17 f46) f199))⟩)
        · rw [e53]
          replace hR40b : w_Rep w_TM fr X u l I40b A40b B40b C40b M39 := hR40b
          replace f54 : m_fx (w_up I11a 2774 ((I11a 2774) + 1)) A11a I40b A40b := f54
          exact Or.inr (⟨I40b, A40b, B40b, C40b, rfl, hR40b, (show m_fx I A I40b A40b by exact (m_fx_trans f17 f54))⟩)
      · rw [e35]
        replace hR32b : w_Rep w_TM fr X u l I32b A32b B32b C32b M31 := hR32b
        replace f36 : m_fx I11a A11a I32b A32b := f36
        exact Or.inr (⟨I32b, A32b, B32b, C32b, rfl, hR32b, (show m_fx I A I32b A32b by exact (m_fx_trans f17 f36))⟩)
    · rw [e24]
      replace hR11b : w_Rep w_TM fr X u l I11b A11b B11b C11b M10 := hR11b
      replace f25 : m_fx (w_up (w_up I 2775 ((I 2775) + 1)) 2774 ((I 2774) + 1)) A I11b A11b := f25
      exact Or.inr (⟨I11b, A11b, B11b, C11b, rfl, hR11b, (show m_fx I A I11b A11b by exact f25)⟩)
  · rw [e6]
    replace hR3b : w_Rep w_TM fr X u l I3b A3b B3b C3b M2 := hR3b
    replace f7 : m_fx I A I3b A3b := f7
    exact Or.inr (⟨I3b, A3b, B3b, C3b, rfl, hR3b, (show m_fx I A I3b A3b by exact f7)⟩)
