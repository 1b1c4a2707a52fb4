/-! PARSER of the reference. -/
theorem m_r8 {x a b : Int} (h : a ≤ b) : 8 * x + a ≤ 8 * x + b := by omega
theorem m_r8l {x a b : Int} (h : a < b) : 8 * x + a < 8 * x + b := by omega
theorem m_r8o {o o' r R k : Int} (h : o' = o + k) (h2 : r - 8 * k ≤ R) : 8 * (24 - o') + r ≤ 8 * (24 - o) + R := by omega
theorem m_nv {a b c : Int} (h1 : a ≤ b) (h2 : b + 1 = c) : a ≤ c ∧ b < c := by omega
theorem m_refl_le {a : Int} : a ≤ a := Int.le_refl a
def m_used_Q (fr : Nat → Bool) (X : Nat → Option (q_C (Nat → Int32))) (u l : Nat) (I : Nat → Int) (A : Nat → Int → Int) (B C : Nat → Nat) (M : w_M) : w_X → w_M → Prop := fun r M' => (∃ v : Int, (r = .inl (some v)) ∧ (w_in v) ∧ (M' = M) ∧ (0 ≤ v ∧ v < (I 4033))) ∨ (∃ v : Int, ∃ z : Int, (r = .inl (some v)) ∧ (w_in v) ∧ (w_Rep w_TM fr X u l (w_up I 2776 (z)) A B C M') ∧ (0 ≤ v ∧ v < (I 4033))) ∨ (∃ (I' : Nat → Int) (A' : Nat → Int → Int) (B' C' : Nat → Nat), (r = .inr 69) ∧ (w_Rep w_TM fr X u l I' A' B' C' M') ∧ (m_fx I A I' A'))
set_option maxHeartbeats 100000000 in
set_option maxRecDepth 100000 in
theorem m_used {L : Nat} {xs : Nat → Int32} {d : Nat} {fr : Nat → Bool} {X : Nat → Option (q_C (Nat → Int32))} {u l : Nat} {I : Nat → Int} {A : Nat → Int → Int} {B C : Nat → Nat} {M : w_M} (hR : w_Rep w_TM fr X u l I A B C M) (hd : 3 ≤ d) (hNU : (0 ≤ (I 2774) ∧ (I 2774) < (I 2754) ∧ (I 2754) ≤ 1501 ∧ 0 ≤ (I 2775) ∧ (I 2775) ≤ 24) ∧ ((I 3393) = (I 3905) ∧ (I 3521) = (I 3905) ∧ (I 3649) = (I 3905) ∧ (I 3777) = (I 3905) ∧ 0 ≤ (I 3905) ∧ (I 3905) ≤ 3 * (I 2774)) ∧ ((I 4161) = (I 4033) ∧ 7 ≤ (I 4289) ∧ (I 4289) ≤ (I 4033) ∧ (I 4033) ≤ 7 + (I 2774)) ∧ 0 ≤ (I 5889) ∧ (I 5889) ≤ (I 2774)) (hSC : m_SC I A) : w_W (z_P L xs) d 262 (0, [(0, .ref 43)], [], M) (m_used_Q fr X u l I A B C M) := by
  obtain ⟨d, rfl⟩ : ∃ d0, d = d0 + 1 := ⟨d - 1, by omega⟩
  refine w_adv (n := 1) (F' := (1, [(0, .ref 43)], [.ref 43], M)) rfl ?_
  refine w_gf (v := .ref 46) hR rfl rfl rfl rfl ?_
  refine w_adv (n := 1) (F' := (5, [(0, .ref 43)], [.ref 43, .ref 46], M)) rfl ?_
  refine w_gf (v := .int (Int32.ofInt ((I 2774)))) hR rfl rfl rfl rfl ?_
  obtain ⟨r1, r2⟩ : -2147483648 ≤ (I 2774) ∧ (I 2774) ≤ 2147483647 := hR.ri 2774
  refine w_la (n := 1502) hR rfl (Or.inl ⟨rfl, rfl⟩) rfl (show 0 ≤ (I 2774) by omega) (show (I 2774) < (1502 : Int) by omega) (by decide) ?_
  obtain ⟨r3, r4⟩ : -2147483648 ≤ (A 46) ((I 2774)) ∧ (A 46) ((I 2774)) ≤ 2147483647 := hR.ra 46 ((I 2774))
  show w_W _ _ _ (9, [(0, .ref 43)], [.int (Int32.ofInt ((A 46) ((I 2774))))], M) _
  refine w_adv (n := 2) (F' := (11, [(1, .int (Int32.ofInt ((A 46) ((I 2774))))), (0, .ref 43)], [.ref 43], M)) rfl ?_
  refine w_gf (v := .ref 67) hR rfl rfl rfl rfl ?_
  refine w_gf (v := .int (Int32.ofInt ((I 4289)))) hR rfl rfl rfl rfl ?_
  obtain ⟨r5, r6⟩ : -2147483648 ≤ (I 4289) ∧ (I 4289) ≤ 2147483647 := hR.ri 4289
  obtain ⟨r7a, r7b, r7c⟩ : 0 ≤ (I 4289) ∧ (I 4289) ≤ (C 67 : Int) ∧ (C 67 : Int) ≤ 131072 := hR.sz (show 67 ∈ w_TM.2.2 by decide)
  refine w_adv (n := 1) (F' := (18, [(1, .int (Int32.ofInt ((A 46) ((I 2774))))), (0, .ref 43)], [.int (Int32.ofInt (1)), .int (Int32.ofInt ((I 4289)))], M)) rfl ?_
  refine w_sub rfl ?_
  refine w_adv (n := 1) (F' := (20, [(2, .int (Int32.ofInt ((I 4289) - 1))), (1, .int (Int32.ofInt ((A 46) ((I 2774))))), (0, .ref 43)], [], M)) rfl ?_
  have lp20 : ∀ fu : Nat, ∀ (y20_2 : Int), w_in y20_2 → -1 ≤ y20_2 ∧ y20_2 < (I 4289) → y20_2 + 1 < (fu : Int) → w_W (z_P L xs) (d + 1) 262 (20, [(0, .ref 43), (1, .int (Int32.ofInt ((A 46) ((I 2774))))), (2, .int (Int32.ofInt (y20_2)))], [], M) (m_used_Q fr X u l I A B C M) := by
    intro fu
    induction fu with
    | zero =>
      intro y20_2 ⟨ra_y20_2, rb_y20_2⟩ hi20_0 hn20
      exfalso
      omega
    | succ fu ih20 =>
      intro y20_2 ⟨ra_y20_2, rb_y20_2⟩ hi20_0 hn20
      refine w_adv (n := 1) (F' := (21, [(0, .ref 43), (1, .int (Int32.ofInt ((A 46) ((I 2774))))), (2, .int (Int32.ofInt (y20_2)))], [.int (Int32.ofInt (y20_2))], M)) rfl ?_
      refine w_br1 (a := y20_2) rfl rfl ⟨by omega, by omega⟩ (fun h8 => ?_) (fun h8 => ?_)
      · have h8 : y20_2 < 0 := h8
        show w_W _ _ _ (49, [(0, .ref 43), (1, .int (Int32.ofInt ((A 46) ((I 2774))))), (2, .int (Int32.ofInt (y20_2)))], [], M) _
        refine w_adv (n := 1) (F' := (50, [(0, .ref 43), (1, .int (Int32.ofInt ((A 46) ((I 2774))))), (2, .int (Int32.ofInt (y20_2)))], [.int (Int32.ofInt (y20_2))], M)) rfl ?_
        refine w_br1 (a := y20_2) rfl rfl ⟨by omega, by omega⟩ (fun h9 => ?_) (fun h9 => ?_)
        · have h9 : y20_2 ≥ 0 := h9
          show w_W _ _ _ (58, [(0, .ref 43), (1, .int (Int32.ofInt ((A 46) ((I 2774))))), (2, .int (Int32.ofInt (y20_2)))], [], M) _
          refine w_adv (n := 1) (F' := (59, [(0, .ref 43), (1, .int (Int32.ofInt ((A 46) ((I 2774))))), (2, .int (Int32.ofInt (y20_2)))], [.ref 43], M)) rfl ?_
          refine w_gf (v := .ref 67) hR rfl rfl rfl rfl ?_
          refine w_adv (n := 1) (F' := (63, [(0, .ref 43), (1, .int (Int32.ofInt ((A 46) ((I 2774))))), (2, .int (Int32.ofInt (y20_2)))], [.int (Int32.ofInt (y20_2)), .ref 67], M)) rfl ?_
          refine w_call (cm := 238) (as := [(0, .ref 67), (1, .int (Int32.ofInt (y20_2)))]) (rest := []) (o := some (10, 67)) rfl (w_fitR hR rfl) (m_get (y20_2) 67 (by decide) rfl hR ⟨by omega, by omega⟩ (show 0 ≤ y20_2 by first | assumption | omega) (show y20_2 < (C 67 : Int) by first | assumption | omega)) (fun r10 M11 q12 => ?_)
          rcases q12 with ⟨e13, e14⟩
          rw [e13, e14]
          obtain ⟨r15, r16⟩ : -2147483648 ≤ (A 67) (y20_2) ∧ (A 67) (y20_2) ≤ 2147483647 := hR.ra 67 (y20_2)
          obtain ⟨u1, u2⟩ := hSC.1 (y20_2) (by omega) (by omega)
          show w_W _ _ _ (66, [(0, .ref 43), (1, .int (Int32.ofInt ((A 46) ((I 2774))))), (2, .int (Int32.ofInt (y20_2)))], [.int (Int32.ofInt ((A 67) (y20_2)))], M) _
          refine w_adv (n := 3) (F' := (69, [(3, .int (Int32.ofInt ((A 67) (y20_2)))), (0, .ref 43), (1, .int (Int32.ofInt ((A 46) ((I 2774))))), (2, .int (Int32.ofInt (y20_2)))], [.int (Int32.ofInt (3)), .int (Int32.ofInt ((A 67) (y20_2)))], M)) rfl ?_
          refine w_br2 (a := (A 67) (y20_2)) (b := 3) rfl rfl ⟨by omega, by omega⟩ ⟨by omega, by omega⟩ (fun h17 => ?_) (fun h17 => ?_)
          · have h17 : (A 67) (y20_2) < 3 := h17
            show w_W _ _ _ (88, [(3, .int (Int32.ofInt ((A 67) (y20_2)))), (0, .ref 43), (1, .int (Int32.ofInt ((A 46) ((I 2774))))), (2, .int (Int32.ofInt (y20_2)))], [], M) _
            refine w_adv (n := 1) (F' := (89, [(3, .int (Int32.ofInt ((A 67) (y20_2)))), (0, .ref 43), (1, .int (Int32.ofInt ((A 46) ((I 2774))))), (2, .int (Int32.ofInt (y20_2)))], [.int (Int32.ofInt ((A 67) (y20_2)))], M)) rfl ?_
            refine w_fin (r := .inl (some ((A 67) (y20_2)))) (M' := M) rfl ?_
            first
              | exact Or.inl ⟨(A 67) (y20_2), rfl, ⟨by omega, by omega⟩, rfl, (show 0 ≤ (A 67) (y20_2) ∧ (A 67) (y20_2) < (I 4033) by first | assumption | omega)⟩
              | exact Or.inr (Or.inl ⟨(A 67) (y20_2), (I 2776), rfl, ⟨by omega, by omega⟩, (w_Rep.up hR (show (w_up I 2776 ((I 2776))) = I from (funext fun s => if e0 : s = 2776 then (by subst e0; rfl) else (by simp only [w_up_ne e0]))) (show A = A from rfl)), (show 0 ≤ (A 67) (y20_2) ∧ (A 67) (y20_2) < (I 4033) by first | assumption | omega)⟩)
          · have h17 : ¬ ((A 67) (y20_2) < 3) := h17
            show w_W _ _ _ (72, [(3, .int (Int32.ofInt ((A 67) (y20_2)))), (0, .ref 43), (1, .int (Int32.ofInt ((A 46) ((I 2774))))), (2, .int (Int32.ofInt (y20_2)))], [], M) _
            refine w_adv (n := 2) (F' := (75, [(3, .int (Int32.ofInt ((A 67) (y20_2)))), (0, .ref 43), (1, .int (Int32.ofInt ((A 46) ((I 2774))))), (2, .int (Int32.ofInt (y20_2)))], [.int (Int32.ofInt (7)), .int (Int32.ofInt ((A 67) (y20_2)))], M)) rfl ?_
            refine w_br2 (a := (A 67) (y20_2)) (b := 7) rfl rfl ⟨by omega, by omega⟩ ⟨by omega, by omega⟩ (fun h18 => ?_) (fun h18 => ?_)
            · have h18 : (A 67) (y20_2) ≥ 7 := h18
              show w_W _ _ _ (88, [(3, .int (Int32.ofInt ((A 67) (y20_2)))), (0, .ref 43), (1, .int (Int32.ofInt ((A 46) ((I 2774))))), (2, .int (Int32.ofInt (y20_2)))], [], M) _
              refine w_adv (n := 1) (F' := (89, [(3, .int (Int32.ofInt ((A 67) (y20_2)))), (0, .ref 43), (1, .int (Int32.ofInt ((A 46) ((I 2774))))), (2, .int (Int32.ofInt (y20_2)))], [.int (Int32.ofInt ((A 67) (y20_2)))], M)) rfl ?_
              refine w_fin (r := .inl (some ((A 67) (y20_2)))) (M' := M) rfl ?_
              first
                | exact Or.inl ⟨(A 67) (y20_2), rfl, ⟨by omega, by omega⟩, rfl, (show 0 ≤ (A 67) (y20_2) ∧ (A 67) (y20_2) < (I 4033) by first | assumption | omega)⟩
                | exact Or.inr (Or.inl ⟨(A 67) (y20_2), (I 2776), rfl, ⟨by omega, by omega⟩, (w_Rep.up hR (show (w_up I 2776 ((I 2776))) = I from (funext fun s => if e0 : s = 2776 then (by subst e0; rfl) else (by simp only [w_up_ne e0]))) (show A = A from rfl)), (show 0 ≤ (A 67) (y20_2) ∧ (A 67) (y20_2) < (I 4033) by first | assumption | omega)⟩)
            · have h18 : ¬ ((A 67) (y20_2) ≥ 7) := h18
              show w_W _ _ _ (78, [(3, .int (Int32.ofInt ((A 67) (y20_2)))), (0, .ref 43), (1, .int (Int32.ofInt ((A 46) ((I 2774))))), (2, .int (Int32.ofInt (y20_2)))], [], M) _
              refine w_adv (n := 2) (F' := (80, [(3, .int (Int32.ofInt ((A 67) (y20_2)))), (0, .ref 43), (1, .int (Int32.ofInt ((A 46) ((I 2774))))), (2, .int (Int32.ofInt (y20_2)))], [.ref 43, .ref 43], M)) rfl ?_
              refine w_gf (v := .int (Int32.ofInt ((I 2776)))) hR rfl rfl rfl rfl ?_
              obtain ⟨r19, r20⟩ : -2147483648 ≤ (I 2776) ∧ (I 2776) ≤ 2147483647 := hR.ri 2776
              refine w_adv (n := 2) (F' := (85, [(3, .int (Int32.ofInt ((A 67) (y20_2)))), (0, .ref 43), (1, .int (Int32.ofInt ((A 46) ((I 2774))))), (2, .int (Int32.ofInt (y20_2)))], [.int ((Int32.ofInt ((I 2776))) ||| (Int32.ofInt (1))), .ref 43], M)) rfl ?_
              refine w_int (fun x21 r22 e23 => ?_)
              obtain ⟨r22a, r22b⟩ := r22
              refine w_pf hR rfl rfl rfl rfl (show w_in (x21) from ⟨by omega, by omega⟩) (fun h => absurd h (by decide)) (fun M24 hR25 => ?_)
              replace hR25 : w_Rep w_TM fr X u l (w_up I 2776 (x21)) A B C M24 := hR25
              refine w_adv (n := 1) (F' := (89, [(3, .int (Int32.ofInt ((A 67) (y20_2)))), (0, .ref 43), (1, .int (Int32.ofInt ((A 46) ((I 2774))))), (2, .int (Int32.ofInt (y20_2)))], [.int (Int32.ofInt ((A 67) (y20_2)))], M24)) rfl ?_
              refine w_fin (r := .inl (some ((A 67) (y20_2)))) (M' := M24) rfl ?_
              exact Or.inr (Or.inl ⟨(A 67) (y20_2), x21, rfl, ⟨by omega, by omega⟩, hR25, (show 0 ≤ (A 67) (y20_2) ∧ (A 67) (y20_2) < (I 4033) by first | assumption | omega)⟩)
        · have h9 : ¬ (y20_2 ≥ 0) := h9
          show w_W _ _ _ (53, [(0, .ref 43), (1, .int (Int32.ofInt ((A 46) ((I 2774))))), (2, .int (Int32.ofInt (y20_2)))], [], M) _
          refine w_adv (n := 2) (F' := (55, [(0, .ref 43), (1, .int (Int32.ofInt ((A 46) ((I 2774))))), (2, .int (Int32.ofInt (y20_2)))], [.int (Int32.ofInt (3)), .ref 43], M)) rfl ?_
          refine w_call (cm := 232) (as := [(0, .ref 43), (1, .int (Int32.ofInt (3)))]) (rest := []) (o := some (9, 43)) rfl (w_fitR hR rfl) (m_fail (3) hR ⟨by omega, by omega⟩ (show 0 ≤ (I 2774) ∧ (I 2774) < 1501 by omega) (show 1 ≤ 3 ∧ 3 ≤ 7 by first | assumption | omega)) (fun r26 M27 q28 => ?_)
          rcases q28 with ⟨I28a, A28a, B28a, C28a, e29, hR28a, f30⟩
          rw [e29]
          replace hR28a : w_Rep w_TM fr X u l I28a A28a B28a C28a M27 := hR28a
          replace f30 : m_fx I A I28a A28a := f30
          exact Or.inr (Or.inr (⟨I28a, A28a, B28a, C28a, rfl, hR28a, (show m_fx I A I28a A28a by exact f30)⟩))
      · have h8 : ¬ (y20_2 < 0) := h8
        show w_W _ _ _ (24, [(0, .ref 43), (1, .int (Int32.ofInt ((A 46) ((I 2774))))), (2, .int (Int32.ofInt (y20_2)))], [], M) _
        refine w_adv (n := 1) (F' := (25, [(0, .ref 43), (1, .int (Int32.ofInt ((A 46) ((I 2774))))), (2, .int (Int32.ofInt (y20_2)))], [.ref 43], M)) rfl ?_
        refine w_gf (v := .ref 63) hR rfl rfl rfl rfl ?_
        refine w_adv (n := 1) (F' := (29, [(0, .ref 43), (1, .int (Int32.ofInt ((A 46) ((I 2774))))), (2, .int (Int32.ofInt (y20_2)))], [.ref 43, .ref 63], M)) rfl ?_
        refine w_gf (v := .ref 67) hR rfl rfl rfl rfl ?_
        refine w_adv (n := 1) (F' := (33, [(0, .ref 43), (1, .int (Int32.ofInt ((A 46) ((I 2774))))), (2, .int (Int32.ofInt (y20_2)))], [.int (Int32.ofInt (y20_2)), .ref 67, .ref 63], M)) rfl ?_
        have q1 := hSC.1
        refine w_call (cm := 238) (as := [(0, .ref 67), (1, .int (Int32.ofInt (y20_2)))]) (rest := [.ref 63]) (o := some (10, 67)) rfl (w_fitR hR rfl) (m_get (y20_2) 67 (by decide) rfl hR ⟨by omega, by omega⟩ (show 0 ≤ y20_2 by first | assumption | omega) (show y20_2 < (C 67 : Int) by first | assumption | omega)) (fun r31 M32 q33 => ?_)
        rcases q33 with ⟨e34, e35⟩
        rw [e34, e35]
        obtain ⟨r36, r37⟩ : -2147483648 ≤ (A 67) (y20_2) ∧ (A 67) (y20_2) ≤ 2147483647 := hR.ra 67 (y20_2)
        obtain ⟨u1, u2⟩ := hSC.1 (y20_2) (by omega) (by omega)
        show w_W _ _ _ (36, [(0, .ref 43), (1, .int (Int32.ofInt ((A 46) ((I 2774))))), (2, .int (Int32.ofInt (y20_2)))], [.int (Int32.ofInt ((A 67) (y20_2))), .ref 63], M) _
        obtain ⟨r38a, r38b, r38c⟩ : 0 ≤ (I 4033) ∧ (I 4033) ≤ (C 63 : Int) ∧ (C 63 : Int) ≤ 131072 := hR.sz (show 63 ∈ w_TM.2.2 by decide)
        refine w_call (cm := 238) (as := [(0, .ref 63), (1, .int (Int32.ofInt ((A 67) (y20_2))))]) (rest := []) (o := some (10, 63)) rfl (w_fitR hR rfl) (m_get ((A 67) (y20_2)) 63 (by decide) rfl hR ⟨by omega, by omega⟩ (show 0 ≤ (A 67) (y20_2) by first | assumption | omega) (show (A 67) (y20_2) < (C 63 : Int) by first | assumption | omega)) (fun r39 M40 q41 => ?_)
        rcases q41 with ⟨e42, e43⟩
        rw [e42, e43]
        obtain ⟨r44, r45⟩ : -2147483648 ≤ (A 63) ((A 67) (y20_2)) ∧ (A 63) ((A 67) (y20_2)) ≤ 2147483647 := hR.ra 63 ((A 67) (y20_2))
        show w_W _ _ _ (39, [(0, .ref 43), (1, .int (Int32.ofInt ((A 46) ((I 2774))))), (2, .int (Int32.ofInt (y20_2)))], [.int (Int32.ofInt ((A 63) ((A 67) (y20_2))))], M) _
        refine w_adv (n := 1) (F' := (40, [(0, .ref 43), (1, .int (Int32.ofInt ((A 46) ((I 2774))))), (2, .int (Int32.ofInt (y20_2)))], [.int (Int32.ofInt ((A 46) ((I 2774)))), .int (Int32.ofInt ((A 63) ((A 67) (y20_2))))], M)) rfl ?_
        refine w_br2 (a := (A 63) ((A 67) (y20_2))) (b := (A 46) ((I 2774))) rfl rfl ⟨by omega, by omega⟩ ⟨by omega, by omega⟩ (fun h46 => ?_) (fun h46 => ?_)
        · have h46 : (A 63) ((A 67) (y20_2)) = (A 46) ((I 2774)) := h46
          show w_W _ _ _ (49, [(0, .ref 43), (1, .int (Int32.ofInt ((A 46) ((I 2774))))), (2, .int (Int32.ofInt (y20_2)))], [], M) _
          refine w_adv (n := 1) (F' := (50, [(0, .ref 43), (1, .int (Int32.ofInt ((A 46) ((I 2774))))), (2, .int (Int32.ofInt (y20_2)))], [.int (Int32.ofInt (y20_2))], M)) rfl ?_
          refine w_br1 (a := y20_2) rfl rfl ⟨by omega, by omega⟩ (fun h47 => ?_) (fun h47 => ?_)
          · have h47 : y20_2 ≥ 0 := h47
            show w_W _ _ _ (58, [(0, .ref 43), (1, .int (Int32.ofInt ((A 46) ((I 2774))))), (2, .int (Int32.ofInt (y20_2)))], [], M) _
            refine w_adv (n := 1) (F' := (59, [(0, .ref 43), (1, .int (Int32.ofInt ((A 46) ((I 2774))))), (2, .int (Int32.ofInt (y20_2)))], [.ref 43], M)) rfl ?_
            refine w_gf (v := .ref 67) hR rfl rfl rfl rfl ?_
            refine w_adv (n := 1) (F' := (63, [(0, .ref 43), (1, .int (Int32.ofInt ((A 46) ((I 2774))))), (2, .int (Int32.ofInt (y20_2)))], [.int (Int32.ofInt (y20_2)), .ref 67], M)) rfl ?_
            refine w_call (cm := 238) (as := [(0, .ref 67), (1, .int (Int32.ofInt (y20_2)))]) (rest := []) (o := some (10, 67)) rfl (w_fitR hR rfl) (m_get (y20_2) 67 (by decide) rfl hR ⟨by omega, by omega⟩ (show 0 ≤ y20_2 by first | assumption | omega) (show y20_2 < (C 67 : Int) by first | assumption | omega)) (fun r48 M49 q50 => ?_)
            rcases q50 with ⟨e51, e52⟩
            rw [e51, e52]
            obtain ⟨u1, u2⟩ := hSC.1 (y20_2) (by omega) (by omega)
            show w_W _ _ _ (66, [(0, .ref 43), (1, .int (Int32.ofInt ((A 46) ((I 2774))))), (2, .int (Int32.ofInt (y20_2)))], [.int (Int32.ofInt ((A 67) (y20_2)))], M) _
            refine w_adv (n := 3) (F' := (69, [(3, .int (Int32.ofInt ((A 67) (y20_2)))), (0, .ref 43), (1, .int (Int32.ofInt ((A 46) ((I 2774))))), (2, .int (Int32.ofInt (y20_2)))], [.int (Int32.ofInt (3)), .int (Int32.ofInt ((A 67) (y20_2)))], M)) rfl ?_
            refine w_br2 (a := (A 67) (y20_2)) (b := 3) rfl rfl ⟨by omega, by omega⟩ ⟨by omega, by omega⟩ (fun h53 => ?_) (fun h53 => ?_)
            · have h53 : (A 67) (y20_2) < 3 := h53
              show w_W _ _ _ (88, [(3, .int (Int32.ofInt ((A 67) (y20_2)))), (0, .ref 43), (1, .int (Int32.ofInt ((A 46) ((I 2774))))), (2, .int (Int32.ofInt (y20_2)))], [], M) _
              refine w_adv (n := 1) (F' := (89, [(3, .int (Int32.ofInt ((A 67) (y20_2)))), (0, .ref 43), (1, .int (Int32.ofInt ((A 46) ((I 2774))))), (2, .int (Int32.ofInt (y20_2)))], [.int (Int32.ofInt ((A 67) (y20_2)))], M)) rfl ?_
              refine w_fin (r := .inl (some ((A 67) (y20_2)))) (M' := M) rfl ?_
              first
                | exact Or.inl ⟨(A 67) (y20_2), rfl, ⟨by omega, by omega⟩, rfl, (show 0 ≤ (A 67) (y20_2) ∧ (A 67) (y20_2) < (I 4033) by first | assumption | omega)⟩
                | exact Or.inr (Or.inl ⟨(A 67) (y20_2), (I 2776), rfl, ⟨by omega, by omega⟩, (w_Rep.up hR (show (w_up I 2776 ((I 2776))) = I from (funext fun s => if e0 : s = 2776 then (by subst e0; rfl) else (by simp only [w_up_ne e0]))) (show A = A from rfl)), (show 0 ≤ (A 67) (y20_2) ∧ (A 67) (y20_2) < (I 4033) by first | assumption | omega)⟩)
            · have h53 : ¬ ((A 67) (y20_2) < 3) := h53
              show w_W _ _ _ (72, [(3, .int (Int32.ofInt ((A 67) (y20_2)))), (0, .ref 43), (1, .int (Int32.ofInt ((A 46) ((I 2774))))), (2, .int (Int32.ofInt (y20_2)))], [], M) _
              refine w_adv (n := 2) (F' := (75, [(3, .int (Int32.ofInt ((A 67) (y20_2)))), (0, .ref 43), (1, .int (Int32.ofInt ((A 46) ((I 2774))))), (2, .int (Int32.ofInt (y20_2)))], [.int (Int32.ofInt (7)), .int (Int32.ofInt ((A 67) (y20_2)))], M)) rfl ?_
              refine w_br2 (a := (A 67) (y20_2)) (b := 7) rfl rfl ⟨by omega, by omega⟩ ⟨by omega, by omega⟩ (fun h54 => ?_) (fun h54 => ?_)
              · have h54 : (A 67) (y20_2) ≥ 7 := h54
                show w_W _ _ _ (88, [(3, .int (Int32.ofInt ((A 67) (y20_2)))), (0, .ref 43), (1, .int (Int32.ofInt ((A 46) ((I 2774))))), (2, .int (Int32.ofInt (y20_2)))], [], M) _
                refine w_adv (n := 1) (F' := (89, [(3, .int (Int32.ofInt ((A 67) (y20_2)))), (0, .ref 43), (1, .int (Int32.ofInt ((A 46) ((I 2774))))), (2, .int (Int32.ofInt (y20_2)))], [.int (Int32.ofInt ((A 67) (y20_2)))], M)) rfl ?_
                refine w_fin (r := .inl (some ((A 67) (y20_2)))) (M' := M) rfl ?_
                first
                  | exact Or.inl ⟨(A 67) (y20_2), rfl, ⟨by omega, by omega⟩, rfl, (show 0 ≤ (A 67) (y20_2) ∧ (A 67) (y20_2) < (I 4033) by first | assumption | omega)⟩
                  | exact Or.inr (Or.inl ⟨(A 67) (y20_2), (I 2776), rfl, ⟨by omega, by omega⟩, (w_Rep.up hR (show (w_up I 2776 ((I 2776))) = I from (funext fun s => if e0 : s = 2776 then (by subst e0; rfl) else (by simp only [w_up_ne e0]))) (show A = A from rfl)), (show 0 ≤ (A 67) (y20_2) ∧ (A 67) (y20_2) < (I 4033) by first | assumption | omega)⟩)
              · have h54 : ¬ ((A 67) (y20_2) ≥ 7) := h54
                show w_W _ _ _ (78, [(3, .int (Int32.ofInt ((A 67) (y20_2)))), (0, .ref 43), (1, .int (Int32.ofInt ((A 46) ((I 2774))))), (2, .int (Int32.ofInt (y20_2)))], [], M) _
                refine w_adv (n := 2) (F' := (80, [(3, .int (Int32.ofInt ((A 67) (y20_2)))), (0, .ref 43), (1, .int (Int32.ofInt ((A 46) ((I 2774))))), (2, .int (Int32.ofInt (y20_2)))], [.ref 43, .ref 43], M)) rfl ?_
                refine w_gf (v := .int (Int32.ofInt ((I 2776)))) hR rfl rfl rfl rfl ?_
                obtain ⟨r55, r56⟩ : -2147483648 ≤ (I 2776) ∧ (I 2776) ≤ 2147483647 := hR.ri 2776
                refine w_adv (n := 2) (F' := (85, [(3, .int (Int32.ofInt ((A 67) (y20_2)))), (0, .ref 43), (1, .int (Int32.ofInt ((A 46) ((I 2774))))), (2, .int (Int32.ofInt (y20_2)))], [.int ((Int32.ofInt ((I 2776))) ||| (Int32.ofInt (1))), .ref 43], M)) rfl ?_
                refine w_int (fun x57 r58 e59 => ?_)
                obtain ⟨r58a, r58b⟩ := r58
                refine w_pf hR rfl rfl rfl rfl (show w_in (x57) from ⟨by omega, by omega⟩) (fun h => absurd h (by decide)) (fun M60 hR61 => ?_)
                replace hR61 : w_Rep w_TM fr X u l (w_up I 2776 (x57)) A B C M60 := hR61
                refine w_adv (n := 1) (F' := (89, [(3, .int (Int32.ofInt ((A 67) (y20_2)))), (0, .ref 43), (1, .int (Int32.ofInt ((A 46) ((I 2774))))), (2, .int (Int32.ofInt (y20_2)))], [.int (Int32.ofInt ((A 67) (y20_2)))], M60)) rfl ?_
                refine w_fin (r := .inl (some ((A 67) (y20_2)))) (M' := M60) rfl ?_
                exact Or.inr (Or.inl ⟨(A 67) (y20_2), x57, rfl, ⟨by omega, by omega⟩, hR61, (show 0 ≤ (A 67) (y20_2) ∧ (A 67) (y20_2) < (I 4033) by first | assumption | omega)⟩)
          · have h47 : ¬ (y20_2 ≥ 0) := h47
            show w_W _ _ _ (53, [(0, .ref 43), (1, .int (Int32.ofInt ((A 46) ((I 2774))))), (2, .int (Int32.ofInt (y20_2)))], [], M) _
            refine w_adv (n := 2) (F' := (55, [(0, .ref 43), (1, .int (Int32.ofInt ((A 46) ((I 2774))))), (2, .int (Int32.ofInt (y20_2)))], [.int (Int32.ofInt (3)), .ref 43], M)) rfl ?_
            refine w_call (cm := 232) (as := [(0, .ref 43), (1, .int (Int32.ofInt (3)))]) (rest := []) (o := some (9, 43)) rfl (w_fitR hR rfl) (m_fail (3) hR ⟨by omega, by omega⟩ (show 0 ≤ (I 2774) ∧ (I 2774) < 1501 by omega) (show 1 ≤ 3 ∧ 3 ≤ 7 by first | assumption | omega)) (fun r62 M63 q64 => ?_)
            rcases q64 with ⟨I64a, A64a, B64a, C64a, e65, hR64a, f66⟩
            rw [e65]
            replace hR64a : w_Rep w_TM fr X u l I64a A64a B64a C64a M63 := hR64a
            replace f66 : m_fx I A I64a A64a := f66
            exact Or.inr (Or.inr (⟨I64a, A64a, B64a, C64a, rfl, hR64a, (show m_fx I A I64a A64a by exact f66)⟩))
        · have h46 : ¬ ((A 63) ((A 67) (y20_2)) = (A 46) ((I 2774))) := h46
          show w_W _ _ _ (43, [(0, .ref 43), (1, .int (Int32.ofInt ((A 46) ((I 2774))))), (2, .int (Int32.ofInt (y20_2)))], [], M) _
          refine w_inc (nL := 4) (a := y20_2) rfl rfl rfl (by decide) ?_
          refine w_adv (n := 1) (F' := (20, [(2, .int (Int32.ofInt (y20_2 + (-1)))), (0, .ref 43), (1, .int (Int32.ofInt ((A 46) ((I 2774)))))], [], M)) rfl ?_
          refine w_ls (ls := [(0, .ref 43), (1, .int (Int32.ofInt ((A 46) ((I 2774))))), (2, .int (Int32.ofInt (y20_2 + (-1))))]) (show List.Nodup [0, 1, 2] by decide) (show List.Nodup [2, 0, 1] by decide) (List.forall_mem_cons.mpr ⟨(List.Mem.tail _ (List.Mem.head _)), (List.forall_mem_cons.mpr ⟨(List.Mem.tail _ (List.Mem.tail _ (List.Mem.head _))), (List.forall_mem_cons.mpr ⟨(List.Mem.head _), (fun _ h => by cases h)⟩)⟩)⟩) ?_
          exact ih20  (y20_2 + (-1)) ⟨by omega, by omega⟩ (show -1 ≤ y20_2 + (-1) ∧ y20_2 + (-1) < (I 4289) by first | assumption | omega) (by omega)
  refine w_ls (ls := [(0, .ref 43), (1, .int (Int32.ofInt ((A 46) ((I 2774))))), (2, .int (Int32.ofInt ((I 4289) - 1)))]) (show List.Nodup [0, 1, 2] by decide) (show List.Nodup [2, 1, 0] by decide) (List.forall_mem_cons.mpr ⟨(List.Mem.tail _ (List.Mem.tail _ (List.Mem.head _))), (List.forall_mem_cons.mpr ⟨(List.Mem.tail _ (List.Mem.head _)), (List.forall_mem_cons.mpr ⟨(List.Mem.head _), (fun _ h => by cases h)⟩)⟩)⟩) ?_
  exact lp20 (((I 4289) - 1 + 1).toNat + 1)  ((I 4289) - 1) ⟨by omega, by omega⟩ (show -1 ≤ (I 4289) - 1 ∧ (I 4289) - 1 < (I 4289) by first | assumption | omega) (by omega)
def m_link_Q (fr : Nat → Bool) (X : Nat → Option (q_C (Nat → Int32))) (u l : Nat) (I : Nat → Int) (A : Nat → Int → Int) (B C : Nat → Nat) (M : w_M) (first : Int) (last : Int) (n : Int) : w_X → w_M → Prop := fun r M' => ((r = .inl (some n)) ∧ (M' = M) ∧ (first < 0)) ∨ ((r = .inl (some first)) ∧ (w_Rep w_TM fr X u l I (w_upF A 61 (w_upA (A 61) (last) (n))) B C M') ∧ (0 ≤ first))
set_option maxHeartbeats 100000000 in
set_option maxRecDepth 100000 in
theorem m_link {L : Nat} {xs : Nat → Int32} {d : Nat} {fr : Nat → Bool} {X : Nat → Option (q_C (Nat → Int32))} {u l : Nat} {I : Nat → Int} {A : Nat → Int → Int} {B C : Nat → Nat} {M : w_M} (first : Int) (last : Int) (n : Int) (hR : w_Rep w_TM fr X u l I A B C M) (r_first : w_in first) (r_last : w_in last) (r_n : w_in n) (hl : first < 0 ∨ (0 ≤ last ∧ last < (I 3905))) : w_W (z_P L xs) d 240 (0, [(0, .ref 43), (1, .int (Int32.ofInt (first))), (2, .int (Int32.ofInt (last))), (3, .int (Int32.ofInt (n)))], [], M) (m_link_Q fr X u l I A B C M first last n) := by
  obtain ⟨ra_first, rb_first⟩ := r_first
  obtain ⟨ra_last, rb_last⟩ := r_last
  obtain ⟨ra_n, rb_n⟩ := r_n
  refine w_adv (n := 1) (F' := (1, [(0, .ref 43), (1, .int (Int32.ofInt (first))), (2, .int (Int32.ofInt (last))), (3, .int (Int32.ofInt (n)))], [.int (Int32.ofInt (first))], M)) rfl ?_
  refine w_br1 (a := first) rfl rfl ⟨by omega, by omega⟩ (fun h1 => ?_) (fun h1 => ?_)
  · have h1 : first < 0 := h1
    show w_W _ _ _ (14, [(0, .ref 43), (1, .int (Int32.ofInt (first))), (2, .int (Int32.ofInt (last))), (3, .int (Int32.ofInt (n)))], [], M) _
    refine w_adv (n := 1) (F' := (15, [(0, .ref 43), (1, .int (Int32.ofInt (first))), (2, .int (Int32.ofInt (last))), (3, .int (Int32.ofInt (n)))], [.int (Int32.ofInt (first))], M)) rfl ?_
    refine w_br1 (a := first) rfl rfl ⟨by omega, by omega⟩ (fun h2 => ?_) (fun h2 => ?_)
    · have h2 : first ≥ 0 := h2
      exfalso; omega
    · have h2 : ¬ (first ≥ 0) := h2
      show w_W _ _ _ (18, [(0, .ref 43), (1, .int (Int32.ofInt (first))), (2, .int (Int32.ofInt (last))), (3, .int (Int32.ofInt (n)))], [], M) _
      refine w_adv (n := 2) (F' := (23, [(0, .ref 43), (1, .int (Int32.ofInt (first))), (2, .int (Int32.ofInt (last))), (3, .int (Int32.ofInt (n)))], [.int (Int32.ofInt (n))], M)) rfl ?_
      refine w_fin (r := .inl (some (n))) (M' := M) rfl ?_
      first
        | exact Or.inl ⟨rfl, rfl, (show first < 0 by first | assumption | omega)⟩
        | exact Or.inr (⟨rfl, (w_Rep.up hR (show I = I from rfl) (show (w_upF A 61 (w_upA (A 61) (last) (n))) = A from (funext fun s => if e0 : s = 61 then (by subst e0; rfl) else (by simp only [w_upF_ne e0])))), (show 0 ≤ first by first | assumption | omega)⟩)
  · have h1 : ¬ (first < 0) := h1
    show w_W _ _ _ (4, [(0, .ref 43), (1, .int (Int32.ofInt (first))), (2, .int (Int32.ofInt (last))), (3, .int (Int32.ofInt (n)))], [], M) _
    refine w_adv (n := 1) (F' := (5, [(0, .ref 43), (1, .int (Int32.ofInt (first))), (2, .int (Int32.ofInt (last))), (3, .int (Int32.ofInt (n)))], [.ref 43], M)) rfl ?_
    refine w_gf (v := .ref 61) hR rfl rfl rfl rfl ?_
    refine w_gf (v := .ref (B 61)) hR rfl rfl rfl rfl ?_
    refine w_adv (n := 2) (F' := (13, [(0, .ref 43), (1, .int (Int32.ofInt (first))), (2, .int (Int32.ofInt (last))), (3, .int (Int32.ofInt (n)))], [.int (Int32.ofInt (n)), .int (Int32.ofInt (last)), .ref (B 61)], M)) rfl ?_
    obtain ⟨r5a, r5b, r5c⟩ : 0 ≤ (I 3905) ∧ (I 3905) ≤ (C 61 : Int) ∧ (C 61 : Int) ≤ 131072 := hR.sz (show 61 ∈ w_TM.2.2 by decide)
    refine w_sr hR rfl (by decide) (show 0 ≤ last by omega) (show last < (C 61 : Int) by omega) (show w_in (n) from ⟨by omega, by omega⟩) (fun M3 hR4 => ?_)
    replace hR4 : w_Rep w_TM fr X u l I (w_upF A 61 (w_upA (A 61) (last) (n))) B C M3 := hR4
    refine w_adv (n := 1) (F' := (15, [(0, .ref 43), (1, .int (Int32.ofInt (first))), (2, .int (Int32.ofInt (last))), (3, .int (Int32.ofInt (n)))], [.int (Int32.ofInt (first))], M3)) rfl ?_
    refine w_br1 (a := first) rfl rfl ⟨by omega, by omega⟩ (fun h6 => ?_) (fun h6 => ?_)
    · have h6 : first ≥ 0 := h6
      show w_W _ _ _ (22, [(0, .ref 43), (1, .int (Int32.ofInt (first))), (2, .int (Int32.ofInt (last))), (3, .int (Int32.ofInt (n)))], [], M3) _
      refine w_adv (n := 1) (F' := (23, [(0, .ref 43), (1, .int (Int32.ofInt (first))), (2, .int (Int32.ofInt (last))), (3, .int (Int32.ofInt (n)))], [.int (Int32.ofInt (first))], M3)) rfl ?_
      refine w_fin (r := .inl (some (first))) (M' := M3) rfl ?_
      exact Or.inr (⟨rfl, hR4, (show 0 ≤ first by first | assumption | omega)⟩)
    · have h6 : ¬ (first ≥ 0) := h6
      exfalso; omega
def m_be (k n : Int) : Prop := k = 4 ∨ k = 1 ∨ k = 2 ∨ k = 3 ∨ (k = 6 ∧ (n = 91 ∨ n = 40 ∨ n = 123)) ∨ (k = 5 ∧ (n = 10 ∨ n = 11 ∨ n = 1 ∨ n = 4 ∨ n = 7 ∨ n = 12))
def m_bi (k n : Int) : Prop := m_be k n ∨ (k = 5 ∧ (n = 0 ∨ n = 13 ∨ n = 15 ∨ n = 16))
def m_beginsExp_Q (fr : Nat → Bool) (X : Nat → Option (q_C (Nat → Int32))) (u l : Nat) (I : Nat → Int) (A : Nat → Int → Int) (B C : Nat → Nat) (M : w_M) : w_X → w_M → Prop := fun r M' => ((r = .inl (some 1)) ∧ (M' = M) ∧ (1 ≤ (A 45) ((I 2774)) ∧ (A 45) ((I 2774)) ≤ 6) ∧ (m_be ((A 45) ((I 2774))) ((A 46) ((I 2774))))) ∨ ((r = .inl (some 0)) ∧ (M' = M) ∧ (¬ m_be ((A 45) ((I 2774))) ((A 46) ((I 2774)))))
set_option maxHeartbeats 100000000 in
set_option maxRecDepth 100000 in
theorem m_beginsExp {L : Nat} {xs : Nat → Int32} {d : Nat} {fr : Nat → Bool} {X : Nat → Option (q_C (Nat → Int32))} {u l : Nat} {I : Nat → Int} {A : Nat → Int → Int} {B C : Nat → Nat} {M : w_M} (hR : w_Rep w_TM fr X u l I A B C M) (hd : 3 ≤ d) (hTK : m_TK I A) (hNU : (0 ≤ (I 2774) ∧ (I 2774) < (I 2754) ∧ (I 2754) ≤ 1501 ∧ 0 ≤ (I 2775) ∧ (I 2775) ≤ 24) ∧ ((I 3393) = (I 3905) ∧ (I 3521) = (I 3905) ∧ (I 3649) = (I 3905) ∧ (I 3777) = (I 3905) ∧ 0 ≤ (I 3905) ∧ (I 3905) ≤ 3 * (I 2774)) ∧ ((I 4161) = (I 4033) ∧ 7 ≤ (I 4289) ∧ (I 4289) ≤ (I 4033) ∧ (I 4033) ≤ 7 + (I 2774)) ∧ 0 ≤ (I 5889) ∧ (I 5889) ≤ (I 2774)) : w_W (z_P L xs) d 229 (0, [(0, .ref 43)], [], M) (m_beginsExp_Q fr X u l I A B C M) := by
  obtain ⟨d, rfl⟩ : ∃ d0, d = d0 + 1 := ⟨d - 1, by omega⟩
  refine w_adv (n := 1) (F' := (1, [(0, .ref 43)], [.ref 43], M)) rfl ?_
  refine w_gf (v := .ref 45) hR rfl rfl rfl rfl ?_
  refine w_adv (n := 1) (F' := (5, [(0, .ref 43)], [.ref 43, .ref 45], M)) rfl ?_
  refine w_gf (v := .int (Int32.ofInt ((I 2774)))) hR rfl rfl rfl rfl ?_
  obtain ⟨r1, r2⟩ : -2147483648 ≤ (I 2774) ∧ (I 2774) ≤ 2147483647 := hR.ri 2774
  refine w_la (n := 1502) hR rfl (Or.inl ⟨rfl, rfl⟩) rfl (show 0 ≤ (I 2774) by omega) (show (I 2774) < (1502 : Int) by omega) (by decide) ?_
  obtain ⟨r3, r4⟩ : -2147483648 ≤ (A 45) ((I 2774)) ∧ (A 45) ((I 2774)) ≤ 2147483647 := hR.ra 45 ((I 2774))
  show w_W _ _ _ (9, [(0, .ref 43)], [.int (Int32.ofInt ((A 45) ((I 2774))))], M) _
  refine w_adv (n := 3) (F' := (12, [(1, .int (Int32.ofInt ((A 45) ((I 2774))))), (0, .ref 43)], [.int (Int32.ofInt (4)), .int (Int32.ofInt ((A 45) ((I 2774))))], M)) rfl ?_
  refine w_br2 (a := (A 45) ((I 2774))) (b := 4) rfl rfl ⟨by omega, by omega⟩ ⟨by omega, by omega⟩ (fun h5 => ?_) (fun h5 => ?_)
  · have h5 : (A 45) ((I 2774)) = 4 := h5
    have w6 : (I 2774) + 1 < (I 2754) := m_TK_lt hTK (by omega) (by omega) (by omega)
    show w_W _ _ _ (109, [(1, .int (Int32.ofInt ((A 45) ((I 2774))))), (0, .ref 43)], [], M) _
    refine w_adv (n := 2) (F' := (114, [(1, .int (Int32.ofInt ((A 45) ((I 2774))))), (0, .ref 43)], [.int (Int32.ofInt (1))], M)) rfl ?_
    refine w_fin (r := .inl (some (1))) (M' := M) rfl ?_
    exact Or.inl ⟨rfl, rfl, (show 1 ≤ (A 45) ((I 2774)) ∧ (A 45) ((I 2774)) ≤ 6 by first | assumption | omega), (show m_be ((A 45) ((I 2774))) ((A 46) ((I 2774))) by unfold m_be; omega)⟩
  · have h5 : ¬ ((A 45) ((I 2774)) = 4) := h5
    show w_W _ _ _ (15, [(1, .int (Int32.ofInt ((A 45) ((I 2774))))), (0, .ref 43)], [], M) _
    refine w_adv (n := 2) (F' := (17, [(1, .int (Int32.ofInt ((A 45) ((I 2774))))), (0, .ref 43)], [.int (Int32.ofInt (1)), .int (Int32.ofInt ((A 45) ((I 2774))))], M)) rfl ?_
    refine w_br2 (a := (A 45) ((I 2774))) (b := 1) rfl rfl ⟨by omega, by omega⟩ ⟨by omega, by omega⟩ (fun h7 => ?_) (fun h7 => ?_)
    · have h7 : (A 45) ((I 2774)) = 1 := h7
      have w8 : (I 2774) + 1 < (I 2754) := m_TK_lt hTK (by omega) (by omega) (by omega)
      show w_W _ _ _ (109, [(1, .int (Int32.ofInt ((A 45) ((I 2774))))), (0, .ref 43)], [], M) _
      refine w_adv (n := 2) (F' := (114, [(1, .int (Int32.ofInt ((A 45) ((I 2774))))), (0, .ref 43)], [.int (Int32.ofInt (1))], M)) rfl ?_
      refine w_fin (r := .inl (some (1))) (M' := M) rfl ?_
      exact Or.inl ⟨rfl, rfl, (show 1 ≤ (A 45) ((I 2774)) ∧ (A 45) ((I 2774)) ≤ 6 by first | assumption | omega), (show m_be ((A 45) ((I 2774))) ((A 46) ((I 2774))) by unfold m_be; omega)⟩
    · have h7 : ¬ ((A 45) ((I 2774)) = 1) := h7
      show w_W _ _ _ (20, [(1, .int (Int32.ofInt ((A 45) ((I 2774))))), (0, .ref 43)], [], M) _
      refine w_adv (n := 2) (F' := (22, [(1, .int (Int32.ofInt ((A 45) ((I 2774))))), (0, .ref 43)], [.int (Int32.ofInt (2)), .int (Int32.ofInt ((A 45) ((I 2774))))], M)) rfl ?_
      refine w_br2 (a := (A 45) ((I 2774))) (b := 2) rfl rfl ⟨by omega, by omega⟩ ⟨by omega, by omega⟩ (fun h9 => ?_) (fun h9 => ?_)
      · have h9 : (A 45) ((I 2774)) = 2 := h9
        have w10 : (I 2774) + 1 < (I 2754) := m_TK_lt hTK (by omega) (by omega) (by omega)
        show w_W _ _ _ (109, [(1, .int (Int32.ofInt ((A 45) ((I 2774))))), (0, .ref 43)], [], M) _
        refine w_adv (n := 2) (F' := (114, [(1, .int (Int32.ofInt ((A 45) ((I 2774))))), (0, .ref 43)], [.int (Int32.ofInt (1))], M)) rfl ?_
        refine w_fin (r := .inl (some (1))) (M' := M) rfl ?_
        exact Or.inl ⟨rfl, rfl, (show 1 ≤ (A 45) ((I 2774)) ∧ (A 45) ((I 2774)) ≤ 6 by first | assumption | omega), (show m_be ((A 45) ((I 2774))) ((A 46) ((I 2774))) by unfold m_be; omega)⟩
      · have h9 : ¬ ((A 45) ((I 2774)) = 2) := h9
        show w_W _ _ _ (25, [(1, .int (Int32.ofInt ((A 45) ((I 2774))))), (0, .ref 43)], [], M) _
        refine w_adv (n := 2) (F' := (27, [(1, .int (Int32.ofInt ((A 45) ((I 2774))))), (0, .ref 43)], [.int (Int32.ofInt (3)), .int (Int32.ofInt ((A 45) ((I 2774))))], M)) rfl ?_
        refine w_br2 (a := (A 45) ((I 2774))) (b := 3) rfl rfl ⟨by omega, by omega⟩ ⟨by omega, by omega⟩ (fun h11 => ?_) (fun h11 => ?_)
        · have h11 : (A 45) ((I 2774)) = 3 := h11
          have w12 : (I 2774) + 1 < (I 2754) := m_TK_lt hTK (by omega) (by omega) (by omega)
          show w_W _ _ _ (109, [(1, .int (Int32.ofInt ((A 45) ((I 2774))))), (0, .ref 43)], [], M) _
          refine w_adv (n := 2) (F' := (114, [(1, .int (Int32.ofInt ((A 45) ((I 2774))))), (0, .ref 43)], [.int (Int32.ofInt (1))], M)) rfl ?_
          refine w_fin (r := .inl (some (1))) (M' := M) rfl ?_
          exact Or.inl ⟨rfl, rfl, (show 1 ≤ (A 45) ((I 2774)) ∧ (A 45) ((I 2774)) ≤ 6 by first | assumption | omega), (show m_be ((A 45) ((I 2774))) ((A 46) ((I 2774))) by unfold m_be; omega)⟩
        · have h11 : ¬ ((A 45) ((I 2774)) = 3) := h11
          show w_W _ _ _ (30, [(1, .int (Int32.ofInt ((A 45) ((I 2774))))), (0, .ref 43)], [], M) _
          refine w_adv (n := 2) (F' := (33, [(1, .int (Int32.ofInt ((A 45) ((I 2774))))), (0, .ref 43)], [.int (Int32.ofInt (91)), .ref 43], M)) rfl ?_
          refine w_call (cm := 230) (as := [(0, .ref 43), (1, .int (Int32.ofInt (91)))]) (rest := []) (o := some (9, 43)) rfl (w_fitR hR rfl) (m_isSign (91) hR ⟨by omega, by omega⟩ (show 0 ≤ (I 2774) ∧ (I 2774) < 1501 by omega)) (fun r13 M14 q15 => ?_)
          rcases q15 with ⟨e16, e17, f18⟩ | ⟨e19, e20, f21⟩
          · rw [e16, e17]
            replace f18 : (A 45) ((I 2774)) = 6 ∧ (A 46) ((I 2774)) = 91 := f18
            obtain ⟨n22, n23⟩ := id f18
            clear f18
            have w24 : (I 2774) + 1 < (I 2754) := m_TK_lt hTK (by omega) (by omega) (by omega)
            show w_W _ _ _ (36, [(1, .int (Int32.ofInt ((A 45) ((I 2774))))), (0, .ref 43)], [.int (Int32.ofInt (1))], M) _
            refine w_adv (n := 3) (F' := (114, [(1, .int (Int32.ofInt ((A 45) ((I 2774))))), (0, .ref 43)], [.int (Int32.ofInt (1))], M)) rfl ?_
            refine w_fin (r := .inl (some (1))) (M' := M) rfl ?_
            exact Or.inl ⟨rfl, rfl, (show 1 ≤ (A 45) ((I 2774)) ∧ (A 45) ((I 2774)) ≤ 6 by first | assumption | omega), (show m_be ((A 45) ((I 2774))) ((A 46) ((I 2774))) by unfold m_be; omega)⟩
          · rw [e19, e20]
            replace f21 : ¬ ((A 45) ((I 2774)) = 6 ∧ (A 46) ((I 2774)) = 91) := f21
            show w_W _ _ _ (36, [(1, .int (Int32.ofInt ((A 45) ((I 2774))))), (0, .ref 43)], [.int (Int32.ofInt (0))], M) _
            refine w_adv (n := 3) (F' := (42, [(1, .int (Int32.ofInt ((A 45) ((I 2774))))), (0, .ref 43)], [.int (Int32.ofInt (40)), .ref 43], M)) rfl ?_
            refine w_call (cm := 230) (as := [(0, .ref 43), (1, .int (Int32.ofInt (40)))]) (rest := []) (o := some (9, 43)) rfl (w_fitR hR rfl) (m_isSign (40) hR ⟨by omega, by omega⟩ (show 0 ≤ (I 2774) ∧ (I 2774) < 1501 by omega)) (fun r25 M26 q27 => ?_)
            rcases q27 with ⟨e28, e29, f30⟩ | ⟨e31, e32, f33⟩
            · rw [e28, e29]
              replace f30 : (A 45) ((I 2774)) = 6 ∧ (A 46) ((I 2774)) = 40 := f30
              obtain ⟨n34, n35⟩ := id f30
              clear f30
              have w36 : (I 2774) + 1 < (I 2754) := m_TK_lt hTK (by omega) (by omega) (by omega)
              show w_W _ _ _ (45, [(1, .int (Int32.ofInt ((A 45) ((I 2774))))), (0, .ref 43)], [.int (Int32.ofInt (1))], M) _
              refine w_adv (n := 3) (F' := (114, [(1, .int (Int32.ofInt ((A 45) ((I 2774))))), (0, .ref 43)], [.int (Int32.ofInt (1))], M)) rfl ?_
              refine w_fin (r := .inl (some (1))) (M' := M) rfl ?_
              exact Or.inl ⟨rfl, rfl, (show 1 ≤ (A 45) ((I 2774)) ∧ (A 45) ((I 2774)) ≤ 6 by first | assumption | omega), (show m_be ((A 45) ((I 2774))) ((A 46) ((I 2774))) by unfold m_be; omega)⟩
            · rw [e31, e32]
              replace f33 : ¬ ((A 45) ((I 2774)) = 6 ∧ (A 46) ((I 2774)) = 40) := f33
              show w_W _ _ _ (45, [(1, .int (Int32.ofInt ((A 45) ((I 2774))))), (0, .ref 43)], [.int (Int32.ofInt (0))], M) _
              refine w_adv (n := 3) (F' := (51, [(1, .int (Int32.ofInt ((A 45) ((I 2774))))), (0, .ref 43)], [.int (Int32.ofInt (123)), .ref 43], M)) rfl ?_
              refine w_call (cm := 230) (as := [(0, .ref 43), (1, .int (Int32.ofInt (123)))]) (rest := []) (o := some (9, 43)) rfl (w_fitR hR rfl) (m_isSign (123) hR ⟨by omega, by omega⟩ (show 0 ≤ (I 2774) ∧ (I 2774) < 1501 by omega)) (fun r37 M38 q39 => ?_)
              rcases q39 with ⟨e40, e41, f42⟩ | ⟨e43, e44, f45⟩
              · rw [e40, e41]
                replace f42 : (A 45) ((I 2774)) = 6 ∧ (A 46) ((I 2774)) = 123 := f42
                obtain ⟨n46, n47⟩ := id f42
                clear f42
                have w48 : (I 2774) + 1 < (I 2754) := m_TK_lt hTK (by omega) (by omega) (by omega)
                show w_W _ _ _ (54, [(1, .int (Int32.ofInt ((A 45) ((I 2774))))), (0, .ref 43)], [.int (Int32.ofInt (1))], M) _
                refine w_adv (n := 3) (F' := (114, [(1, .int (Int32.ofInt ((A 45) ((I 2774))))), (0, .ref 43)], [.int (Int32.ofInt (1))], M)) rfl ?_
                refine w_fin (r := .inl (some (1))) (M' := M) rfl ?_
                exact Or.inl ⟨rfl, rfl, (show 1 ≤ (A 45) ((I 2774)) ∧ (A 45) ((I 2774)) ≤ 6 by first | assumption | omega), (show m_be ((A 45) ((I 2774))) ((A 46) ((I 2774))) by unfold m_be; omega)⟩
              · rw [e43, e44]
                replace f45 : ¬ ((A 45) ((I 2774)) = 6 ∧ (A 46) ((I 2774)) = 123) := f45
                show w_W _ _ _ (54, [(1, .int (Int32.ofInt ((A 45) ((I 2774))))), (0, .ref 43)], [.int (Int32.ofInt (0))], M) _
                refine w_adv (n := 3) (F' := (60, [(1, .int (Int32.ofInt ((A 45) ((I 2774))))), (0, .ref 43)], [.int (Int32.ofInt (10)), .ref 43], M)) rfl ?_
                refine w_call (cm := 231) (as := [(0, .ref 43), (1, .int (Int32.ofInt (10)))]) (rest := []) (o := some (9, 43)) rfl (w_fitR hR rfl) (m_isWord (10) hR ⟨by omega, by omega⟩ (show 0 ≤ (I 2774) ∧ (I 2774) < 1501 by omega)) (fun r49 M50 q51 => ?_)
                rcases q51 with ⟨e52, e53, f54⟩ | ⟨e55, e56, f57⟩
                · rw [e52, e53]
                  replace f54 : (A 45) ((I 2774)) = 5 ∧ (A 46) ((I 2774)) = 10 := f54
                  obtain ⟨n58, n59⟩ := id f54
                  clear f54
                  have w60 : (I 2774) + 1 < (I 2754) := m_TK_lt hTK (by omega) (by omega) (by omega)
                  show w_W _ _ _ (63, [(1, .int (Int32.ofInt ((A 45) ((I 2774))))), (0, .ref 43)], [.int (Int32.ofInt (1))], M) _
                  refine w_adv (n := 3) (F' := (114, [(1, .int (Int32.ofInt ((A 45) ((I 2774))))), (0, .ref 43)], [.int (Int32.ofInt (1))], M)) rfl ?_
                  refine w_fin (r := .inl (some (1))) (M' := M) rfl ?_
                  exact Or.inl ⟨rfl, rfl, (show 1 ≤ (A 45) ((I 2774)) ∧ (A 45) ((I 2774)) ≤ 6 by first | assumption | omega), (show m_be ((A 45) ((I 2774))) ((A 46) ((I 2774))) by unfold m_be; omega)⟩
                · rw [e55, e56]
                  replace f57 : ¬ ((A 45) ((I 2774)) = 5 ∧ (A 46) ((I 2774)) = 10) := f57
                  show w_W _ _ _ (63, [(1, .int (Int32.ofInt ((A 45) ((I 2774))))), (0, .ref 43)], [.int (Int32.ofInt (0))], M) _
                  refine w_adv (n := 3) (F' := (69, [(1, .int (Int32.ofInt ((A 45) ((I 2774))))), (0, .ref 43)], [.int (Int32.ofInt (11)), .ref 43], M)) rfl ?_
                  refine w_call (cm := 231) (as := [(0, .ref 43), (1, .int (Int32.ofInt (11)))]) (rest := []) (o := some (9, 43)) rfl (w_fitR hR rfl) (m_isWord (11) hR ⟨by omega, by omega⟩ (show 0 ≤ (I 2774) ∧ (I 2774) < 1501 by omega)) (fun r61 M62 q63 => ?_)
                  rcases q63 with ⟨e64, e65, f66⟩ | ⟨e67, e68, f69⟩
                  · rw [e64, e65]
                    replace f66 : (A 45) ((I 2774)) = 5 ∧ (A 46) ((I 2774)) = 11 := f66
                    obtain ⟨n70, n71⟩ := id f66
                    clear f66
                    have w72 : (I 2774) + 1 < (I 2754) := m_TK_lt hTK (by omega) (by omega) (by omega)
                    show w_W _ _ _ (72, [(1, .int (Int32.ofInt ((A 45) ((I 2774))))), (0, .ref 43)], [.int (Int32.ofInt (1))], M) _
                    refine w_adv (n := 3) (F' := (114, [(1, .int (Int32.ofInt ((A 45) ((I 2774))))), (0, .ref 43)], [.int (Int32.ofInt (1))], M)) rfl ?_
                    refine w_fin (r := .inl (some (1))) (M' := M) rfl ?_
                    exact Or.inl ⟨rfl, rfl, (show 1 ≤ (A 45) ((I 2774)) ∧ (A 45) ((I 2774)) ≤ 6 by first | assumption | omega), (show m_be ((A 45) ((I 2774))) ((A 46) ((I 2774))) by unfold m_be; omega)⟩
                  · rw [e67, e68]
                    replace f69 : ¬ ((A 45) ((I 2774)) = 5 ∧ (A 46) ((I 2774)) = 11) := f69
                    show w_W _ _ _ (72, [(1, .int (Int32.ofInt ((A 45) ((I 2774))))), (0, .ref 43)], [.int (Int32.ofInt (0))], M) _
                    refine w_adv (n := 3) (F' := (77, [(1, .int (Int32.ofInt ((A 45) ((I 2774))))), (0, .ref 43)], [.int (Int32.ofInt (1)), .ref 43], M)) rfl ?_
                    refine w_call (cm := 231) (as := [(0, .ref 43), (1, .int (Int32.ofInt (1)))]) (rest := []) (o := some (9, 43)) rfl (w_fitR hR rfl) (m_isWord (1) hR ⟨by omega, by omega⟩ (show 0 ≤ (I 2774) ∧ (I 2774) < 1501 by omega)) (fun r73 M74 q75 => ?_)
                    rcases q75 with ⟨e76, e77, f78⟩ | ⟨e79, e80, f81⟩
                    · rw [e76, e77]
                      replace f78 : (A 45) ((I 2774)) = 5 ∧ (A 46) ((I 2774)) = 1 := f78
                      obtain ⟨n82, n83⟩ := id f78
                      clear f78
                      have w84 : (I 2774) + 1 < (I 2754) := m_TK_lt hTK (by omega) (by omega) (by omega)
                      show w_W _ _ _ (80, [(1, .int (Int32.ofInt ((A 45) ((I 2774))))), (0, .ref 43)], [.int (Int32.ofInt (1))], M) _
                      refine w_adv (n := 3) (F' := (114, [(1, .int (Int32.ofInt ((A 45) ((I 2774))))), (0, .ref 43)], [.int (Int32.ofInt (1))], M)) rfl ?_
                      refine w_fin (r := .inl (some (1))) (M' := M) rfl ?_
                      exact Or.inl ⟨rfl, rfl, (show 1 ≤ (A 45) ((I 2774)) ∧ (A 45) ((I 2774)) ≤ 6 by first | assumption | omega), (show m_be ((A 45) ((I 2774))) ((A 46) ((I 2774))) by unfold m_be; omega)⟩
                    · rw [e79, e80]
                      replace f81 : ¬ ((A 45) ((I 2774)) = 5 ∧ (A 46) ((I 2774)) = 1) := f81
                      show w_W _ _ _ (80, [(1, .int (Int32.ofInt ((A 45) ((I 2774))))), (0, .ref 43)], [.int (Int32.ofInt (0))], M) _
                      refine w_adv (n := 3) (F' := (85, [(1, .int (Int32.ofInt ((A 45) ((I 2774))))), (0, .ref 43)], [.int (Int32.ofInt (4)), .ref 43], M)) rfl ?_
                      refine w_call (cm := 231) (as := [(0, .ref 43), (1, .int (Int32.ofInt (4)))]) (rest := []) (o := some (9, 43)) rfl (w_fitR hR rfl) (m_isWord (4) hR ⟨by omega, by omega⟩ (show 0 ≤ (I 2774) ∧ (I 2774) < 1501 by omega)) (fun r85 M86 q87 => ?_)
                      rcases q87 with ⟨e88, e89, f90⟩ | ⟨e91, e92, f93⟩
                      · rw [e88, e89]
                        replace f90 : (A 45) ((I 2774)) = 5 ∧ (A 46) ((I 2774)) = 4 := f90
                        obtain ⟨n94, n95⟩ := id f90
                        clear f90
                        have w96 : (I 2774) + 1 < (I 2754) := m_TK_lt hTK (by omega) (by omega) (by omega)
                        show w_W _ _ _ (88, [(1, .int (Int32.ofInt ((A 45) ((I 2774))))), (0, .ref 43)], [.int (Int32.ofInt (1))], M) _
                        refine w_adv (n := 3) (F' := (114, [(1, .int (Int32.ofInt ((A 45) ((I 2774))))), (0, .ref 43)], [.int (Int32.ofInt (1))], M)) rfl ?_
                        refine w_fin (r := .inl (some (1))) (M' := M) rfl ?_
                        exact Or.inl ⟨rfl, rfl, (show 1 ≤ (A 45) ((I 2774)) ∧ (A 45) ((I 2774)) ≤ 6 by first | assumption | omega), (show m_be ((A 45) ((I 2774))) ((A 46) ((I 2774))) by unfold m_be; omega)⟩
                      · rw [e91, e92]
                        replace f93 : ¬ ((A 45) ((I 2774)) = 5 ∧ (A 46) ((I 2774)) = 4) := f93
                        show w_W _ _ _ (88, [(1, .int (Int32.ofInt ((A 45) ((I 2774))))), (0, .ref 43)], [.int (Int32.ofInt (0))], M) _
                        refine w_adv (n := 3) (F' := (94, [(1, .int (Int32.ofInt ((A 45) ((I 2774))))), (0, .ref 43)], [.int (Int32.ofInt (7)), .ref 43], M)) rfl ?_
                        refine w_call (cm := 231) (as := [(0, .ref 43), (1, .int (Int32.ofInt (7)))]) (rest := []) (o := some (9, 43)) rfl (w_fitR hR rfl) (m_isWord (7) hR ⟨by omega, by omega⟩ (show 0 ≤ (I 2774) ∧ (I 2774) < 1501 by omega)) (fun r97 M98 q99 => ?_)
                        rcases q99 with ⟨e100, e101, f102⟩ | ⟨e103, e104, f105⟩
                        · rw [e100, e101]
                          replace f102 : (A 45) ((I 2774)) = 5 ∧ (A 46) ((I 2774)) = 7 := f102
                          obtain ⟨n106, n107⟩ := id f102
                          clear f102
                          have w108 : (I 2774) + 1 < (I 2754) := m_TK_lt hTK (by omega) (by omega) (by omega)
                          show w_W _ _ _ (97, [(1, .int (Int32.ofInt ((A 45) ((I 2774))))), (0, .ref 43)], [.int (Int32.ofInt (1))], M) _
                          refine w_adv (n := 3) (F' := (114, [(1, .int (Int32.ofInt ((A 45) ((I 2774))))), (0, .ref 43)], [.int (Int32.ofInt (1))], M)) rfl ?_
                          refine w_fin (r := .inl (some (1))) (M' := M) rfl ?_
                          exact Or.inl ⟨rfl, rfl, (show 1 ≤ (A 45) ((I 2774)) ∧ (A 45) ((I 2774)) ≤ 6 by first | assumption | omega), (show m_be ((A 45) ((I 2774))) ((A 46) ((I 2774))) by unfold m_be; omega)⟩
                        · rw [e103, e104]
                          replace f105 : ¬ ((A 45) ((I 2774)) = 5 ∧ (A 46) ((I 2774)) = 7) := f105
                          show w_W _ _ _ (97, [(1, .int (Int32.ofInt ((A 45) ((I 2774))))), (0, .ref 43)], [.int (Int32.ofInt (0))], M) _
                          refine w_adv (n := 3) (F' := (103, [(1, .int (Int32.ofInt ((A 45) ((I 2774))))), (0, .ref 43)], [.int (Int32.ofInt (12)), .ref 43], M)) rfl ?_
                          refine w_call (cm := 231) (as := [(0, .ref 43), (1, .int (Int32.ofInt (12)))]) (rest := []) (o := some (9, 43)) rfl (w_fitR hR rfl) (m_isWord (12) hR ⟨by omega, by omega⟩ (show 0 ≤ (I 2774) ∧ (I 2774) < 1501 by omega)) (fun r109 M110 q111 => ?_)
                          rcases q111 with ⟨e112, e113, f114⟩ | ⟨e115, e116, f117⟩
                          · rw [e112, e113]
                            replace f114 : (A 45) ((I 2774)) = 5 ∧ (A 46) ((I 2774)) = 12 := f114
                            obtain ⟨n118, n119⟩ := id f114
                            clear f114
                            have w120 : (I 2774) + 1 < (I 2754) := m_TK_lt hTK (by omega) (by omega) (by omega)
                            show w_W _ _ _ (106, [(1, .int (Int32.ofInt ((A 45) ((I 2774))))), (0, .ref 43)], [.int (Int32.ofInt (1))], M) _
                            refine w_adv (n := 3) (F' := (114, [(1, .int (Int32.ofInt ((A 45) ((I 2774))))), (0, .ref 43)], [.int (Int32.ofInt (1))], M)) rfl ?_
                            refine w_fin (r := .inl (some (1))) (M' := M) rfl ?_
                            exact Or.inl ⟨rfl, rfl, (show 1 ≤ (A 45) ((I 2774)) ∧ (A 45) ((I 2774)) ≤ 6 by first | assumption | omega), (show m_be ((A 45) ((I 2774))) ((A 46) ((I 2774))) by unfold m_be; omega)⟩
                          · rw [e115, e116]
                            replace f117 : ¬ ((A 45) ((I 2774)) = 5 ∧ (A 46) ((I 2774)) = 12) := f117
                            show w_W _ _ _ (106, [(1, .int (Int32.ofInt ((A 45) ((I 2774))))), (0, .ref 43)], [.int (Int32.ofInt (0))], M) _
                            refine w_adv (n := 2) (F' := (114, [(1, .int (Int32.ofInt ((A 45) ((I 2774))))), (0, .ref 43)], [.int (Int32.ofInt (0))], M)) rfl ?_
                            refine w_fin (r := .inl (some (0))) (M' := M) rfl ?_
                            exact Or.inr (⟨rfl, rfl, (show ¬ m_be ((A 45) ((I 2774))) ((A 46) ((I 2774))) by intro h; unfold m_be at h; rcases h with h | h | h | h | ⟨h1, h2 | h2 | h2⟩ | ⟨h1, h2 | h2 | h2 | h2 | h2 | h2⟩ <;> omega)⟩)
def m_opens_Q (fr : Nat → Bool) (X : Nat → Option (q_C (Nat → Int32))) (u l : Nat) (I : Nat → Int) (A : Nat → Int → Int) (B C : Nat → Nat) (M : w_M) : w_X → w_M → Prop := fun r M' => ((r = .inl (some 1)) ∧ (M' = M)) ∨ ((r = .inl (some 0)) ∧ (M' = M))
set_option maxHeartbeats 100000000 in
set_option maxRecDepth 100000 in
theorem m_opens {L : Nat} {xs : Nat → Int32} {d : Nat} {fr : Nat → Bool} {X : Nat → Option (q_C (Nat → Int32))} {u l : Nat} {I : Nat → Int} {A : Nat → Int → Int} {B C : Nat → Nat} {M : w_M} (hR : w_Rep w_TM fr X u l I A B C M) (hd : 3 ≤ d) (hTK : m_TK I A) (hNU : (0 ≤ (I 2774) ∧ (I 2774) < (I 2754) ∧ (I 2754) ≤ 1501 ∧ 0 ≤ (I 2775) ∧ (I 2775) ≤ 24) ∧ ((I 3393) = (I 3905) ∧ (I 3521) = (I 3905) ∧ (I 3649) = (I 3905) ∧ (I 3777) = (I 3905) ∧ 0 ≤ (I 3905) ∧ (I 3905) ≤ 3 * (I 2774)) ∧ ((I 4161) = (I 4033) ∧ 7 ≤ (I 4289) ∧ (I 4289) ≤ (I 4033) ∧ (I 4033) ≤ 7 + (I 2774)) ∧ 0 ≤ (I 5889) ∧ (I 5889) ≤ (I 2774)) : w_W (z_P L xs) d 263 (0, [(0, .ref 43)], [], M) (m_opens_Q fr X u l I A B C M) := by
  obtain ⟨d, rfl⟩ : ∃ d0, d = d0 + 1 := ⟨d - 1, by omega⟩
  refine w_adv (n := 2) (F' := (3, [(0, .ref 43)], [.int (Int32.ofInt (91)), .ref 43], M)) rfl ?_
  refine w_call (cm := 230) (as := [(0, .ref 43), (1, .int (Int32.ofInt (91)))]) (rest := []) (o := some (9, 43)) rfl (w_fitR hR rfl) (m_isSign (91) hR ⟨by omega, by omega⟩ (show 0 ≤ (I 2774) ∧ (I 2774) < 1501 by omega)) (fun r1 M2 q3 => ?_)
  rcases q3 with ⟨e4, e5, f6⟩ | ⟨e7, e8, f9⟩
  · rw [e4, e5]
    replace f6 : (A 45) ((I 2774)) = 6 ∧ (A 46) ((I 2774)) = 91 := f6
    obtain ⟨n10, n11⟩ := id f6
    clear f6
    have w12 : (I 2774) + 1 < (I 2754) := m_TK_lt hTK (by omega) (by omega) (by omega)
    show w_W _ _ _ (6, [(0, .ref 43)], [.int (Int32.ofInt (1))], M) _
    refine w_adv (n := 3) (F' := (57, [(0, .ref 43)], [.int (Int32.ofInt (1))], M)) rfl ?_
    refine w_fin (r := .inl (some (1))) (M' := M) rfl ?_
    exact Or.inl ⟨rfl, rfl⟩
  · rw [e7, e8]
    replace f9 : ¬ ((A 45) ((I 2774)) = 6 ∧ (A 46) ((I 2774)) = 91) := f9
    show w_W _ _ _ (6, [(0, .ref 43)], [.int (Int32.ofInt (0))], M) _
    refine w_adv (n := 3) (F' := (12, [(0, .ref 43)], [.int (Int32.ofInt (40)), .ref 43], M)) rfl ?_
    refine w_call (cm := 230) (as := [(0, .ref 43), (1, .int (Int32.ofInt (40)))]) (rest := []) (o := some (9, 43)) rfl (w_fitR hR rfl) (m_isSign (40) hR ⟨by omega, by omega⟩ (show 0 ≤ (I 2774) ∧ (I 2774) < 1501 by omega)) (fun r13 M14 q15 => ?_)
    rcases q15 with ⟨e16, e17, f18⟩ | ⟨e19, e20, f21⟩
    · rw [e16, e17]
      replace f18 : (A 45) ((I 2774)) = 6 ∧ (A 46) ((I 2774)) = 40 := f18
      obtain ⟨n22, n23⟩ := id f18
      clear f18
      have w24 : (I 2774) + 1 < (I 2754) := m_TK_lt hTK (by omega) (by omega) (by omega)
      show w_W _ _ _ (15, [(0, .ref 43)], [.int (Int32.ofInt (1))], M) _
      refine w_adv (n := 3) (F' := (57, [(0, .ref 43)], [.int (Int32.ofInt (1))], M)) rfl ?_
      refine w_fin (r := .inl (some (1))) (M' := M) rfl ?_
      exact Or.inl ⟨rfl, rfl⟩
    · rw [e19, e20]
      replace f21 : ¬ ((A 45) ((I 2774)) = 6 ∧ (A 46) ((I 2774)) = 40) := f21
      show w_W _ _ _ (15, [(0, .ref 43)], [.int (Int32.ofInt (0))], M) _
      refine w_adv (n := 3) (F' := (21, [(0, .ref 43)], [.int (Int32.ofInt (123)), .ref 43], M)) rfl ?_
      refine w_call (cm := 230) (as := [(0, .ref 43), (1, .int (Int32.ofInt (123)))]) (rest := []) (o := some (9, 43)) rfl (w_fitR hR rfl) (m_isSign (123) hR ⟨by omega, by omega⟩ (show 0 ≤ (I 2774) ∧ (I 2774) < 1501 by omega)) (fun r25 M26 q27 => ?_)
      rcases q27 with ⟨e28, e29, f30⟩ | ⟨e31, e32, f33⟩
      · rw [e28, e29]
        replace f30 : (A 45) ((I 2774)) = 6 ∧ (A 46) ((I 2774)) = 123 := f30
        obtain ⟨n34, n35⟩ := id f30
        clear f30
        have w36 : (I 2774) + 1 < (I 2754) := m_TK_lt hTK (by omega) (by omega) (by omega)
        show w_W _ _ _ (24, [(0, .ref 43)], [.int (Int32.ofInt (1))], M) _
        refine w_adv (n := 3) (F' := (57, [(0, .ref 43)], [.int (Int32.ofInt (1))], M)) rfl ?_
        refine w_fin (r := .inl (some (1))) (M' := M) rfl ?_
        exact Or.inl ⟨rfl, rfl⟩
      · rw [e31, e32]
        replace f33 : ¬ ((A 45) ((I 2774)) = 6 ∧ (A 46) ((I 2774)) = 123) := f33
        show w_W _ _ _ (24, [(0, .ref 43)], [.int (Int32.ofInt (0))], M) _
        refine w_adv (n := 2) (F' := (28, [(0, .ref 43)], [.ref 43], M)) rfl ?_
        refine w_gf (v := .ref 45) hR rfl rfl rfl rfl ?_
        refine w_adv (n := 1) (F' := (32, [(0, .ref 43)], [.ref 43, .ref 45], M)) rfl ?_
        refine w_gf (v := .int (Int32.ofInt ((I 2774)))) hR rfl rfl rfl rfl ?_
        obtain ⟨r37, r38⟩ : -2147483648 ≤ (I 2774) ∧ (I 2774) ≤ 2147483647 := hR.ri 2774
        refine w_la (n := 1502) hR rfl (Or.inl ⟨rfl, rfl⟩) rfl (show 0 ≤ (I 2774) by omega) (show (I 2774) < (1502 : Int) by omega) (by decide) ?_
        obtain ⟨r39, r40⟩ : -2147483648 ≤ (A 45) ((I 2774)) ∧ (A 45) ((I 2774)) ≤ 2147483647 := hR.ra 45 ((I 2774))
        show w_W _ _ _ (36, [(0, .ref 43)], [.int (Int32.ofInt ((A 45) ((I 2774))))], M) _
        refine w_adv (n := 1) (F' := (37, [(0, .ref 43)], [.int (Int32.ofInt (5)), .int (Int32.ofInt ((A 45) ((I 2774))))], M)) rfl ?_
        refine w_br2 (a := (A 45) ((I 2774))) (b := 5) rfl rfl ⟨by omega, by omega⟩ ⟨by omega, by omega⟩ (fun h41 => ?_) (fun h41 => ?_)
        · have h41 : ¬ (A 45) ((I 2774)) = 5 := h41
          show w_W _ _ _ (56, [(0, .ref 43)], [], M) _
          refine w_adv (n := 1) (F' := (57, [(0, .ref 43)], [.int (Int32.ofInt (0))], M)) rfl ?_
          refine w_fin (r := .inl (some (0))) (M' := M) rfl ?_
          exact Or.inr (⟨rfl, rfl⟩)
        · have h41 : ¬ (¬ (A 45) ((I 2774)) = 5) := h41
          have w42 : (I 2774) + 1 < (I 2754) := m_TK_lt hTK (by omega) (by omega) (by omega)
          show w_W _ _ _ (40, [(0, .ref 43)], [], M) _
          refine w_adv (n := 1) (F' := (41, [(0, .ref 43)], [.ref 43], M)) rfl ?_
          refine w_gf (v := .ref 46) hR rfl rfl rfl rfl ?_
          refine w_adv (n := 1) (F' := (45, [(0, .ref 43)], [.ref 43, .ref 46], M)) rfl ?_
          refine w_gf (v := .int (Int32.ofInt ((I 2774)))) hR rfl rfl rfl rfl ?_
          refine w_la (n := 1502) hR rfl (Or.inl ⟨rfl, rfl⟩) rfl (show 0 ≤ (I 2774) by omega) (show (I 2774) < (1502 : Int) by omega) (by decide) ?_
          obtain ⟨r43, r44⟩ : -2147483648 ≤ (A 46) ((I 2774)) ∧ (A 46) ((I 2774)) ≤ 2147483647 := hR.ra 46 ((I 2774))
          show w_W _ _ _ (49, [(0, .ref 43)], [.int (Int32.ofInt ((A 46) ((I 2774))))], M) _
          refine w_br1 (a := (A 46) ((I 2774))) rfl rfl ⟨by omega, by omega⟩ (fun h45 => ?_) (fun h45 => ?_)
          · have h45 : (A 46) ((I 2774)) = 0 := h45
            show w_W _ _ _ (56, [(0, .ref 43)], [], M) _
            refine w_adv (n := 1) (F' := (57, [(0, .ref 43)], [.int (Int32.ofInt (0))], M)) rfl ?_
            refine w_fin (r := .inl (some (0))) (M' := M) rfl ?_
            exact Or.inr (⟨rfl, rfl⟩)
          · have h45 : ¬ ((A 46) ((I 2774)) = 0) := h45
            show w_W _ _ _ (52, [(0, .ref 43)], [], M) _
            refine w_adv (n := 2) (F' := (57, [(0, .ref 43)], [.int (Int32.ofInt (1))], M)) rfl ?_
            refine w_fin (r := .inl (some (1))) (M' := M) rfl ?_
            exact Or.inl ⟨rfl, rfl⟩
def m_beginsItem_Q (fr : Nat → Bool) (X : Nat → Option (q_C (Nat → Int32))) (u l : Nat) (I : Nat → Int) (A : Nat → Int → Int) (B C : Nat → Nat) (M : w_M) : w_X → w_M → Prop := fun r M' => ((r = .inl (some 1)) ∧ (M' = M) ∧ (1 ≤ (A 45) ((I 2774)) ∧ (A 45) ((I 2774)) ≤ 6) ∧ (m_bi ((A 45) ((I 2774))) ((A 46) ((I 2774))))) ∨ ((r = .inl (some 0)) ∧ (M' = M) ∧ (¬ m_bi ((A 45) ((I 2774))) ((A 46) ((I 2774)))))
set_option maxHeartbeats 100000000 in
set_option maxRecDepth 100000 in
theorem m_beginsItem {L : Nat} {xs : Nat → Int32} {d : Nat} {fr : Nat → Bool} {X : Nat → Option (q_C (Nat → Int32))} {u l : Nat} {I : Nat → Int} {A : Nat → Int → Int} {B C : Nat → Nat} {M : w_M} (hR : w_Rep w_TM fr X u l I A B C M) (hd : 4 ≤ d) (hTK : m_TK I A) (hNU : (0 ≤ (I 2774) ∧ (I 2774) < (I 2754) ∧ (I 2754) ≤ 1501 ∧ 0 ≤ (I 2775) ∧ (I 2775) ≤ 24) ∧ ((I 3393) = (I 3905) ∧ (I 3521) = (I 3905) ∧ (I 3649) = (I 3905) ∧ (I 3777) = (I 3905) ∧ 0 ≤ (I 3905) ∧ (I 3905) ≤ 3 * (I 2774)) ∧ ((I 4161) = (I 4033) ∧ 7 ≤ (I 4289) ∧ (I 4289) ≤ (I 4033) ∧ (I 4033) ≤ 7 + (I 2774)) ∧ 0 ≤ (I 5889) ∧ (I 5889) ≤ (I 2774)) : w_W (z_P L xs) d 228 (0, [(0, .ref 43)], [], M) (m_beginsItem_Q fr X u l I A B C M) := by
  obtain ⟨d, rfl⟩ : ∃ d0, d = d0 + 1 := ⟨d - 1, by omega⟩
  refine w_adv (n := 1) (F' := (1, [(0, .ref 43)], [.ref 43], M)) rfl ?_
  refine w_call (cm := 229) (as := [(0, .ref 43)]) (rest := []) (o := some (9, 43)) rfl (w_fitR hR rfl) (m_beginsExp hR (show 3 ≤ d by omega) (show m_TK I A by exact hTK) (show (0 ≤ (I 2774) ∧ (I 2774) < (I 2754) ∧ (I 2754) ≤ 1501 ∧ 0 ≤ (I 2775) ∧ (I 2775) ≤ 24) ∧ ((I 3393) = (I 3905) ∧ (I 3521) = (I 3905) ∧ (I 3649) = (I 3905) ∧ (I 3777) = (I 3905) ∧ 0 ≤ (I 3905) ∧ (I 3905) ≤ 3 * (I 2774)) ∧ ((I 4161) = (I 4033) ∧ 7 ≤ (I 4289) ∧ (I 4289) ≤ (I 4033) ∧ (I 4033) ≤ 7 + (I 2774)) ∧ 0 ≤ (I 5889) ∧ (I 5889) ≤ (I 2774) by (repeat' apply And.intro) <;> first | assumption | omega)) (fun r1 M2 q3 => ?_)
  rcases q3 with ⟨e4, e5, f6, f7⟩ | ⟨e8, e9, f10⟩
  · rw [e4, e5]
    replace f6 : 1 ≤ (A 45) ((I 2774)) ∧ (A 45) ((I 2774)) ≤ 6 := f6
    obtain ⟨n11, n12⟩ := id f6
    clear f6
    replace f7 : m_be ((A 45) ((I 2774))) ((A 46) ((I 2774))) := f7
    have w13 : (I 2774) + 1 < (I 2754) := m_TK_lt hTK (by omega) (by omega) (by omega)
    show w_W _ _ _ (4, [(0, .ref 43)], [.int (Int32.ofInt (1))], M) _
    refine w_adv (n := 3) (F' := (47, [(0, .ref 43)], [.int (Int32.ofInt (1))], M)) rfl ?_
    refine w_fin (r := .inl (some (1))) (M' := M) rfl ?_
    exact Or.inl ⟨rfl, rfl, (show 1 ≤ (A 45) ((I 2774)) ∧ (A 45) ((I 2774)) ≤ 6 by first | assumption | omega), (show m_bi ((A 45) ((I 2774))) ((A 46) ((I 2774))) by first | exact Or.inl (by assumption) | exact Or.inr (by omega))⟩
  · rw [e8, e9]
    replace f10 : ¬ m_be ((A 45) ((I 2774))) ((A 46) ((I 2774))) := f10
    show w_W _ _ _ (4, [(0, .ref 43)], [.int (Int32.ofInt (0))], M) _
    refine w_adv (n := 3) (F' := (9, [(0, .ref 43)], [.int (Int32.ofInt (0)), .ref 43], M)) rfl ?_
    refine w_call (cm := 231) (as := [(0, .ref 43), (1, .int (Int32.ofInt (0)))]) (rest := []) (o := some (9, 43)) rfl (w_fitR hR rfl) (m_isWord (0) hR ⟨by omega, by omega⟩ (show 0 ≤ (I 2774) ∧ (I 2774) < 1501 by omega)) (fun r14 M15 q16 => ?_)
    rcases q16 with ⟨e17, e18, f19⟩ | ⟨e20, e21, f22⟩
    · rw [e17, e18]
      replace f19 : (A 45) ((I 2774)) = 5 ∧ (A 46) ((I 2774)) = 0 := f19
      obtain ⟨n23, n24⟩ := id f19
      clear f19
      have w25 : (I 2774) + 1 < (I 2754) := m_TK_lt hTK (by omega) (by omega) (by omega)
      show w_W _ _ _ (12, [(0, .ref 43)], [.int (Int32.ofInt (1))], M) _
      refine w_adv (n := 3) (F' := (47, [(0, .ref 43)], [.int (Int32.ofInt (1))], M)) rfl ?_
      refine w_fin (r := .inl (some (1))) (M' := M) rfl ?_
      exact Or.inl ⟨rfl, rfl, (show 1 ≤ (A 45) ((I 2774)) ∧ (A 45) ((I 2774)) ≤ 6 by first | assumption | omega), (show m_bi ((A 45) ((I 2774))) ((A 46) ((I 2774))) by first | exact Or.inl (by assumption) | exact Or.inr (by omega))⟩
    · rw [e20, e21]
      replace f22 : ¬ ((A 45) ((I 2774)) = 5 ∧ (A 46) ((I 2774)) = 0) := f22
      show w_W _ _ _ (12, [(0, .ref 43)], [.int (Int32.ofInt (0))], M) _
      refine w_adv (n := 3) (F' := (18, [(0, .ref 43)], [.int (Int32.ofInt (13)), .ref 43], M)) rfl ?_
      refine w_call (cm := 231) (as := [(0, .ref 43), (1, .int (Int32.ofInt (13)))]) (rest := []) (o := some (9, 43)) rfl (w_fitR hR rfl) (m_isWord (13) hR ⟨by omega, by omega⟩ (show 0 ≤ (I 2774) ∧ (I 2774) < 1501 by omega)) (fun r26 M27 q28 => ?_)
      rcases q28 with ⟨e29, e30, f31⟩ | ⟨e32, e33, f34⟩
      · rw [e29, e30]
        replace f31 : (A 45) ((I 2774)) = 5 ∧ (A 46) ((I 2774)) = 13 := f31
        obtain ⟨n35, n36⟩ := id f31
        clear f31
        have w37 : (I 2774) + 1 < (I 2754) := m_TK_lt hTK (by omega) (by omega) (by omega)
        show w_W _ _ _ (21, [(0, .ref 43)], [.int (Int32.ofInt (1))], M) _
        refine w_adv (n := 3) (F' := (47, [(0, .ref 43)], [.int (Int32.ofInt (1))], M)) rfl ?_
        refine w_fin (r := .inl (some (1))) (M' := M) rfl ?_
        exact Or.inl ⟨rfl, rfl, (show 1 ≤ (A 45) ((I 2774)) ∧ (A 45) ((I 2774)) ≤ 6 by first | assumption | omega), (show m_bi ((A 45) ((I 2774))) ((A 46) ((I 2774))) by first | exact Or.inl (by assumption) | exact Or.inr (by omega))⟩
      · rw [e32, e33]
        replace f34 : ¬ ((A 45) ((I 2774)) = 5 ∧ (A 46) ((I 2774)) = 13) := f34
        show w_W _ _ _ (21, [(0, .ref 43)], [.int (Int32.ofInt (0))], M) _
        refine w_adv (n := 3) (F' := (27, [(0, .ref 43)], [.int (Int32.ofInt (15)), .ref 43], M)) rfl ?_
        refine w_call (cm := 231) (as := [(0, .ref 43), (1, .int (Int32.ofInt (15)))]) (rest := []) (o := some (9, 43)) rfl (w_fitR hR rfl) (m_isWord (15) hR ⟨by omega, by omega⟩ (show 0 ≤ (I 2774) ∧ (I 2774) < 1501 by omega)) (fun r38 M39 q40 => ?_)
        rcases q40 with ⟨e41, e42, f43⟩ | ⟨e44, e45, f46⟩
        · rw [e41, e42]
          replace f43 : (A 45) ((I 2774)) = 5 ∧ (A 46) ((I 2774)) = 15 := f43
          obtain ⟨n47, n48⟩ := id f43
          clear f43
          have w49 : (I 2774) + 1 < (I 2754) := m_TK_lt hTK (by omega) (by omega) (by omega)
          show w_W _ _ _ (30, [(0, .ref 43)], [.int (Int32.ofInt (1))], M) _
          refine w_adv (n := 3) (F' := (47, [(0, .ref 43)], [.int (Int32.ofInt (1))], M)) rfl ?_
          refine w_fin (r := .inl (some (1))) (M' := M) rfl ?_
          exact Or.inl ⟨rfl, rfl, (show 1 ≤ (A 45) ((I 2774)) ∧ (A 45) ((I 2774)) ≤ 6 by first | assumption | omega), (show m_bi ((A 45) ((I 2774))) ((A 46) ((I 2774))) by first | exact Or.inl (by assumption) | exact Or.inr (by omega))⟩
        · rw [e44, e45]
          replace f46 : ¬ ((A 45) ((I 2774)) = 5 ∧ (A 46) ((I 2774)) = 15) := f46
          show w_W _ _ _ (30, [(0, .ref 43)], [.int (Int32.ofInt (0))], M) _
          refine w_adv (n := 3) (F' := (36, [(0, .ref 43)], [.int (Int32.ofInt (16)), .ref 43], M)) rfl ?_
          refine w_call (cm := 231) (as := [(0, .ref 43), (1, .int (Int32.ofInt (16)))]) (rest := []) (o := some (9, 43)) rfl (w_fitR hR rfl) (m_isWord (16) hR ⟨by omega, by omega⟩ (show 0 ≤ (I 2774) ∧ (I 2774) < 1501 by omega)) (fun r50 M51 q52 => ?_)
          rcases q52 with ⟨e53, e54, f55⟩ | ⟨e56, e57, f58⟩
          · rw [e53, e54]
            replace f55 : (A 45) ((I 2774)) = 5 ∧ (A 46) ((I 2774)) = 16 := f55
            obtain ⟨n59, n60⟩ := id f55
            clear f55
            have w61 : (I 2774) + 1 < (I 2754) := m_TK_lt hTK (by omega) (by omega) (by omega)
            show w_W _ _ _ (39, [(0, .ref 43)], [.int (Int32.ofInt (1))], M) _
            refine w_adv (n := 3) (F' := (47, [(0, .ref 43)], [.int (Int32.ofInt (1))], M)) rfl ?_
            refine w_fin (r := .inl (some (1))) (M' := M) rfl ?_
            exact Or.inl ⟨rfl, rfl, (show 1 ≤ (A 45) ((I 2774)) ∧ (A 45) ((I 2774)) ≤ 6 by first | assumption | omega), (show m_bi ((A 45) ((I 2774))) ((A 46) ((I 2774))) by first | exact Or.inl (by assumption) | exact Or.inr (by omega))⟩
          · rw [e56, e57]
            replace f58 : ¬ ((A 45) ((I 2774)) = 5 ∧ (A 46) ((I 2774)) = 16) := f58
            show w_W _ _ _ (39, [(0, .ref 43)], [.int (Int32.ofInt (0))], M) _
            refine w_adv (n := 2) (F' := (47, [(0, .ref 43)], [.int (Int32.ofInt (0))], M)) rfl ?_
            refine w_fin (r := .inl (some (0))) (M' := M) rfl ?_
            exact Or.inr (⟨rfl, rfl, (show ¬ m_bi ((A 45) ((I 2774))) ((A 46) ((I 2774))) by intro h; rcases h with h | ⟨h1, h2 | h2 | h2 | h2⟩ <;> first | contradiction | omega)⟩)
def m_tooMany_Q (fr : Nat → Bool) (X : Nat → Option (q_C (Nat → Int32))) (u l : Nat) (I : Nat → Int) (A : Nat → Int → Int) (B C : Nat → Nat) (M : w_M) : w_X → w_M → Prop := fun r M' => (∃ (I' : Nat → Int) (A' : Nat → Int → Int) (B' C' : Nat → Nat), (r = .inr 69) ∧ (w_Rep w_TM fr X u l I' A' B' C' M') ∧ (m_fx I A I' A'))
set_option maxHeartbeats 100000000 in
set_option maxRecDepth 100000 in
theorem m_tooMany {L : Nat} {xs : Nat → Int32} {d : Nat} {fr : Nat → Bool} {X : Nat → Option (q_C (Nat → Int32))} {u l : Nat} {I : Nat → Int} {A : Nat → Int → Int} {B C : Nat → Nat} {M : w_M} (hR : w_Rep w_TM fr X u l I A B C M) (hd : 5 ≤ d) (hTK : m_TK I A) (hNU : (0 ≤ (I 2774) ∧ (I 2774) < (I 2754) ∧ (I 2754) ≤ 1501 ∧ 0 ≤ (I 2775) ∧ (I 2775) ≤ 24) ∧ ((I 3393) = (I 3905) ∧ (I 3521) = (I 3905) ∧ (I 3649) = (I 3905) ∧ (I 3777) = (I 3905) ∧ 0 ≤ (I 3905) ∧ (I 3905) ≤ 3 * (I 2774)) ∧ ((I 4161) = (I 4033) ∧ 7 ≤ (I 4289) ∧ (I 4289) ≤ (I 4033) ∧ (I 4033) ≤ 7 + (I 2774)) ∧ 0 ≤ (I 5889) ∧ (I 5889) ≤ (I 2774)) (hSC : m_SC I A) : w_W (z_P L xs) d 261 (0, [(0, .ref 43)], [], M) (m_tooMany_Q fr X u l I A B C M) := by
  obtain ⟨d, rfl⟩ : ∃ d0, d = d0 + 1 := ⟨d - 1, by omega⟩
  refine w_adv (n := 1) (F' := (1, [(0, .ref 43)], [.ref 43], M)) rfl ?_
  refine w_gf (v := .ref 45) hR rfl rfl rfl rfl ?_
  refine w_adv (n := 1) (F' := (5, [(0, .ref 43)], [.ref 43, .ref 45], M)) rfl ?_
  refine w_gf (v := .int (Int32.ofInt ((I 2774)))) hR rfl rfl rfl rfl ?_
  obtain ⟨r1, r2⟩ : -2147483648 ≤ (I 2774) ∧ (I 2774) ≤ 2147483647 := hR.ri 2774
  refine w_la (n := 1502) hR rfl (Or.inl ⟨rfl, rfl⟩) rfl (show 0 ≤ (I 2774) by omega) (show (I 2774) < (1502 : Int) by omega) (by decide) ?_
  obtain ⟨r3, r4⟩ : -2147483648 ≤ (A 45) ((I 2774)) ∧ (A 45) ((I 2774)) ≤ 2147483647 := hR.ra 45 ((I 2774))
  show w_W _ _ _ (9, [(0, .ref 43)], [.int (Int32.ofInt ((A 45) ((I 2774))))], M) _
  refine w_adv (n := 1) (F' := (10, [(0, .ref 43)], [.int (Int32.ofInt (2)), .int (Int32.ofInt ((A 45) ((I 2774))))], M)) rfl ?_
  refine w_br2 (a := (A 45) ((I 2774))) (b := 2) rfl rfl ⟨by omega, by omega⟩ ⟨by omega, by omega⟩ (fun h5 => ?_) (fun h5 => ?_)
  · have h5 : ¬ (A 45) ((I 2774)) = 2 := h5
    show w_W _ _ _ (18, [(0, .ref 43)], [], M) _
    refine w_adv (n := 1) (F' := (19, [(0, .ref 43)], [.ref 43], M)) rfl ?_
    refine w_call (cm := 263) (as := [(0, .ref 43)]) (rest := []) (o := some (9, 43)) rfl (w_fitR hR rfl) (m_opens hR (show 3 ≤ d by omega) (show m_TK I A by exact hTK) (show (0 ≤ (I 2774) ∧ (I 2774) < (I 2754) ∧ (I 2754) ≤ 1501 ∧ 0 ≤ (I 2775) ∧ (I 2775) ≤ 24) ∧ ((I 3393) = (I 3905) ∧ (I 3521) = (I 3905) ∧ (I 3649) = (I 3905) ∧ (I 3777) = (I 3905) ∧ 0 ≤ (I 3905) ∧ (I 3905) ≤ 3 * (I 2774)) ∧ ((I 4161) = (I 4033) ∧ 7 ≤ (I 4289) ∧ (I 4289) ≤ (I 4033) ∧ (I 4033) ≤ 7 + (I 2774)) ∧ 0 ≤ (I 5889) ∧ (I 5889) ≤ (I 2774) by (repeat' apply And.intro) <;> first | assumption | omega)) (fun r6 M7 q8 => ?_)
    rcases q8 with ⟨e9, e10⟩ | ⟨e11, e12⟩
    · rw [e9, e10]
      show w_W _ _ _ (22, [(0, .ref 43)], [.int (Int32.ofInt (1))], M) _
      refine w_adv (n := 2) (F' := (26, [(0, .ref 43)], [.ref 43], M)) rfl ?_
      refine w_gf (v := .int (Int32.ofInt ((I 2775)))) hR rfl rfl rfl rfl ?_
      obtain ⟨r13, r14⟩ : -2147483648 ≤ (I 2775) ∧ (I 2775) ≤ 2147483647 := hR.ri 2775
      refine w_adv (n := 1) (F' := (31, [(0, .ref 43)], [.int (Int32.ofInt (24)), .int (Int32.ofInt ((I 2775)))], M)) rfl ?_
      refine w_br2 (a := (I 2775)) (b := 24) rfl rfl ⟨by omega, by omega⟩ ⟨by omega, by omega⟩ (fun h15 => ?_) (fun h15 => ?_)
      · have h15 : ¬ (I 2775) = 24 := h15
        show w_W _ _ _ (39, [(0, .ref 43)], [], M) _
        refine w_adv (n := 2) (F' := (42, [(0, .ref 43)], [.int (Int32.ofInt (6)), .ref 43], M)) rfl ?_
        refine w_call (cm := 232) (as := [(0, .ref 43), (1, .int (Int32.ofInt (6)))]) (rest := []) (o := some (9, 43)) rfl (w_fitR hR rfl) (m_fail (6) hR ⟨by omega, by omega⟩ (show 0 ≤ (I 2774) ∧ (I 2774) < 1501 by omega) (show 1 ≤ 6 ∧ 6 ≤ 7 by first | assumption | omega)) (fun r16 M17 q18 => ?_)
        rcases q18 with ⟨I18a, A18a, B18a, C18a, e19, hR18a, f20⟩
        rw [e19]
        replace hR18a : w_Rep w_TM fr X u l I18a A18a B18a C18a M17 := hR18a
        replace f20 : m_fx I A I18a A18a := f20
        exact ⟨I18a, A18a, B18a, C18a, rfl, hR18a, (show m_fx I A I18a A18a by exact f20)⟩
      · have h15 : ¬ (¬ (I 2775) = 24) := h15
        show w_W _ _ _ (34, [(0, .ref 43)], [], M) _
        refine w_adv (n := 2) (F' := (36, [(0, .ref 43)], [.int (Int32.ofInt (5)), .ref 43], M)) rfl ?_
        refine w_call (cm := 232) (as := [(0, .ref 43), (1, .int (Int32.ofInt (5)))]) (rest := []) (o := some (9, 43)) rfl (w_fitR hR rfl) (m_fail (5) hR ⟨by omega, by omega⟩ (show 0 ≤ (I 2774) ∧ (I 2774) < 1501 by omega) (show 1 ≤ 5 ∧ 5 ≤ 7 by first | assumption | omega)) (fun r21 M22 q23 => ?_)
        rcases q23 with ⟨I23a, A23a, B23a, C23a, e24, hR23a, f25⟩
        rw [e24]
        replace hR23a : w_Rep w_TM fr X u l I23a A23a B23a C23a M22 := hR23a
        replace f25 : m_fx I A I23a A23a := f25
        exact ⟨I23a, A23a, B23a, C23a, rfl, hR23a, (show m_fx I A I23a A23a by exact f25)⟩
    · rw [e11, e12]
      show w_W _ _ _ (22, [(0, .ref 43)], [.int (Int32.ofInt (0))], M) _
      refine w_adv (n := 3) (F' := (42, [(0, .ref 43)], [.int (Int32.ofInt (6)), .ref 43], M)) rfl ?_
      refine w_call (cm := 232) (as := [(0, .ref 43), (1, .int (Int32.ofInt (6)))]) (rest := []) (o := some (9, 43)) rfl (w_fitR hR rfl) (m_fail (6) hR ⟨by omega, by omega⟩ (show 0 ≤ (I 2774) ∧ (I 2774) < 1501 by omega) (show 1 ≤ 6 ∧ 6 ≤ 7 by first | assumption | omega)) (fun r26 M27 q28 => ?_)
      rcases q28 with ⟨I28a, A28a, B28a, C28a, e29, hR28a, f30⟩
      rw [e29]
      replace hR28a : w_Rep w_TM fr X u l I28a A28a B28a C28a M27 := hR28a
      replace f30 : m_fx I A I28a A28a := f30
      exact ⟨I28a, A28a, B28a, C28a, rfl, hR28a, (show m_fx I A I28a A28a by exact f30)⟩
  · have h5 : ¬ (¬ (A 45) ((I 2774)) = 2) := h5
    have w31 : (I 2774) + 1 < (I 2754) := m_TK_lt hTK (by omega) (by omega) (by omega)
    show w_W _ _ _ (13, [(0, .ref 43)], [], M) _
    refine w_adv (n := 1) (F' := (14, [(0, .ref 43)], [.ref 43], M)) rfl ?_
    refine w_call (cm := 262) (as := [(0, .ref 43)]) (rest := []) (o := some (9, 43)) rfl (w_fitR hR rfl) (m_used hR (show 3 ≤ d by omega) (show (0 ≤ (I 2774) ∧ (I 2774) < (I 2754) ∧ (I 2754) ≤ 1501 ∧ 0 ≤ (I 2775) ∧ (I 2775) ≤ 24) ∧ ((I 3393) = (I 3905) ∧ (I 3521) = (I 3905) ∧ (I 3649) = (I 3905) ∧ (I 3777) = (I 3905) ∧ 0 ≤ (I 3905) ∧ (I 3905) ≤ 3 * (I 2774)) ∧ ((I 4161) = (I 4033) ∧ 7 ≤ (I 4289) ∧ (I 4289) ≤ (I 4033) ∧ (I 4033) ≤ 7 + (I 2774)) ∧ 0 ≤ (I 5889) ∧ (I 5889) ≤ (I 2774) by (repeat' apply And.intro) <;> first | assumption | omega) (show m_SC I A by exact hSC)) (fun r32 M33 q34 => ?_)
    rcases q34 with ⟨v35, e36, ⟨r37, r38⟩, e39, f40⟩ | ⟨v41, z42, e43, ⟨r44, r45⟩, hR34b, f46⟩ | ⟨I34c, A34c, B34c, C34c, e47, hR34c, f48⟩
    · rw [e36, e39]
      replace f40 : 0 ≤ v35 ∧ v35 < (I 4033) := f40
      obtain ⟨n49, n50⟩ := id f40
      clear f40
      show w_W _ _ _ (17, [(0, .ref 43)], [.int (Int32.ofInt (v35))], M) _
      refine w_adv (n := 2) (F' := (19, [(1, .int (Int32.ofInt (v35))), (0, .ref 43)], [.ref 43], M)) rfl ?_
      refine w_call (cm := 263) (as := [(0, .ref 43)]) (rest := []) (o := some (9, 43)) rfl (w_fitR hR rfl) (m_opens hR (show 3 ≤ d by omega) (show m_TK I A by exact hTK) (show (0 ≤ (I 2774) ∧ (I 2774) < (I 2754) ∧ (I 2754) ≤ 1501 ∧ 0 ≤ (I 2775) ∧ (I 2775) ≤ 24) ∧ ((I 3393) = (I 3905) ∧ (I 3521) = (I 3905) ∧ (I 3649) = (I 3905) ∧ (I 3777) = (I 3905) ∧ 0 ≤ (I 3905) ∧ (I 3905) ≤ 3 * (I 2774)) ∧ ((I 4161) = (I 4033) ∧ 7 ≤ (I 4289) ∧ (I 4289) ≤ (I 4033) ∧ (I 4033) ≤ 7 + (I 2774)) ∧ 0 ≤ (I 5889) ∧ (I 5889) ≤ (I 2774) by (repeat' apply And.intro) <;> first | assumption | omega)) (fun r51 M52 q53 => ?_)
      rcases q53 with ⟨e54, e55⟩ | ⟨e56, e57⟩
      · rw [e54, e55]
        show w_W _ _ _ (22, [(1, .int (Int32.ofInt (v35))), (0, .ref 43)], [.int (Int32.ofInt (1))], M) _
        refine w_adv (n := 2) (F' := (26, [(1, .int (Int32.ofInt (v35))), (0, .ref 43)], [.ref 43], M)) rfl ?_
        refine w_gf (v := .int (Int32.ofInt ((I 2775)))) hR rfl rfl rfl rfl ?_
        obtain ⟨r58, r59⟩ : -2147483648 ≤ (I 2775) ∧ (I 2775) ≤ 2147483647 := hR.ri 2775
        refine w_adv (n := 1) (F' := (31, [(1, .int (Int32.ofInt (v35))), (0, .ref 43)], [.int (Int32.ofInt (24)), .int (Int32.ofInt ((I 2775)))], M)) rfl ?_
        refine w_br2 (a := (I 2775)) (b := 24) rfl rfl ⟨by omega, by omega⟩ ⟨by omega, by omega⟩ (fun h60 => ?_) (fun h60 => ?_)
        · have h60 : ¬ (I 2775) = 24 := h60
          show w_W _ _ _ (39, [(1, .int (Int32.ofInt (v35))), (0, .ref 43)], [], M) _
          refine w_adv (n := 2) (F' := (42, [(1, .int (Int32.ofInt (v35))), (0, .ref 43)], [.int (Int32.ofInt (6)), .ref 43], M)) rfl ?_
          refine w_call (cm := 232) (as := [(0, .ref 43), (1, .int (Int32.ofInt (6)))]) (rest := []) (o := some (9, 43)) rfl (w_fitR hR rfl) (m_fail (6) hR ⟨by omega, by omega⟩ (show 0 ≤ (I 2774) ∧ (I 2774) < 1501 by omega) (show 1 ≤ 6 ∧ 6 ≤ 7 by first | assumption | omega)) (fun r61 M62 q63 => ?_)
          rcases q63 with ⟨I63a, A63a, B63a, C63a, e64, hR63a, f65⟩
          rw [e64]
          replace hR63a : w_Rep w_TM fr X u l I63a A63a B63a C63a M62 := hR63a
          replace f65 : m_fx I A I63a A63a := f65
          exact ⟨I63a, A63a, B63a, C63a, rfl, hR63a, (show m_fx I A I63a A63a by exact f65)⟩
        · have h60 : ¬ (¬ (I 2775) = 24) := h60
          show w_W _ _ _ (34, [(1, .int (Int32.ofInt (v35))), (0, .ref 43)], [], M) _
          refine w_adv (n := 2) (F' := (36, [(1, .int (Int32.ofInt (v35))), (0, .ref 43)], [.int (Int32.ofInt (5)), .ref 43], M)) rfl ?_
          refine w_call (cm := 232) (as := [(0, .ref 43), (1, .int (Int32.ofInt (5)))]) (rest := []) (o := some (9, 43)) rfl (w_fitR hR rfl) (m_fail (5) hR ⟨by omega, by omega⟩ (show 0 ≤ (I 2774) ∧ (I 2774) < 1501 by omega) (show 1 ≤ 5 ∧ 5 ≤ 7 by first | assumption | omega)) (fun r66 M67 q68 => ?_)
          rcases q68 with ⟨I68a, A68a, B68a, C68a, e69, hR68a, f70⟩
          rw [e69]
          replace hR68a : w_Rep w_TM fr X u l I68a A68a B68a C68a M67 := hR68a
          replace f70 : m_fx I A I68a A68a := f70
          exact ⟨I68a, A68a, B68a, C68a, rfl, hR68a, (show m_fx I A I68a A68a by exact f70)⟩
      · rw [e56, e57]
        show w_W _ _ _ (22, [(1, .int (Int32.ofInt (v35))), (0, .ref 43)], [.int (Int32.ofInt (0))], M) _
        refine w_adv (n := 3) (F' := (42, [(1, .int (Int32.ofInt (v35))), (0, .ref 43)], [.int (Int32.ofInt (6)), .ref 43], M)) rfl ?_
        refine w_call (cm := 232) (as := [(0, .ref 43), (1, .int (Int32.ofInt (6)))]) (rest := []) (o := some (9, 43)) rfl (w_fitR hR rfl) (m_fail (6) hR ⟨by omega, by omega⟩ (show 0 ≤ (I 2774) ∧ (I 2774) < 1501 by omega) (show 1 ≤ 6 ∧ 6 ≤ 7 by first | assumption | omega)) (fun r71 M72 q73 => ?_)
        rcases q73 with ⟨I73a, A73a, B73a, C73a, e74, hR73a, f75⟩
        rw [e74]
        replace hR73a : w_Rep w_TM fr X u l I73a A73a B73a C73a M72 := hR73a
        replace f75 : m_fx I A I73a A73a := f75
        exact ⟨I73a, A73a, B73a, C73a, rfl, hR73a, (show m_fx I A I73a A73a by exact f75)⟩
    · rw [e43]
      replace hR34b : w_Rep w_TM fr X u l (w_up I 2776 (z42)) A B C M33 := hR34b
      replace f46 : 0 ≤ v41 ∧ v41 < (I 4033) := f46
      obtain ⟨n76, n77⟩ := id f46
      clear f46
      show w_W _ _ _ (17, [(0, .ref 43)], [.int (Int32.ofInt (v41))], M33) _
      refine w_adv (n := 2) (F' := (19, [(1, .int (Int32.ofInt (v41))), (0, .ref 43)], [.ref 43], M33)) rfl ?_
      refine w_call (cm := 263) (as := [(0, .ref 43)]) (rest := []) (o := some (9, 43)) rfl (w_fitR hR34b rfl) (m_opens hR34b (show 3 ≤ d by omega) (show m_TK (w_up I 2776 (z42)) A by exact hTK) (show (0 ≤ (I 2774) ∧ (I 2774) < (I 2754) ∧ (I 2754) ≤ 1501 ∧ 0 ≤ (I 2775) ∧ (I 2775) ≤ 24) ∧ ((I 3393) = (I 3905) ∧ (I 3521) = (I 3905) ∧ (I 3649) = (I 3905) ∧ (I 3777) = (I 3905) ∧ 0 ≤ (I 3905) ∧ (I 3905) ≤ 3 * (I 2774)) ∧ ((I 4161) = (I 4033) ∧ 7 ≤ (I 4289) ∧ (I 4289) ≤ (I 4033) ∧ (I 4033) ≤ 7 + (I 2774)) ∧ 0 ≤ (I 5889) ∧ (I 5889) ≤ (I 2774) by (repeat' apply And.intro) <;> first | assumption | omega)) (fun r78 M79 q80 => ?_)
      rcases q80 with ⟨e81, e82⟩ | ⟨e83, e84⟩
      · rw [e81, e82]
        show w_W _ _ _ (22, [(1, .int (Int32.ofInt (v41))), (0, .ref 43)], [.int (Int32.ofInt (1))], M33) _
        refine w_adv (n := 2) (F' := (26, [(1, .int (Int32.ofInt (v41))), (0, .ref 43)], [.ref 43], M33)) rfl ?_
        refine w_gf (v := .int (Int32.ofInt ((I 2775)))) hR34b rfl rfl rfl rfl ?_
        obtain ⟨r85, r86⟩ : -2147483648 ≤ (I 2775) ∧ (I 2775) ≤ 2147483647 := hR34b.ri 2775
        refine w_adv (n := 1) (F' := (31, [(1, .int (Int32.ofInt (v41))), (0, .ref 43)], [.int (Int32.ofInt (24)), .int (Int32.ofInt ((I 2775)))], M33)) rfl ?_
        refine w_br2 (a := (I 2775)) (b := 24) rfl rfl ⟨by omega, by omega⟩ ⟨by omega, by omega⟩ (fun h87 => ?_) (fun h87 => ?_)
        · have h87 : ¬ (I 2775) = 24 := h87
          show w_W _ _ _ (39, [(1, .int (Int32.ofInt (v41))), (0, .ref 43)], [], M33) _
          refine w_adv (n := 2) (F' := (42, [(1, .int (Int32.ofInt (v41))), (0, .ref 43)], [.int (Int32.ofInt (6)), .ref 43], M33)) rfl ?_
          refine w_call (cm := 232) (as := [(0, .ref 43), (1, .int (Int32.ofInt (6)))]) (rest := []) (o := some (9, 43)) rfl (w_fitR hR34b rfl) (m_fail (6) hR34b ⟨by omega, by omega⟩ (show 0 ≤ (I 2774) ∧ (I 2774) < 1501 by omega) (show 1 ≤ 6 ∧ 6 ≤ 7 by first | assumption | omega)) (fun r88 M89 q90 => ?_)
          rcases q90 with ⟨I90a, A90a, B90a, C90a, e91, hR90a, f92⟩
          rw [e91]
          replace hR90a : w_Rep w_TM fr X u l I90a A90a B90a C90a M89 := hR90a
          replace f92 : m_fx (w_up I 2776 (z42)) A I90a A90a := f92
          exact ⟨I90a, A90a, B90a, C90a, rfl, hR90a, (show m_fx I A I90a A90a by exact f92)⟩
        · have h87 : ¬ (¬ (I 2775) = 24) := h87
          show w_W _ _ _ (34, [(1, .int (Int32.ofInt (v41))), (0, .ref 43)], [], M33) _
          refine w_adv (n := 2) (F' := (36, [(1, .int (Int32.ofInt (v41))), (0, .ref 43)], [.int (Int32.ofInt (5)), .ref 43], M33)) rfl ?_
          refine w_call (cm := 232) (as := [(0, .ref 43), (1, .int (Int32.ofInt (5)))]) (rest := []) (o := some (9, 43)) rfl (w_fitR hR34b rfl) (m_fail (5) hR34b ⟨by omega, by omega⟩ (show 0 ≤ (I 2774) ∧ (I 2774) < 1501 by omega) (show 1 ≤ 5 ∧ 5 ≤ 7 by first | assumption | omega)) (fun r93 M94 q95 => ?_)
          rcases q95 with ⟨I95a, A95a, B95a, C95a, e96, hR95a, f97⟩
          rw [e96]
          replace hR95a : w_Rep w_TM fr X u l I95a A95a B95a C95a M94 := hR95a
          replace f97 : m_fx (w_up I 2776 (z42)) A I95a A95a := f97
          exact ⟨I95a, A95a, B95a, C95a, rfl, hR95a, (show m_fx I A I95a A95a by exact f97)⟩
      · rw [e83, e84]
        show w_W _ _ _ (22, [(1, .int (Int32.ofInt (v41))), (0, .ref 43)], [.int (Int32.ofInt (0))], M33) _
        refine w_adv (n := 3) (F' := (42, [(1, .int (Int32.ofInt (v41))), (0, .ref 43)], [.int (Int32.ofInt (6)), .ref 43], M33)) rfl ?_
        refine w_call (cm := 232) (as := [(0, .ref 43), (1, .int (Int32.ofInt (6)))]) (rest := []) (o := some (9, 43)) rfl (w_fitR hR34b rfl) (m_fail (6) hR34b ⟨by omega, by omega⟩ (show 0 ≤ (I 2774) ∧ (I 2774) < 1501 by omega) (show 1 ≤ 6 ∧ 6 ≤ 7 by first | assumption | omega)) (fun r98 M99 q100 => ?_)
        rcases q100 with ⟨I100a, A100a, B100a, C100a, e101, hR100a, f102⟩
        rw [e101]
        replace hR100a : w_Rep w_TM fr X u l I100a A100a B100a C100a M99 := hR100a
        replace f102 : m_fx (w_up I 2776 (z42)) A I100a A100a := f102
        exact ⟨I100a, A100a, B100a, C100a, rfl, hR100a, (show m_fx I A I100a A100a by exact f102)⟩
    · rw [e47]
      replace hR34c : w_Rep w_TM fr X u l I34c A34c B34c C34c M33 := hR34c
      replace f48 : m_fx I A I34c A34c := f48
      exact ⟨I34c, A34c, B34c, C34c, rfl, hR34c, (show m_fx I A I34c A34c by exact f48)⟩
def m_anyFeature_Q (fr : Nat → Bool) (X : Nat → Option (q_C (Nat → Int32))) (u l : Nat) (I : Nat → Int) (A : Nat → Int → Int) (B C : Nat → Nat) (M : w_M) : w_X → w_M → Prop := fun r M' => (∃ v : Int, (r = .inl (some v)) ∧ (w_in v) ∧ (w_Rep w_TM fr X u l (w_up I 2774 ((I 2774) + 1)) A B C M') ∧ ((I 2774) + 1 < (I 2754))) ∨ (∃ (I' : Nat → Int) (A' : Nat → Int → Int) (B' C' : Nat → Nat), (r = .inr 69) ∧ (w_Rep w_TM fr X u l I' A' B' C' M') ∧ (m_fx I A I' A'))
set_option maxHeartbeats 100000000 in
set_option maxRecDepth 100000 in
theorem m_anyFeature {L : Nat} {xs : Nat → Int32} {d : Nat} {fr : Nat → Bool} {X : Nat → Option (q_C (Nat → Int32))} {u l : Nat} {I : Nat → Int} {A : Nat → Int → Int} {B C : Nat → Nat} {M : w_M} (hR : w_Rep w_TM fr X u l I A B C M) (hd : 3 ≤ d) (hTK : m_TK I A) (hNU : (0 ≤ (I 2774) ∧ (I 2774) < (I 2754) ∧ (I 2754) ≤ 1501 ∧ 0 ≤ (I 2775) ∧ (I 2775) ≤ 24) ∧ ((I 3393) = (I 3905) ∧ (I 3521) = (I 3905) ∧ (I 3649) = (I 3905) ∧ (I 3777) = (I 3905) ∧ 0 ≤ (I 3905) ∧ (I 3905) ≤ 3 * (I 2774)) ∧ ((I 4161) = (I 4033) ∧ 7 ≤ (I 4289) ∧ (I 4289) ≤ (I 4033) ∧ (I 4033) ≤ 7 + (I 2774)) ∧ 0 ≤ (I 5889) ∧ (I 5889) ≤ (I 2774)) (hf : (A 45) ((I 2774)) = 1 ∨ (A 45) ((I 2774)) = 4) : w_W (z_P L xs) d 256 (0, [(0, .ref 43)], [], M) (m_anyFeature_Q fr X u l I A B C M) := by
  obtain ⟨d, rfl⟩ : ∃ d0, d = d0 + 1 := ⟨d - 1, by omega⟩
  have wl : (I 2774) + 1 < (I 2754) := m_TK_lt hTK (by omega) (by omega) (by omega)
  refine w_adv (n := 1) (F' := (1, [(0, .ref 43)], [.ref 43], M)) rfl ?_
  refine w_gf (v := .ref 45) hR rfl rfl rfl rfl ?_
  refine w_adv (n := 1) (F' := (5, [(0, .ref 43)], [.ref 43, .ref 45], M)) rfl ?_
  refine w_gf (v := .int (Int32.ofInt ((I 2774)))) hR rfl rfl rfl rfl ?_
  obtain ⟨r1, r2⟩ : -2147483648 ≤ (I 2774) ∧ (I 2774) ≤ 2147483647 := hR.ri 2774
  refine w_la (n := 1502) hR rfl (Or.inl ⟨rfl, rfl⟩) rfl (show 0 ≤ (I 2774) by omega) (show (I 2774) < (1502 : Int) by omega) (by decide) ?_
  obtain ⟨r3, r4⟩ : -2147483648 ≤ (A 45) ((I 2774)) ∧ (A 45) ((I 2774)) ≤ 2147483647 := hR.ra 45 ((I 2774))
  show w_W _ _ _ (9, [(0, .ref 43)], [.int (Int32.ofInt ((A 45) ((I 2774))))], M) _
  refine w_adv (n := 1) (F' := (10, [(0, .ref 43)], [.int (Int32.ofInt (4)), .int (Int32.ofInt ((A 45) ((I 2774))))], M)) rfl ?_
  refine w_br2 (a := (A 45) ((I 2774))) (b := 4) rfl rfl ⟨by omega, by omega⟩ ⟨by omega, by omega⟩ (fun h5 => ?_) (fun h5 => ?_)
  · have h5 : ¬ (A 45) ((I 2774)) = 4 := h5
    show w_W _ _ _ (17, [(0, .ref 43)], [], M) _
    refine w_adv (n := 8) (F' := (74, [(1, .int (Int32.ofInt (0))), (0, .ref 43)], [.ref 43, .int (Int32.ofInt ((-1)))], M)) rfl ?_
    refine w_gf (v := .ref 46) hR rfl rfl rfl rfl ?_
    refine w_adv (n := 1) (F' := (78, [(1, .int (Int32.ofInt (0))), (0, .ref 43)], [.ref 43, .ref 46, .int (Int32.ofInt ((-1)))], M)) rfl ?_
    refine w_gf (v := .int (Int32.ofInt ((I 2774)))) hR rfl rfl rfl rfl ?_
    refine w_la (n := 1502) hR rfl (Or.inl ⟨rfl, rfl⟩) rfl (show 0 ≤ (I 2774) by omega) (show (I 2774) < (1502 : Int) by omega) (by decide) ?_
    obtain ⟨r6, r7⟩ : -2147483648 ≤ (A 46) ((I 2774)) ∧ (A 46) ((I 2774)) ≤ 2147483647 := hR.ra 46 ((I 2774))
    show w_W _ _ _ (82, [(1, .int (Int32.ofInt (0))), (0, .ref 43)], [.int (Int32.ofInt ((A 46) ((I 2774)))), .int (Int32.ofInt ((-1)))], M) _
    refine w_sub rfl ?_
    refine w_adv (n := 3) (F' := (86, [(2, .int (Int32.ofInt ((-1) - ((A 46) ((I 2774)))))), (1, .int (Int32.ofInt (0))), (0, .ref 43)], [.ref 43, .ref 43], M)) rfl ?_
    refine w_gf (v := .int (Int32.ofInt ((I 2774)))) hR rfl rfl rfl rfl ?_
    refine w_adv (n := 1) (F' := (90, [(2, .int (Int32.ofInt ((-1) - ((A 46) ((I 2774)))))), (1, .int (Int32.ofInt (0))), (0, .ref 43)], [.int (Int32.ofInt (1)), .int (Int32.ofInt ((I 2774))), .ref 43], M)) rfl ?_
    refine w_add rfl ?_
    refine w_pf hR rfl rfl rfl rfl (show w_in ((I 2774) + 1) from ⟨by omega, by omega⟩) (fun h => absurd h (by decide)) (fun M8 hR9 => ?_)
    replace hR9 : w_Rep w_TM fr X u l (w_up I 2774 ((I 2774) + 1)) A B C M8 := hR9
    refine w_adv (n := 1) (F' := (95, [(2, .int (Int32.ofInt ((-1) - ((A 46) ((I 2774)))))), (1, .int (Int32.ofInt (0))), (0, .ref 43)], [.int (Int32.ofInt ((-1) - ((A 46) ((I 2774)))))], M8)) rfl ?_
    refine w_fin (r := .inl (some ((-1) - ((A 46) ((I 2774)))))) (M' := M8) rfl ?_
    exact Or.inl ⟨(-1) - ((A 46) ((I 2774))), rfl, ⟨by omega, by omega⟩, hR9, (show (I 2774) + 1 < (I 2754) by first | assumption | omega)⟩
  · have h5 : ¬ (¬ (A 45) ((I 2774)) = 4) := h5
    have w10 : (I 2774) + 1 < (I 2754) := m_TK_lt hTK (by omega) (by omega) (by omega)
    show w_W _ _ _ (13, [(0, .ref 43)], [], M) _
    refine w_adv (n := 6) (F' := (24, [(1, .int (Int32.ofInt (1))), (0, .ref 43)], [.ref 43], M)) rfl ?_
    refine w_gf (v := .ref 46) hR rfl rfl rfl rfl ?_
    refine w_adv (n := 1) (F' := (28, [(1, .int (Int32.ofInt (1))), (0, .ref 43)], [.ref 43, .ref 46], M)) rfl ?_
    refine w_gf (v := .int (Int32.ofInt ((I 2774)))) hR rfl rfl rfl rfl ?_
    refine w_la (n := 1502) hR rfl (Or.inl ⟨rfl, rfl⟩) rfl (show 0 ≤ (I 2774) by omega) (show (I 2774) < (1502 : Int) by omega) (by decide) ?_
    obtain ⟨r11, r12⟩ : -2147483648 ≤ (A 46) ((I 2774)) ∧ (A 46) ((I 2774)) ≤ 2147483647 := hR.ra 46 ((I 2774))
    show w_W _ _ _ (32, [(1, .int (Int32.ofInt (1))), (0, .ref 43)], [.int (Int32.ofInt ((A 46) ((I 2774))))], M) _
    refine w_adv (n := 1) (F' := (33, [(1, .int (Int32.ofInt (1))), (0, .ref 43)], [.int (Int32.ofInt (1)), .int (Int32.ofInt ((A 46) ((I 2774))))], M)) rfl ?_
    refine w_br2 (a := (A 46) ((I 2774))) (b := 1) rfl rfl ⟨by omega, by omega⟩ ⟨by omega, by omega⟩ (fun h13 => ?_) (fun h13 => ?_)
    · have h13 : (A 46) ((I 2774)) < 1 := h13
      show w_W _ _ _ (50, [(1, .int (Int32.ofInt (1))), (0, .ref 43)], [], M) _
      refine w_adv (n := 2) (F' := (53, [(1, .int (Int32.ofInt (1))), (0, .ref 43)], [.int (Int32.ofInt (7)), .ref 43], M)) rfl ?_
      refine w_call (cm := 232) (as := [(0, .ref 43), (1, .int (Int32.ofInt (7)))]) (rest := []) (o := some (9, 43)) rfl (w_fitR hR rfl) (m_fail (7) hR ⟨by omega, by omega⟩ (show 0 ≤ (I 2774) ∧ (I 2774) < 1501 by omega) (show 1 ≤ 7 ∧ 7 ≤ 7 by first | assumption | omega)) (fun r14 M15 q16 => ?_)
      rcases q16 with ⟨I16a, A16a, B16a, C16a, e17, hR16a, f18⟩
      rw [e17]
      replace hR16a : w_Rep w_TM fr X u l I16a A16a B16a C16a M15 := hR16a
      replace f18 : m_fx I A I16a A16a := f18
      exact Or.inr (⟨I16a, A16a, B16a, C16a, rfl, hR16a, (show m_fx I A I16a A16a by exact f18)⟩)
    · have h13 : ¬ ((A 46) ((I 2774)) < 1) := h13
      show w_W _ _ _ (36, [(1, .int (Int32.ofInt (1))), (0, .ref 43)], [], M) _
      refine w_adv (n := 1) (F' := (37, [(1, .int (Int32.ofInt (1))), (0, .ref 43)], [.ref 43], M)) rfl ?_
      refine w_gf (v := .ref 46) hR rfl rfl rfl rfl ?_
      refine w_adv (n := 1) (F' := (41, [(1, .int (Int32.ofInt (1))), (0, .ref 43)], [.ref 43, .ref 46], M)) rfl ?_
      refine w_gf (v := .int (Int32.ofInt ((I 2774)))) hR rfl rfl rfl rfl ?_
      refine w_la (n := 1502) hR rfl (Or.inl ⟨rfl, rfl⟩) rfl (show 0 ≤ (I 2774) by omega) (show (I 2774) < (1502 : Int) by omega) (by decide) ?_
      show w_W _ _ _ (45, [(1, .int (Int32.ofInt (1))), (0, .ref 43)], [.int (Int32.ofInt ((A 46) ((I 2774))))], M) _
      refine w_adv (n := 1) (F' := (47, [(1, .int (Int32.ofInt (1))), (0, .ref 43)], [.int (Int32.ofInt (32)), .int (Int32.ofInt ((A 46) ((I 2774))))], M)) rfl ?_
      refine w_br2 (a := (A 46) ((I 2774))) (b := 32) rfl rfl ⟨by omega, by omega⟩ ⟨by omega, by omega⟩ (fun h19 => ?_) (fun h19 => ?_)
      · have h19 : (A 46) ((I 2774)) ≤ 32 := h19
        show w_W _ _ _ (56, [(1, .int (Int32.ofInt (1))), (0, .ref 43)], [], M) _
        refine w_adv (n := 3) (F' := (61, [(1, .int (Int32.ofInt (1))), (0, .ref 43)], [.ref 43], M)) rfl ?_
        refine w_gf (v := .ref 46) hR rfl rfl rfl rfl ?_
        refine w_adv (n := 1) (F' := (65, [(1, .int (Int32.ofInt (1))), (0, .ref 43)], [.ref 43, .ref 46], M)) rfl ?_
        refine w_gf (v := .int (Int32.ofInt ((I 2774)))) hR rfl rfl rfl rfl ?_
        refine w_la (n := 1502) hR rfl (Or.inl ⟨rfl, rfl⟩) rfl (show 0 ≤ (I 2774) by omega) (show (I 2774) < (1502 : Int) by omega) (by decide) ?_
        show w_W _ _ _ (69, [(1, .int (Int32.ofInt (1))), (0, .ref 43)], [.int (Int32.ofInt ((A 46) ((I 2774))))], M) _
        refine w_adv (n := 4) (F' := (86, [(2, .int (Int32.ofInt ((A 46) ((I 2774))))), (1, .int (Int32.ofInt (1))), (0, .ref 43)], [.ref 43, .ref 43], M)) rfl ?_
        refine w_gf (v := .int (Int32.ofInt ((I 2774)))) hR rfl rfl rfl rfl ?_
        refine w_adv (n := 1) (F' := (90, [(2, .int (Int32.ofInt ((A 46) ((I 2774))))), (1, .int (Int32.ofInt (1))), (0, .ref 43)], [.int (Int32.ofInt (1)), .int (Int32.ofInt ((I 2774))), .ref 43], M)) rfl ?_
        refine w_add rfl ?_
        refine w_pf hR rfl rfl rfl rfl (show w_in ((I 2774) + 1) from ⟨by omega, by omega⟩) (fun h => absurd h (by decide)) (fun M20 hR21 => ?_)
        replace hR21 : w_Rep w_TM fr X u l (w_up I 2774 ((I 2774) + 1)) A B C M20 := hR21
        refine w_adv (n := 1) (F' := (95, [(2, .int (Int32.ofInt ((A 46) ((I 2774))))), (1, .int (Int32.ofInt (1))), (0, .ref 43)], [.int (Int32.ofInt ((A 46) ((I 2774))))], M20)) rfl ?_
        refine w_fin (r := .inl (some ((A 46) ((I 2774))))) (M' := M20) rfl ?_
        exact Or.inl ⟨(A 46) ((I 2774)), rfl, ⟨by omega, by omega⟩, hR21, (show (I 2774) + 1 < (I 2754) by first | assumption | omega)⟩
      · have h19 : ¬ ((A 46) ((I 2774)) ≤ 32) := h19
        show w_W _ _ _ (50, [(1, .int (Int32.ofInt (1))), (0, .ref 43)], [], M) _
        refine w_adv (n := 2) (F' := (53, [(1, .int (Int32.ofInt (1))), (0, .ref 43)], [.int (Int32.ofInt (7)), .ref 43], M)) rfl ?_
        refine w_call (cm := 232) (as := [(0, .ref 43), (1, .int (Int32.ofInt (7)))]) (rest := []) (o := some (9, 43)) rfl (w_fitR hR rfl) (m_fail (7) hR ⟨by omega, by omega⟩ (show 0 ≤ (I 2774) ∧ (I 2774) < 1501 by omega) (show 1 ≤ 7 ∧ 7 ≤ 7 by first | assumption | omega)) (fun r22 M23 q24 => ?_)
        rcases q24 with ⟨I24a, A24a, B24a, C24a, e25, hR24a, f26⟩
        rw [e25]
        replace hR24a : w_Rep w_TM fr X u l I24a A24a B24a C24a M23 := hR24a
        replace f26 : m_fx I A I24a A24a := f26
        exact Or.inr (⟨I24a, A24a, B24a, C24a, rfl, hR24a, (show m_fx I A I24a A24a by exact f26)⟩)
def m_feature_Q (fr : Nat → Bool) (X : Nat → Option (q_C (Nat → Int32))) (u l : Nat) (I : Nat → Int) (A : Nat → Int → Int) (B C : Nat → Nat) (M : w_M) : w_X → w_M → Prop := fun r M' => (∃ v : Int, (r = .inl (some v)) ∧ (w_in v) ∧ (w_Rep w_TM fr X u l (w_up I 2774 ((I 2774) + 1)) A B C M') ∧ ((I 2774) + 1 < (I 2754))) ∨ (∃ (I' : Nat → Int) (A' : Nat → Int → Int) (B' C' : Nat → Nat), (r = .inr 69) ∧ (w_Rep w_TM fr X u l I' A' B' C' M') ∧ (m_fx I A I' A'))
set_option maxHeartbeats 100000000 in
set_option maxRecDepth 100000 in
theorem m_feature {L : Nat} {xs : Nat → Int32} {d : Nat} {fr : Nat → Bool} {X : Nat → Option (q_C (Nat → Int32))} {u l : Nat} {I : Nat → Int} {A : Nat → Int → Int} {B C : Nat → Nat} {M : w_M} (hR : w_Rep w_TM fr X u l I A B C M) (hd : 4 ≤ d) (hTK : m_TK I A) (hNU : (0 ≤ (I 2774) ∧ (I 2774) < (I 2754) ∧ (I 2754) ≤ 1501 ∧ 0 ≤ (I 2775) ∧ (I 2775) ≤ 24) ∧ ((I 3393) = (I 3905) ∧ (I 3521) = (I 3905) ∧ (I 3649) = (I 3905) ∧ (I 3777) = (I 3905) ∧ 0 ≤ (I 3905) ∧ (I 3905) ≤ 3 * (I 2774)) ∧ ((I 4161) = (I 4033) ∧ 7 ≤ (I 4289) ∧ (I 4289) ≤ (I 4033) ∧ (I 4033) ≤ 7 + (I 2774)) ∧ 0 ≤ (I 5889) ∧ (I 5889) ≤ (I 2774)) : w_W (z_P L xs) d 273 (0, [(0, .ref 43)], [], M) (m_feature_Q fr X u l I A B C M) := by
  obtain ⟨d, rfl⟩ : ∃ d0, d = d0 + 1 := ⟨d - 1, by omega⟩
  refine w_adv (n := 1) (F' := (1, [(0, .ref 43)], [.ref 43], M)) rfl ?_
  refine w_call (cm := 253) (as := [(0, .ref 43)]) (rest := []) (o := some (9, 43)) rfl (w_fitR hR rfl) (m_isFeature hR (show 0 ≤ (I 2774) ∧ (I 2774) < 1501 by omega)) (fun r1 M2 q3 => ?_)
  rcases q3 with ⟨e4, e5, f6⟩ | ⟨e7, e8, f9⟩
  · rw [e4, e5]
    replace f6 : (A 45) ((I 2774)) = 1 ∨ (A 45) ((I 2774)) = 4 := f6
    have w10 : (I 2774) + 1 < (I 2754) := m_TK_lt hTK (by omega) (by omega) (by omega)
    show w_W _ _ _ (4, [(0, .ref 43)], [.int (Int32.ofInt (1))], M) _
    refine w_adv (n := 2) (F' := (13, [(0, .ref 43)], [.ref 43], M)) rfl ?_
    refine w_call (cm := 256) (as := [(0, .ref 43)]) (rest := []) (o := some (9, 43)) rfl (w_fitR hR rfl) (m_anyFeature hR (show 3 ≤ d by omega) (show m_TK I A by exact hTK) (show (0 ≤ (I 2774) ∧ (I 2774) < (I 2754) ∧ (I 2754) ≤ 1501 ∧ 0 ≤ (I 2775) ∧ (I 2775) ≤ 24) ∧ ((I 3393) = (I 3905) ∧ (I 3521) = (I 3905) ∧ (I 3649) = (I 3905) ∧ (I 3777) = (I 3905) ∧ 0 ≤ (I 3905) ∧ (I 3905) ≤ 3 * (I 2774)) ∧ ((I 4161) = (I 4033) ∧ 7 ≤ (I 4289) ∧ (I 4289) ≤ (I 4033) ∧ (I 4033) ≤ 7 + (I 2774)) ∧ 0 ≤ (I 5889) ∧ (I 5889) ≤ (I 2774) by (repeat' apply And.intro) <;> first | assumption | omega) (show (A 45) ((I 2774)) = 1 ∨ (A 45) ((I 2774)) = 4 by first | assumption | omega)) (fun r11 M12 q13 => ?_)
    rcases q13 with ⟨v14, e15, ⟨r16, r17⟩, hR13a, f18⟩ | ⟨I13b, A13b, B13b, C13b, e19, hR13b, f20⟩
    · rw [e15]
      replace hR13a : w_Rep w_TM fr X u l (w_up I 2774 ((I 2774) + 1)) A B C M12 := hR13a
      replace f18 : (I 2774) + 1 < (I 2754) := f18
      show w_W _ _ _ (16, [(0, .ref 43)], [.int (Int32.ofInt (v14))], M12) _
      refine w_fin (r := .inl (some (v14))) (M' := M12) rfl ?_
      exact Or.inl ⟨v14, rfl, ⟨by omega, by omega⟩, hR13a, (show (I 2774) + 1 < (I 2754) by first | assumption | omega)⟩
    · rw [e19]
      replace hR13b : w_Rep w_TM fr X u l I13b A13b B13b C13b M12 := hR13b
      replace f20 : m_fx I A I13b A13b := f20
      exact Or.inr (⟨I13b, A13b, B13b, C13b, rfl, hR13b, (show m_fx I A I13b A13b by exact f20)⟩)
  · rw [e7, e8]
    replace f9 : ¬ ((A 45) ((I 2774)) = 1 ∨ (A 45) ((I 2774)) = 4) := f9
    show w_W _ _ _ (4, [(0, .ref 43)], [.int (Int32.ofInt (0))], M) _
    refine w_adv (n := 3) (F' := (9, [(0, .ref 43)], [.int (Int32.ofInt (1)), .ref 43], M)) rfl ?_
    refine w_call (cm := 232) (as := [(0, .ref 43), (1, .int (Int32.ofInt (1)))]) (rest := []) (o := some (9, 43)) rfl (w_fitR hR rfl) (m_fail (1) hR ⟨by omega, by omega⟩ (show 0 ≤ (I 2774) ∧ (I 2774) < 1501 by omega) (show 1 ≤ 1 ∧ 1 ≤ 7 by first | assumption | omega)) (fun r21 M22 q23 => ?_)
    rcases q23 with ⟨I23a, A23a, B23a, C23a, e24, hR23a, f25⟩
    rw [e24]
    replace hR23a : w_Rep w_TM fr X u l I23a A23a B23a C23a M22 := hR23a
    replace f25 : m_fx I A I23a A23a := f25
    exact Or.inr (⟨I23a, A23a, B23a, C23a, rfl, hR23a, (show m_fx I A I23a A23a by exact f25)⟩)
theorem m_bind_SC {I I' : Nat → Int} {A A' : Nat → Int → Int} (h : m_SC I A) (hn : 0 ≤ I 4033) (hs : 0 ≤ I 4289) (e1 : I' 4289 = I 4289 + 1) (e2 : I' 4033 = I 4033 + 1) (h67 : ∀ i, 0 ≤ i → i < I 4289 → A' 67 i = A 67 i) (g67 : A' 67 (I 4289) = I 4033) (h63 : ∀ i, 0 ≤ i → i < I 4033 → A' 63 i = A 63 i) (g63 : 0 ≤ A' 63 (I 4033) ∧ A' 63 (I 4033) < 400) : m_SC I' A' := by
  obtain ⟨a1, a2⟩ := h
  unfold m_SC
  rw [e1, e2]
  refine ⟨fun i h0 h1 => ?_, fun i h0 h1 => ?_⟩
  · by_cases e : i = I 4289
    · rw [e, g67]; omega
    · have := a1 i h0 (by omega)
      rw [h67 i h0 (by omega)]; omega
  · by_cases e : i = I 4033
    · rw [e]; exact g63
    · rw [h63 i h0 (by omega)]; exact a2 i h0 (by omega)
theorem m_bind_TR {lo : Int → Int × Int} {I I' : Nat → Int} {A A' : Nat → Int → Int} (h : m_TR lo I A) (e1 : I' 3905 = I 3905) (e2 : I 4033 ≤ I' 4033) (h53 : A' 53 = A 53) (h55 : A' 55 = A 55) (h57 : A' 57 = A 57) (h59 : A' 59 = A 59) (h61 : A' 61 = A 61) : m_TR lo I' A' := by
  intro p h0 hp
  rw [e1] at hp ⊢
  rw [h53, h55, h57, h59, h61]
  obtain ⟨g1, g2⟩ := h p h0 hp
  exact ⟨t_N_cong (n := I 3905) (fun _ _ _ => rfl) (fun _ _ _ => rfl) e2 h0 hp g1, g2⟩
def m_bind_Q (fr : Nat → Bool) (X : Nat → Option (q_C (Nat → Int32))) (u l : Nat) (I : Nat → Int) (A : Nat → Int → Int) (B C : Nat → Nat) (M : w_M) (mark : Int) (n : Int) (lo : Int → Int × Int) : w_X → w_M → Prop := fun r M' => (∃ v : Int, ∃ lo' : Int → Int × Int, ∃ (I' : Nat → Int) (A' : Nat → Int → Int) (B' C' : Nat → Nat), (r = .inl (some v)) ∧ (w_in v) ∧ (w_Rep w_TM fr X u l I' A' B' C' M') ∧ (m_fx I A I' A') ∧ (((0 ≤ (I' 2774) ∧ (I' 2774) < (I' 2754) ∧ (I' 2754) ≤ 1501 ∧ 0 ≤ (I' 2775) ∧ (I' 2775) ≤ 24) ∧ ((I' 3393) = (I' 3905) ∧ (I' 3521) = (I' 3905) ∧ (I' 3649) = (I' 3905) ∧ (I' 3777) = (I' 3905) ∧ 0 ≤ (I' 3905) ∧ (I' 3905) ≤ 3 * (I' 2774)) ∧ ((I' 4161) = (I' 4033) ∧ 7 ≤ (I' 4289) ∧ (I' 4289) ≤ (I' 4033) ∧ (I' 4033) ≤ 7 + (I' 2774)) ∧ 0 ≤ (I' 5889) ∧ (I' 5889) ≤ (I' 2774)) ∧ ((I' 2754) = (I 2754) ∧ (I 2774) + 1 ≤ (I' 2774) ∧ (I' 2775) = (I 2775) ∧ (I' 4289) = (I 4289) + 1 ∧ (I' 5889) = (I 5889)) ∧ ((I' 3905) + 2 ≤ (I 3905) + 3 * ((I' 2774) - (I 2774)) ∧ (I 3905) ≤ v ∧ v + 1 = (I' 3905) ∧ (I 4033) ≤ (I' 4033) ∧ (I' 4033) ≤ (I 4033) + ((I' 2774) - (I 2774)))) ∧ (m_SC I' A') ∧ (m_TR lo' I' A') ∧ (m_ST lo I A lo' I' A') ∧ ((fun k => k = 28) ((A' 53) (v))) ∧ (m_rt lo' (I' 3905) v) ∧ (m_RK lo' (I 3905) (I' 3905) (8 * (24 - (I 2775)) + 0))) ∨ (∃ (I' : Nat → Int) (A' : Nat → Int → Int) (B' C' : Nat → Nat), (r = .inr 69) ∧ (w_Rep w_TM fr X u l I' A' B' C' M') ∧ (m_fx I A I' A'))
set_option maxHeartbeats 100000000 in
set_option maxRecDepth 100000 in
theorem m_bind {L : Nat} {xs : Nat → Int32} {d : Nat} {fr : Nat → Bool} {X : Nat → Option (q_C (Nat → Int32))} {u l : Nat} {I : Nat → Int} {A : Nat → Int → Int} {B C : Nat → Nat} {M : w_M} (mark : Int) (n : Int) (lo : Int → Int × Int) (hR : w_Rep w_TM fr X u l I A B C M) (hd : 20 * (24 - (I 2775)) + 6 ≤ (d : Int)) (r_mark : w_in mark) (r_n : w_in n) (hTK : m_TK I A) (hNU : (0 ≤ (I 2774) ∧ (I 2774) < (I 2754) ∧ (I 2754) ≤ 1501 ∧ 0 ≤ (I 2775) ∧ (I 2775) ≤ 24) ∧ ((I 3393) = (I 3905) ∧ (I 3521) = (I 3905) ∧ (I 3649) = (I 3905) ∧ (I 3777) = (I 3905) ∧ 0 ≤ (I 3905) ∧ (I 3905) ≤ 3 * (I 2774)) ∧ ((I 4161) = (I 4033) ∧ 7 ≤ (I 4289) ∧ (I 4289) ≤ (I 4033) ∧ (I 4033) ≤ 7 + (I 2774)) ∧ 0 ≤ (I 5889) ∧ (I 5889) ≤ (I 2774)) (hSC : m_SC I A) (hTR : m_TR lo I A) (hk : (A 45) ((I 2774)) = 2) (hm : 0 ≤ mark ∧ mark ≤ (I 4289)) : w_W (z_P L xs) d 237 (0, [(0, .ref 43), (1, .int (Int32.ofInt (mark))), (2, .int (Int32.ofInt (n)))], [], M) (m_bind_Q fr X u l I A B C M mark n lo) := by
  obtain ⟨ra_mark, rb_mark⟩ := r_mark
  obtain ⟨ra_n, rb_n⟩ := r_n
  obtain ⟨d, rfl⟩ : ∃ d0, d = d0 + 1 := ⟨d - 1, by omega⟩
  have wl : (I 2774) + 1 < (I 2754) := m_TK_lt hTK (by omega) (by omega) (by omega)
  refine w_adv (n := 1) (F' := (1, [(0, .ref 43), (1, .int (Int32.ofInt (mark))), (2, .int (Int32.ofInt (n)))], [.ref 43], M)) rfl ?_
  refine w_gf (v := .ref 46) hR rfl rfl rfl rfl ?_
  refine w_adv (n := 1) (F' := (5, [(0, .ref 43), (1, .int (Int32.ofInt (mark))), (2, .int (Int32.ofInt (n)))], [.ref 43, .ref 46], M)) rfl ?_
  refine w_gf (v := .int (Int32.ofInt ((I 2774)))) hR rfl rfl rfl rfl ?_
  obtain ⟨r1, r2⟩ : -2147483648 ≤ (I 2774) ∧ (I 2774) ≤ 2147483647 := hR.ri 2774
  refine w_la (n := 1502) hR rfl (Or.inl ⟨rfl, rfl⟩) rfl (show 0 ≤ (I 2774) by omega) (show (I 2774) < (1502 : Int) by omega) (by decide) ?_
  obtain ⟨r3, r4⟩ : -2147483648 ≤ (A 46) ((I 2774)) ∧ (A 46) ((I 2774)) ≤ 2147483647 := hR.ra 46 ((I 2774))
  show w_W _ _ _ (9, [(0, .ref 43), (1, .int (Int32.ofInt (mark))), (2, .int (Int32.ofInt (n)))], [.int (Int32.ofInt ((A 46) ((I 2774))))], M) _
  refine w_adv (n := 3) (F' := (13, [(4, .int (Int32.ofInt (mark))), (3, .int (Int32.ofInt ((A 46) ((I 2774))))), (0, .ref 43), (1, .int (Int32.ofInt (mark))), (2, .int (Int32.ofInt (n)))], [], M)) rfl ?_
  have lp13 : ∀ fu : Nat, ∀ (y13_4 : Int), w_in y13_4 → 0 ≤ y13_4 → (if y13_4 < (I 4289) then (I 4289) - y13_4 else 0) < (fu : Int) → w_W (z_P L xs) (d + 1) 237 (13, [(0, .ref 43), (1, .int (Int32.ofInt (mark))), (2, .int (Int32.ofInt (n))), (3, .int (Int32.ofInt ((A 46) ((I 2774))))), (4, .int (Int32.ofInt (y13_4)))], [], M) (m_bind_Q fr X u l I A B C M mark n lo) := by
    intro fu
    induction fu with
    | zero =>
      intro y13_4 ⟨ra_y13_4, rb_y13_4⟩ hi13_0 hn13
      exfalso
      omega
    | succ fu ih13 =>
      intro y13_4 ⟨ra_y13_4, rb_y13_4⟩ hi13_0 hn13
      refine w_adv (n := 2) (F' := (16, [(0, .ref 43), (1, .int (Int32.ofInt (mark))), (2, .int (Int32.ofInt (n))), (3, .int (Int32.ofInt ((A 46) ((I 2774))))), (4, .int (Int32.ofInt (y13_4)))], [.ref 43, .int (Int32.ofInt (y13_4))], M)) rfl ?_
      refine w_gf (v := .ref 67) hR rfl rfl rfl rfl ?_
      refine w_gf (v := .int (Int32.ofInt ((I 4289)))) hR rfl rfl rfl rfl ?_
      obtain ⟨r5, r6⟩ : -2147483648 ≤ (I 4289) ∧ (I 4289) ≤ 2147483647 := hR.ri 4289
      obtain ⟨r7a, r7b, r7c⟩ : 0 ≤ (I 4289) ∧ (I 4289) ≤ (C 67 : Int) ∧ (C 67 : Int) ≤ 131072 := hR.sz (show 67 ∈ w_TM.2.2 by decide)
      refine w_br2 (a := y13_4) (b := (I 4289)) rfl rfl ⟨by omega, by omega⟩ ⟨by omega, by omega⟩ (fun h8 => ?_) (fun h8 => ?_)
      · have h8 : y13_4 ≥ (I 4289) := h8
        show w_W _ _ _ (56, [(0, .ref 43), (1, .int (Int32.ofInt (mark))), (2, .int (Int32.ofInt (n))), (3, .int (Int32.ofInt ((A 46) ((I 2774))))), (4, .int (Int32.ofInt (y13_4)))], [], M) _
        refine w_adv (n := 2) (F' := (59, [(0, .ref 43), (1, .int (Int32.ofInt (mark))), (2, .int (Int32.ofInt (n))), (3, .int (Int32.ofInt ((A 46) ((I 2774))))), (4, .int (Int32.ofInt (y13_4)))], [.int (Int32.ofInt (32)), .int (Int32.ofInt (n))], M)) rfl ?_
        refine w_br2 (a := n) (b := 32) rfl rfl ⟨by omega, by omega⟩ ⟨by omega, by omega⟩ (fun h9 => ?_) (fun h9 => ?_)
        · have h9 : n < 32 := h9
          show w_W _ _ _ (68, [(0, .ref 43), (1, .int (Int32.ofInt (mark))), (2, .int (Int32.ofInt (n))), (3, .int (Int32.ofInt ((A 46) ((I 2774))))), (4, .int (Int32.ofInt (y13_4)))], [], M) _
          refine w_adv (n := 1) (F' := (69, [(0, .ref 43), (1, .int (Int32.ofInt (mark))), (2, .int (Int32.ofInt (n))), (3, .int (Int32.ofInt ((A 46) ((I 2774))))), (4, .int (Int32.ofInt (y13_4)))], [.ref 43], M)) rfl ?_
          refine w_gf (v := .ref 63) hR rfl rfl rfl rfl ?_
          refine w_adv (n := 1) (F' := (73, [(0, .ref 43), (1, .int (Int32.ofInt (mark))), (2, .int (Int32.ofInt (n))), (3, .int (Int32.ofInt ((A 46) ((I 2774))))), (4, .int (Int32.ofInt (y13_4)))], [.int (Int32.ofInt ((A 46) ((I 2774)))), .ref 63], M)) rfl ?_
          obtain ⟨r10a, r10b, r10c⟩ : 0 ≤ (I 4033) ∧ (I 4033) ≤ (C 63 : Int) ∧ (C 63 : Int) ≤ 131072 := hR.sz (show 63 ∈ w_TM.2.2 by decide)
          refine w_call (cm := 207) (as := [(0, .ref 63), (1, .int (Int32.ofInt ((A 46) ((I 2774)))))]) (rest := []) (o := some (10, 63)) rfl (w_fitR hR rfl) (m_add ((A 46) ((I 2774))) 63 (by decide) rfl hR ⟨by omega, by omega⟩ (show (I 4033) < 65536 by first | assumption | omega)) (fun r11 M12 q13 => ?_)
          rcases q13 with ⟨g13a, b13a, c13a, e14, hR13a, f15, f16⟩
          rw [e14]
          replace hR13a : w_Rep w_TM fr X u l (w_up I 4033 ((I 4033) + 1)) (w_upF A 63 g13a) (w_upN B 63 b13a) (w_upN C 63 c13a) M12 := hR13a
          replace f15 : ∀ i, 0 ≤ i → i < (I 4033) → g13a i = (A 63) i := f15
          replace f16 : g13a ((I 4033)) = (A 46) ((I 2774)) := f16
          show w_W _ _ _ (76, [(0, .ref 43), (1, .int (Int32.ofInt (mark))), (2, .int (Int32.ofInt (n))), (3, .int (Int32.ofInt ((A 46) ((I 2774))))), (4, .int (Int32.ofInt (y13_4)))], [.int (Int32.ofInt ((I 4033)))], M12) _
          refine w_adv (n := 2) (F' := (79, [(4, .int (Int32.ofInt ((I 4033)))), (0, .ref 43), (1, .int (Int32.ofInt (mark))), (2, .int (Int32.ofInt (n))), (3, .int (Int32.ofInt ((A 46) ((I 2774)))))], [.ref 43], M12)) rfl ?_
          refine w_gf (v := .ref 65) hR13a rfl rfl rfl rfl ?_
          refine w_adv (n := 1) (F' := (83, [(4, .int (Int32.ofInt ((I 4033)))), (0, .ref 43), (1, .int (Int32.ofInt (mark))), (2, .int (Int32.ofInt (n))), (3, .int (Int32.ofInt ((A 46) ((I 2774)))))], [.int (Int32.ofInt ((-1))), .ref 65], M12)) rfl ?_
          obtain ⟨r17a, r17b, r17c⟩ : 0 ≤ (I 4161) ∧ (I 4161) ≤ (C 65 : Int) ∧ (C 65 : Int) ≤ 131072 := hR13a.sz (show 65 ∈ w_TM.2.2 by decide)
          refine w_call (cm := 207) (as := [(0, .ref 65), (1, .int (Int32.ofInt ((-1))))]) (rest := []) (o := some (10, 65)) rfl (w_fitR hR13a rfl) (m_add ((-1)) 65 (by decide) rfl hR13a ⟨by omega, by omega⟩ (show (I 4161) < 65536 by first | assumption | omega)) (fun r18 M19 q20 => ?_)
          rcases q20 with ⟨g20a, b20a, c20a, e21, hR20a, f22, f23⟩
          rw [e21]
          replace hR20a : w_Rep w_TM fr X u l (w_up (w_up I 4033 ((I 4033) + 1)) 4161 ((I 4161) + 1)) (w_upF (w_upF A 63 g13a) 65 g20a) (w_upN (w_upN B 63 b13a) 65 b20a) (w_upN (w_upN C 63 c13a) 65 c20a) M19 := hR20a
          replace f22 : ∀ i, 0 ≤ i → i < (I 4161) → g20a i = (A 65) i := f22
          replace f23 : g20a ((I 4161)) = (-1) := f23
          show w_W _ _ _ (86, [(4, .int (Int32.ofInt ((I 4033)))), (0, .ref 43), (1, .int (Int32.ofInt (mark))), (2, .int (Int32.ofInt (n))), (3, .int (Int32.ofInt ((A 46) ((I 2774)))))], [.int (Int32.ofInt ((I 4161)))], M19) _
          refine w_adv (n := 2) (F' := (89, [(4, .int (Int32.ofInt ((I 4161)))), (0, .ref 43), (1, .int (Int32.ofInt (mark))), (2, .int (Int32.ofInt (n))), (3, .int (Int32.ofInt ((A 46) ((I 2774)))))], [.ref 43], M19)) rfl ?_
          refine w_gf (v := .ref 67) hR20a rfl rfl rfl rfl ?_
          refine w_adv (n := 1) (F' := (94, [(4, .int (Int32.ofInt ((I 4161)))), (0, .ref 43), (1, .int (Int32.ofInt (mark))), (2, .int (Int32.ofInt (n))), (3, .int (Int32.ofInt ((A 46) ((I 2774)))))], [.int (Int32.ofInt ((I 4161))), .ref 67], M19)) rfl ?_
          refine w_call (cm := 207) (as := [(0, .ref 67), (1, .int (Int32.ofInt ((I 4161))))]) (rest := []) (o := some (10, 67)) rfl (w_fitR hR20a rfl) (m_add ((I 4161)) 67 (by decide) rfl hR20a ⟨by omega, by omega⟩ (show (I 4289) < 65536 by first | assumption | omega)) (fun r24 M25 q26 => ?_)
          rcases q26 with ⟨g26a, b26a, c26a, e27, hR26a, f28, f29⟩
          rw [e27]
          replace hR26a : w_Rep w_TM fr X u l (w_up (w_up (w_up I 4033 ((I 4033) + 1)) 4161 ((I 4161) + 1)) 4289 ((I 4289) + 1)) (w_upF (w_upF (w_upF A 63 g13a) 65 g20a) 67 g26a) (w_upN (w_upN (w_upN B 63 b13a) 65 b20a) 67 b26a) (w_upN (w_upN (w_upN C 63 c13a) 65 c20a) 67 c26a) M25 := hR26a
          replace f28 : ∀ i, 0 ≤ i → i < (I 4289) → g26a i = (A 67) i := f28
          replace f29 : g26a ((I 4289)) = (I 4161) := f29
          have hSC2 : m_SC (w_up (w_up (w_up I 4033 ((I 4033) + 1)) 4161 ((I 4161) + 1)) 4289 ((I 4289) + 1)) (w_upF (w_upF (w_upF A 63 g13a) 65 g20a) 67 g26a) := m_bind_SC hSC (by omega) (by omega) rfl rfl f28 (show g26a (I 4289) = I 4033 by have q := f29; omega) f15 (by have q := f16; have w := hTK.2.2.2 (I 2774) (by omega) (by omega) (by omega); show 0 ≤ g13a (I 4033) ∧ g13a (I 4033) < 400; rw [q]; exact w)
          have hTR2 : m_TR lo (w_up (w_up (w_up I 4033 ((I 4033) + 1)) 4161 ((I 4161) + 1)) 4289 ((I 4289) + 1)) (w_upF (w_upF (w_upF A 63 g13a) 65 g20a) 67 g26a) := m_bind_TR hTR rfl (show (I 4033) ≤ (I 4033) + 1 by omega) rfl rfl rfl rfl rfl
          have hST2 : m_ST lo I A lo (w_up (w_up (w_up I 4033 ((I 4033) + 1)) 4161 ((I 4161) + 1)) 4289 ((I 4289) + 1)) (w_upF (w_upF (w_upF A 63 g13a) 65 g20a) 67 g26a) := ⟨fun _ _ _ => ⟨rfl, rfl, rfl, rfl, rfl, rfl⟩, fun q h1 h2 => absurd h2 (by show ¬ q < I 3905; omega), f28, fun _ _ _ => rfl⟩
          show w_W _ _ _ (97, [(4, .int (Int32.ofInt ((I 4161)))), (0, .ref 43), (1, .int (Int32.ofInt (mark))), (2, .int (Int32.ofInt (n))), (3, .int (Int32.ofInt ((A 46) ((I 2774)))))], [.int (Int32.ofInt ((I 4289)))], M25) _
          refine w_adv (n := 3) (F' := (101, [(5, .int (Int32.ofInt ((I 4289)))), (4, .int (Int32.ofInt ((I 4161)))), (0, .ref 43), (1, .int (Int32.ofInt (mark))), (2, .int (Int32.ofInt (n))), (3, .int (Int32.ofInt ((A 46) ((I 2774)))))], [.ref 43, .ref 43], M25)) rfl ?_
          refine w_gf (v := .int (Int32.ofInt ((I 2774)))) hR26a rfl rfl rfl rfl ?_
          refine w_adv (n := 1) (F' := (105, [(5, .int (Int32.ofInt ((I 4289)))), (4, .int (Int32.ofInt ((I 4161)))), (0, .ref 43), (1, .int (Int32.ofInt (mark))), (2, .int (Int32.ofInt (n))), (3, .int (Int32.ofInt ((A 46) ((I 2774)))))], [.int (Int32.ofInt (1)), .int (Int32.ofInt ((I 2774))), .ref 43], M25)) rfl ?_
          refine w_add rfl ?_
          refine w_pf hR26a rfl rfl rfl rfl (show w_in ((I 2774) + 1) from ⟨by omega, by omega⟩) (fun h => absurd h (by decide)) (fun M30 hR31 => ?_)
          replace hR31 : w_Rep w_TM fr X u l (w_up (w_up (w_up (w_up I 4033 ((I 4033) + 1)) 4161 ((I 4161) + 1)) 4289 ((I 4289) + 1)) 2774 ((I 2774) + 1)) (w_upF (w_upF (w_upF A 63 g13a) 65 g20a) 67 g26a) (w_upN (w_upN (w_upN B 63 b13a) 65 b20a) 67 b26a) (w_upN (w_upN (w_upN C 63 c13a) 65 c20a) 67 c26a) M30 := hR31
          refine w_adv (n := 5) (F' := (116, [(5, .int (Int32.ofInt ((I 4289)))), (4, .int (Int32.ofInt ((I 4161)))), (0, .ref 43), (1, .int (Int32.ofInt (mark))), (2, .int (Int32.ofInt (n))), (3, .int (Int32.ofInt ((A 46) ((I 2774)))))], [.int (Int32.ofInt (0)), .int (Int32.ofInt (0)), .int (Int32.ofInt ((I 4161))), .int (Int32.ofInt (28)), .ref 43], M30)) rfl ?_
          refine w_call (cm := 239) (as := [(0, .ref 43), (1, .int (Int32.ofInt (28))), (2, .int (Int32.ofInt ((I 4161)))), (3, .int (Int32.ofInt (0))), (4, .int (Int32.ofInt (0)))]) (rest := []) (o := some (9, 43)) rfl (w_fitR hR31 rfl) (m_node (28) ((I 4161)) (0) (0) hR31 (show 2 ≤ d by omega) ⟨by omega, by omega⟩ ⟨by omega, by omega⟩ ⟨by omega, by omega⟩ ⟨by omega, by omega⟩ (show (I 3393) = (I 3905) by first | assumption | omega) (show (I 3521) = (I 3905) by first | assumption | omega) (show (I 3649) = (I 3905) by first | assumption | omega) (show (I 3777) = (I 3905) by first | assumption | omega) (show (I 3905) < 65536 by first | assumption | omega)) (fun r32 M33 q34 => ?_)
          rcases q34 with ⟨v35, I34a, A34a, B34a, C34a, e36, ⟨r37, r38⟩, hR34a, f39, f40⟩
          rw [e36]
          replace hR34a : w_Rep w_TM fr X u l I34a A34a B34a C34a M33 := hR34a
          replace f39 : m_fx (w_up (w_up (w_up (w_up I 4033 ((I 4033) + 1)) 4161 ((I 4161) + 1)) 4289 ((I 4289) + 1)) 2774 ((I 2774) + 1)) (w_upF (w_upF (w_upF A 63 g13a) 65 g20a) 67 g26a) I34a A34a := f39
          replace f40 : m_nd (w_up (w_up (w_up (w_up I 4033 ((I 4033) + 1)) 4161 ((I 4161) + 1)) 4289 ((I 4289) + 1)) 2774 ((I 2774) + 1)) (w_upF (w_upF (w_upF A 63 g13a) 65 g20a) 67 g26a) I34a A34a v35 28 (I 4161) 0 0 := f40
          obtain ⟨⟨n41, n42, n43, n44, n45, n46⟩, ⟨n47, n48, n49, n50, n51, n52, n53⟩⟩ : (v35 = (I 3905) ∧ (I34a 3905) = (I 3905) + 1 ∧ (I34a 3393) = (I 3393) + 1 ∧ (I34a 3521) = (I 3521) + 1 ∧ (I34a 3649) = (I 3649) + 1 ∧ (I34a 3777) = (I 3777) + 1) ∧ ((I34a 2774) = (I 2774) + 1 ∧ (I34a 2754) = (I 2754) ∧ (I34a 2775) = (I 2775) ∧ (I34a 4289) = (I 4289) + 1 ∧ (I34a 4033) = (I 4033) + 1 ∧ (I34a 4161) = (I 4161) + 1 ∧ (I34a 5889) = (I 5889)) := m_nd_num f40
          have tk54 : m_TK I34a A34a := m_TK_fx f39 hTK
          have sc55 : m_SC I34a A34a := m_SC_nd f40 hSC2
          have tr56 : m_TR (t_up lo v35 (I 3905) (8 * (24 - (I 2775)) + (0))) I34a A34a := m_TR_nd (show m_TR lo (w_up (w_up (w_up (w_up I 4033 ((I 4033) + 1)) 4161 ((I 4161) + 1)) 4289 ((I 4289) + 1)) 2774 ((I 2774) + 1)) (w_upF (w_upF (w_upF A 63 g13a) 65 g20a) 67 g26a) from hTR2) f40 (show 0 ≤ (I 3905) by omega) (show (I 3905) ≤ v35 by omega) (m_cl_ST (show m_ST lo I A lo (w_up (w_up (w_up (w_up I 4033 ((I 4033) + 1)) 4161 ((I 4161) + 1)) 4289 ((I 4289) + 1)) 2774 ((I 2774) + 1)) (w_upF (w_upF (w_upF A 63 g13a) 65 g20a) 67 g26a) from hST2) hTR (show 0 ≤ (I 3905) by omega)) (t_N_mk28 t_up_same (show 0 ≤ (I 3905) by omega) (show (I 3905) ≤ v35 by omega) (show 0 ≤ (8 * (24 - (I 2775)) + (0)) by omega) (fun q q1 q2 => by omega) ⟨by omega, by omega⟩)
          have s57 : m_ST lo I A (t_up lo v35 (I 3905) (8 * (24 - (I 2775)) + (0))) I34a A34a := m_ST_nd (l := (I 3905)) (show m_ST lo I A lo (w_up (w_up (w_up (w_up I 4033 ((I 4033) + 1)) 4161 ((I 4161) + 1)) 4289 ((I 4289) + 1)) 2774 ((I 2774) + 1)) (w_upF (w_upF (w_upF A 63 g13a) 65 g20a) 67 g26a) from hST2) f40 (show (I 3905) ≤ (I 3905) by omega) (show (I 3905) ≤ (I 3905) by omega)
          have rk58 : m_RK (t_up lo v35 (I 3905) (8 * (24 - (I 2775)) + (0))) (I 3905) (I34a 3905) (8 * (24 - (I 2775)) + (0)) := fun q q1 q2 => by rw [show q = v35 by omega, t_up_same]; exact Int.le_refl _
          have k59 : m_kd (t_up lo v35 (I 3905) (8 * (24 - (I 2775)) + (0))) I34a A34a (I 3905) (8 * (24 - (I 2775)) + (0)) v35 (fun k => k = 28) := m_kd_new f40 (show 0 ≤ (I 3905) by omega) (show (I 3905) ≤ v35 by omega) rfl
          have rt60 : m_rt (t_up lo v35 (I 3905) (8 * (24 - (I 2775)) + (0))) (I34a 3905) v35 := m_rt_new f40
          show w_W _ _ _ (119, [(5, .int (Int32.ofInt ((I 4289)))), (4, .int (Int32.ofInt ((I 4161)))), (0, .ref 43), (1, .int (Int32.ofInt (mark))), (2, .int (Int32.ofInt (n))), (3, .int (Int32.ofInt ((A 46) ((I 2774)))))], [.int (Int32.ofInt (v35))], M33) _
          refine w_fin (r := .inl (some (v35))) (M' := M33) rfl ?_
          exact Or.inl ⟨v35, (t_up lo v35 (I 3905) (8 * (24 - (I 2775)) + (0))), I34a, A34a, B34a, C34a, rfl, ⟨by omega, by omega⟩, hR34a, (show m_fx I A I34a A34a by exact f39), (show ((0 ≤ (I34a 2774) ∧ (I34a 2774) < (I34a 2754) ∧ (I34a 2754) ≤ 1501 ∧ 0 ≤ (I34a 2775) ∧ (I34a 2775) ≤ 24) ∧ ((I34a 3393) = (I34a 3905) ∧ (I34a 3521) = (I34a 3905) ∧ (I34a 3649) = (I34a 3905) ∧ (I34a 3777) = (I34a 3905) ∧ 0 ≤ (I34a 3905) ∧ (I34a 3905) ≤ 3 * (I34a 2774)) ∧ ((I34a 4161) = (I34a 4033) ∧ 7 ≤ (I34a 4289) ∧ (I34a 4289) ≤ (I34a 4033) ∧ (I34a 4033) ≤ 7 + (I34a 2774)) ∧ 0 ≤ (I34a 5889) ∧ (I34a 5889) ≤ (I34a 2774)) ∧ ((I34a 2754) = (I 2754) ∧ (I 2774) + 1 ≤ (I34a 2774) ∧ (I34a 2775) = (I 2775) ∧ (I34a 4289) = (I 4289) + 1 ∧ (I34a 5889) = (I 5889)) ∧ ((I34a 3905) + 2 ≤ (I 3905) + 3 * ((I34a 2774) - (I 2774)) ∧ (I 3905) ≤ v35 ∧ v35 + 1 = (I34a 3905) ∧ (I 4033) ≤ (I34a 4033) ∧ (I34a 4033) ≤ (I 4033) + ((I34a 2774) - (I 2774))) by (repeat' apply And.intro) <;> first | assumption | omega), (show m_SC I34a A34a by exact sc55), (show m_TR (t_up lo v35 (I 3905) (8 * (24 - (I 2775)) + (0))) I34a A34a by exact tr56), (show m_ST lo I A (t_up lo v35 (I 3905) (8 * (24 - (I 2775)) + (0))) I34a A34a by exact s57), (show (fun k => k = 28) ((A34a 53) (v35)) by exact (k59).2), (show m_rt (t_up lo v35 (I 3905) (8 * (24 - (I 2775)) + (0))) (I34a 3905) v35 by exact rt60), (show m_RK (t_up lo v35 (I 3905) (8 * (24 - (I 2775)) + (0))) (I 3905) (I34a 3905) (8 * (24 - (I 2775)) + 0) by exact m_RK_le (show m_RK (t_up lo v35 (I 3905) (8 * (24 - (I 2775)) + (0))) (I 3905) (I34a 3905) (8 * (24 - (I 2775)) + (0)) from rk58) (show (8 * (24 - (I 2775)) + (0)) ≤ 8 * (24 - (I 2775)) + 0 by omega))⟩
        · have h9 : ¬ (n < 32) := h9
          show w_W _ _ _ (62, [(0, .ref 43), (1, .int (Int32.ofInt (mark))), (2, .int (Int32.ofInt (n))), (3, .int (Int32.ofInt ((A 46) ((I 2774))))), (4, .int (Int32.ofInt (y13_4)))], [], M) _
          refine w_adv (n := 2) (F' := (65, [(0, .ref 43), (1, .int (Int32.ofInt (mark))), (2, .int (Int32.ofInt (n))), (3, .int (Int32.ofInt ((A 46) ((I 2774))))), (4, .int (Int32.ofInt (y13_4)))], [.int (Int32.ofInt (6)), .ref 43], M)) rfl ?_
          refine w_call (cm := 232) (as := [(0, .ref 43), (1, .int (Int32.ofInt (6)))]) (rest := []) (o := some (9, 43)) rfl (w_fitR hR rfl) (m_fail (6) hR ⟨by omega, by omega⟩ (show 0 ≤ (I 2774) ∧ (I 2774) < 1501 by omega) (show 1 ≤ 6 ∧ 6 ≤ 7 by first | assumption | omega)) (fun r61 M62 q63 => ?_)
          rcases q63 with ⟨I63a, A63a, B63a, C63a, e64, hR63a, f65⟩
          rw [e64]
          replace hR63a : w_Rep w_TM fr X u l I63a A63a B63a C63a M62 := hR63a
          replace f65 : m_fx I A I63a A63a := f65
          exact Or.inr (⟨I63a, A63a, B63a, C63a, rfl, hR63a, (show m_fx I A I63a A63a by exact f65)⟩)
      · have h8 : ¬ (y13_4 ≥ (I 4289)) := h8
        show w_W _ _ _ (25, [(0, .ref 43), (1, .int (Int32.ofInt (mark))), (2, .int (Int32.ofInt (n))), (3, .int (Int32.ofInt ((A 46) ((I 2774))))), (4, .int (Int32.ofInt (y13_4)))], [], M) _
        refine w_adv (n := 1) (F' := (26, [(0, .ref 43), (1, .int (Int32.ofInt (mark))), (2, .int (Int32.ofInt (n))), (3, .int (Int32.ofInt ((A 46) ((I 2774))))), (4, .int (Int32.ofInt (y13_4)))], [.ref 43], M)) rfl ?_
        refine w_gf (v := .ref 63) hR rfl rfl rfl rfl ?_
        refine w_adv (n := 1) (F' := (30, [(0, .ref 43), (1, .int (Int32.ofInt (mark))), (2, .int (Int32.ofInt (n))), (3, .int (Int32.ofInt ((A 46) ((I 2774))))), (4, .int (Int32.ofInt (y13_4)))], [.ref 43, .ref 63], M)) rfl ?_
        refine w_gf (v := .ref 67) hR rfl rfl rfl rfl ?_
        refine w_adv (n := 1) (F' := (35, [(0, .ref 43), (1, .int (Int32.ofInt (mark))), (2, .int (Int32.ofInt (n))), (3, .int (Int32.ofInt ((A 46) ((I 2774))))), (4, .int (Int32.ofInt (y13_4)))], [.int (Int32.ofInt (y13_4)), .ref 67, .ref 63], M)) rfl ?_
        refine w_call (cm := 238) (as := [(0, .ref 67), (1, .int (Int32.ofInt (y13_4)))]) (rest := [.ref 63]) (o := some (10, 67)) rfl (w_fitR hR rfl) (m_get (y13_4) 67 (by decide) rfl hR ⟨by omega, by omega⟩ (show 0 ≤ y13_4 by first | assumption | omega) (show y13_4 < (C 67 : Int) by first | assumption | omega)) (fun r66 M67 q68 => ?_)
        rcases q68 with ⟨e69, e70⟩
        rw [e69, e70]
        obtain ⟨r71, r72⟩ : -2147483648 ≤ (A 67) (y13_4) ∧ (A 67) (y13_4) ≤ 2147483647 := hR.ra 67 (y13_4)
        obtain ⟨u1, u2⟩ := hSC.1 (y13_4) (by omega) (by omega)
        show w_W _ _ _ (38, [(0, .ref 43), (1, .int (Int32.ofInt (mark))), (2, .int (Int32.ofInt (n))), (3, .int (Int32.ofInt ((A 46) ((I 2774))))), (4, .int (Int32.ofInt (y13_4)))], [.int (Int32.ofInt ((A 67) (y13_4))), .ref 63], M) _
        obtain ⟨r73a, r73b, r73c⟩ : 0 ≤ (I 4033) ∧ (I 4033) ≤ (C 63 : Int) ∧ (C 63 : Int) ≤ 131072 := hR.sz (show 63 ∈ w_TM.2.2 by decide)
        refine w_call (cm := 238) (as := [(0, .ref 63), (1, .int (Int32.ofInt ((A 67) (y13_4))))]) (rest := []) (o := some (10, 63)) rfl (w_fitR hR rfl) (m_get ((A 67) (y13_4)) 63 (by decide) rfl hR ⟨by omega, by omega⟩ (show 0 ≤ (A 67) (y13_4) by first | assumption | omega) (show (A 67) (y13_4) < (C 63 : Int) by first | assumption | omega)) (fun r74 M75 q76 => ?_)
        rcases q76 with ⟨e77, e78⟩
        rw [e77, e78]
        obtain ⟨r79, r80⟩ : -2147483648 ≤ (A 63) ((A 67) (y13_4)) ∧ (A 63) ((A 67) (y13_4)) ≤ 2147483647 := hR.ra 63 ((A 67) (y13_4))
        show w_W _ _ _ (41, [(0, .ref 43), (1, .int (Int32.ofInt (mark))), (2, .int (Int32.ofInt (n))), (3, .int (Int32.ofInt ((A 46) ((I 2774))))), (4, .int (Int32.ofInt (y13_4)))], [.int (Int32.ofInt ((A 63) ((A 67) (y13_4))))], M) _
        refine w_adv (n := 1) (F' := (42, [(0, .ref 43), (1, .int (Int32.ofInt (mark))), (2, .int (Int32.ofInt (n))), (3, .int (Int32.ofInt ((A 46) ((I 2774))))), (4, .int (Int32.ofInt (y13_4)))], [.int (Int32.ofInt ((A 46) ((I 2774)))), .int (Int32.ofInt ((A 63) ((A 67) (y13_4))))], M)) rfl ?_
        refine w_br2 (a := (A 63) ((A 67) (y13_4))) (b := (A 46) ((I 2774))) rfl rfl ⟨by omega, by omega⟩ ⟨by omega, by omega⟩ (fun h81 => ?_) (fun h81 => ?_)
        · have h81 : ¬ (A 63) ((A 67) (y13_4)) = (A 46) ((I 2774)) := h81
          show w_W _ _ _ (50, [(0, .ref 43), (1, .int (Int32.ofInt (mark))), (2, .int (Int32.ofInt (n))), (3, .int (Int32.ofInt ((A 46) ((I 2774))))), (4, .int (Int32.ofInt (y13_4)))], [], M) _
          refine w_inc (nL := 6) (a := y13_4) rfl rfl rfl (by decide) ?_
          refine w_adv (n := 1) (F' := (13, [(4, .int (Int32.ofInt (y13_4 + 1))), (0, .ref 43), (1, .int (Int32.ofInt (mark))), (2, .int (Int32.ofInt (n))), (3, .int (Int32.ofInt ((A 46) ((I 2774)))))], [], M)) rfl ?_
          refine w_ls (ls := [(0, .ref 43), (1, .int (Int32.ofInt (mark))), (2, .int (Int32.ofInt (n))), (3, .int (Int32.ofInt ((A 46) ((I 2774))))), (4, .int (Int32.ofInt (y13_4 + 1)))]) (show List.Nodup [0, 1, 2, 3, 4] by decide) (show List.Nodup [4, 0, 1, 2, 3] by decide) (List.forall_mem_cons.mpr ⟨(List.Mem.tail _ (List.Mem.head _)), (List.forall_mem_cons.mpr ⟨(List.Mem.tail _ (List.Mem.tail _ (List.Mem.head _))), (List.forall_mem_cons.mpr ⟨(List.Mem.tail _ (List.Mem.tail _ (List.Mem.tail _ (List.Mem.head _)))), (List.forall_mem_cons.mpr ⟨(List.Mem.tail _ (List.Mem.tail _ (List.Mem.tail _ (List.Mem.tail _ (List.Mem.head _))))), (List.forall_mem_cons.mpr ⟨(List.Mem.head _), (fun _ h => by cases h)⟩)⟩)⟩)⟩)⟩) ?_
          exact ih13  (y13_4 + 1) ⟨by omega, by omega⟩ (show 0 ≤ y13_4 + 1 by first | assumption | omega) (by omega)
        · have h81 : ¬ (¬ (A 63) ((A 67) (y13_4)) = (A 46) ((I 2774))) := h81
          show w_W _ _ _ (45, [(0, .ref 43), (1, .int (Int32.ofInt (mark))), (2, .int (Int32.ofInt (n))), (3, .int (Int32.ofInt ((A 46) ((I 2774))))), (4, .int (Int32.ofInt (y13_4)))], [], M) _
          refine w_adv (n := 2) (F' := (47, [(0, .ref 43), (1, .int (Int32.ofInt (mark))), (2, .int (Int32.ofInt (n))), (3, .int (Int32.ofInt ((A 46) ((I 2774))))), (4, .int (Int32.ofInt (y13_4)))], [.int (Int32.ofInt (4)), .ref 43], M)) rfl ?_
          refine w_call (cm := 232) (as := [(0, .ref 43), (1, .int (Int32.ofInt (4)))]) (rest := []) (o := some (9, 43)) rfl (w_fitR hR rfl) (m_fail (4) hR ⟨by omega, by omega⟩ (show 0 ≤ (I 2774) ∧ (I 2774) < 1501 by omega) (show 1 ≤ 4 ∧ 4 ≤ 7 by first | assumption | omega)) (fun r82 M83 q84 => ?_)
          rcases q84 with ⟨I84a, A84a, B84a, C84a, e85, hR84a, f86⟩
          rw [e85]
          replace hR84a : w_Rep w_TM fr X u l I84a A84a B84a C84a M83 := hR84a
          replace f86 : m_fx I A I84a A84a := f86
          exact Or.inr (⟨I84a, A84a, B84a, C84a, rfl, hR84a, (show m_fx I A I84a A84a by exact f86)⟩)
  refine w_ls (ls := [(0, .ref 43), (1, .int (Int32.ofInt (mark))), (2, .int (Int32.ofInt (n))), (3, .int (Int32.ofInt ((A 46) ((I 2774))))), (4, .int (Int32.ofInt (mark)))]) (show List.Nodup [0, 1, 2, 3, 4] by decide) (show List.Nodup [4, 3, 0, 1, 2] by decide) (List.forall_mem_cons.mpr ⟨(List.Mem.tail _ (List.Mem.tail _ (List.Mem.head _))), (List.forall_mem_cons.mpr ⟨(List.Mem.tail _ (List.Mem.tail _ (List.Mem.tail _ (List.Mem.head _)))), (List.forall_mem_cons.mpr ⟨(List.Mem.tail _ (List.Mem.tail _ (List.Mem.tail _ (List.Mem.tail _ (List.Mem.head _))))), (List.forall_mem_cons.mpr ⟨(List.Mem.tail _ (List.Mem.head _)), (List.forall_mem_cons.mpr ⟨(List.Mem.head _), (fun _ h => by cases h)⟩)⟩)⟩)⟩)⟩) ?_
  exact lp13 (((if mark < (I 4289) then (I 4289) - mark else 0)).toNat + 1)  (mark) ⟨by omega, by omega⟩ (show 0 ≤ mark by first | assumption | omega) (by omega)
/-- a chain so far: first and last -/
def m_LK (lo : Int → Int × Int) (I : Nat → Int) (A : Nat → Int → Int) (l R b f la : Int) (K : Int → Prop) : Prop := (f = -1 ∧ la = -1) ∨ (f < b ∧ la < b ∧ m_kd lo I A l R f K ∧ m_kd lo I A l R la K ∧ m_rt lo (I 3905) f ∧ m_rt lo (I 3905) la)
theorem m_LK_ST {lo lo' : Int → Int × Int} {I I' : Nat → Int} {A A' : Nat → Int → Int} {l R b f la : Int} {K : Int → Prop} (h : m_ST lo I A lo' I' A') (hn : I 3905 ≤ I' 3905) (g : m_LK lo I A l R b f la K) : m_LK lo' I' A' l R b f la K := by
  rcases g with g | ⟨g1, g2, g3, g4, g5, g6⟩
  · exact Or.inl g
  · obtain ⟨a1, a2, a3, a4, -⟩ := g3.1
    obtain ⟨b1, b2, b3, b4, -⟩ := g4.1
    exact Or.inr ⟨g1, g2, m_kd_ST h hn g3, m_kd_ST h hn g4, m_rt_ST h (by omega) a4 g5, m_rt_ST h (by omega) b4 g6⟩
theorem m_LK_nd {lo : Int → Int × Int} {I I' : Nat → Int} {A A' : Nat → Int → Int} {l l0 r R b f la v kd x y z : Int} {K : Int → Prop} (hn : m_nd I A I' A' v kd x y z) (hb : b ≤ l) (g : m_LK lo I A l0 R b f la K) : m_LK (t_up lo v l r) I' A' l0 R b f la K := by
  rcases g with g | ⟨g1, g2, g3, g4, g5, g6⟩
  · exact Or.inl g
  · exact Or.inr ⟨g1, g2, m_kd_nd hn g3, m_kd_nd hn g4, m_rt_nd hn (by omega) g5, m_rt_nd hn (by omega) g6⟩
