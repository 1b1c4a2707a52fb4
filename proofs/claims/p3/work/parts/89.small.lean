/-! SMALL: the small methods of the reference's parser. -/
def m_fx (I : Nat → Int) (A : Nat → Int → Int) (I' : Nat → Int) (A' : Nat → Int → Int) : Prop := (I' 2753 = I 2753 ∧ I' 2754 = I 2754 ∧ I' 2760 = I 2760 ∧ I' 2763 = I 2763 ∧ I' 6017 = I 6017 ∧ I' 4481 = I 4481 ∧ I' 4609 = I 4609 ∧ I' 4737 = I 4737 ∧ I' 4865 = I 4865 ∧ I' 4993 = I 4993 ∧ I' 5121 = I 5121 ∧ I' 5249 = I 5249 ∧ I' 5377 = I 5377 ∧ I' 5505 = I 5505 ∧ I' 5633 = I 5633 ∧ I' 5761 = I 5761) ∧ A' 44 = A 44 ∧ A' 45 = A 45 ∧ A' 46 = A 46 ∧ A' 47 = A 47 ∧ A' 48 = A 48 ∧ A' 49 = A 49 ∧ A' 50 = A 50 ∧ A' 51 = A 51 ∧ A' 52 = A 52 ∧ A' 70 = A 70
theorem m_fx_refl {I : Nat → Int} {A : Nat → Int → Int} : m_fx I A I A := ⟨⟨rfl, rfl, rfl, rfl, rfl, rfl, rfl, rfl, rfl, rfl, rfl, rfl, rfl, rfl, rfl, rfl⟩, rfl, rfl, rfl, rfl, rfl, rfl, rfl, rfl, rfl, rfl⟩
theorem m_fx_trans {I I' I'' : Nat → Int} {A A' A'' : Nat → Int → Int} (h : m_fx I A I' A') (g : m_fx I' A' I'' A'') : m_fx I A I'' A'' := by
  obtain ⟨⟨a0, a1, a2, a3, a4, a5, a6, a7, a8, a9, a10, a11, a12, a13, a14, a15⟩, b0, b1, b2, b3, b4, b5, b6, b7, b8, b9⟩ := h
  obtain ⟨⟨c0, c1, c2, c3, c4, c5, c6, c7, c8, c9, c10, c11, c12, c13, c14, c15⟩, d0, d1, d2, d3, d4, d5, d6, d7, d8, d9⟩ := g
  exact ⟨⟨c0.trans a0, c1.trans a1, c2.trans a2, c3.trans a3, c4.trans a4, c5.trans a5, c6.trans a6, c7.trans a7, c8.trans a8, c9.trans a9, c10.trans a10, c11.trans a11, c12.trans a12, c13.trans a13, c14.trans a14, c15.trans a15⟩, d0.trans b0, d1.trans b1, d2.trans b2, d3.trans b3, d4.trans b4, d5.trans b5, d6.trans b6, d7.trans b7, d8.trans b8, d9.trans b9⟩
/-- a node more -/
def m_nd (I : Nat → Int) (A : Nat → Int → Int) (I' : Nat → Int) (A' : Nat → Int → Int) (v kd a b c : Int) : Prop := v = I 3905 ∧ (I' 3393 = I 3393 + 1 ∧ I' 3521 = I 3521 + 1 ∧ I' 3649 = I 3649 + 1 ∧ I' 3777 = I 3777 + 1 ∧ I' 3905 = I 3905 + 1) ∧ (∀ s, s ≠ 3393 → s ≠ 3521 → s ≠ 3649 → s ≠ 3777 → s ≠ 3905 → I' s = I s) ∧ (∀ j, j ≠ 53 → j ≠ 55 → j ≠ 57 → j ≠ 59 → j ≠ 61 → A' j = A j) ∧ (∀ i, 0 ≤ i → i < v → A' 53 i = A 53 i ∧ A' 55 i = A 55 i ∧ A' 57 i = A 57 i ∧ A' 59 i = A 59 i ∧ A' 61 i = A 61 i) ∧ A' 53 v = kd ∧ A' 55 v = a ∧ A' 57 v = b ∧ A' 59 v = c ∧ A' 61 v = -1
def m_isSign_Q (fr : Nat → Bool) (X : Nat → Option (q_C (Nat → Int32))) (u l : Nat) (I : Nat → Int) (A : Nat → Int → Int) (B C : Nat → Nat) (M : w_M) (s : Int) : w_X → w_M → Prop := fun r M' => ((r = .inl (some 1)) ∧ (M' = M) ∧ ((A 45) ((I 2774)) = 6 ∧ (A 46) ((I 2774)) = s)) ∨ ((r = .inl (some 0)) ∧ (M' = M) ∧ (¬ ((A 45) ((I 2774)) = 6 ∧ (A 46) ((I 2774)) = s)))
set_option maxHeartbeats 100000000 in
set_option maxRecDepth 100000 in
theorem m_isSign {L : Nat} {xs : Nat → Int32} {d : Nat} {fr : Nat → Bool} {X : Nat → Option (q_C (Nat → Int32))} {u l : Nat} {I : Nat → Int} {A : Nat → Int → Int} {B C : Nat → Nat} {M : w_M} (s : Int) (hR : w_Rep w_TM fr X u l I A B C M) (r_s : w_in s) (hat : 0 ≤ (I 2774) ∧ (I 2774) < 1501) : w_W (z_P L xs) d 230 (0, [(0, .ref 43), (1, .int (Int32.ofInt (s)))], [], M) (m_isSign_Q fr X u l I A B C M s) := by
  obtain ⟨ra_s, rb_s⟩ := r_s
  refine w_adv (n := 1) (F' := (1, [(0, .ref 43), (1, .int (Int32.ofInt (s)))], [.ref 43], M)) rfl ?_
  refine w_gf (v := .ref 45) hR rfl rfl rfl rfl ?_
  refine w_adv (n := 1) (F' := (5, [(0, .ref 43), (1, .int (Int32.ofInt (s)))], [.ref 43, .ref 45], M)) rfl ?_
  refine w_gf (v := .int (Int32.ofInt ((I 2774)))) hR rfl rfl rfl rfl ?_
  obtain ⟨r1, r2⟩ : -2147483648 ≤ (I 2774) ∧ (I 2774) ≤ 2147483647 := hR.ri 2774
  refine w_la (n := 1502) hR rfl (Or.inl ⟨rfl, rfl⟩) rfl (show 0 ≤ (I 2774) by omega) (show (I 2774) < (1502 : Int) by omega) (by decide) ?_
  obtain ⟨r3, r4⟩ : -2147483648 ≤ (A 45) ((I 2774)) ∧ (A 45) ((I 2774)) ≤ 2147483647 := hR.ra 45 ((I 2774))
  show w_W _ _ _ (9, [(0, .ref 43), (1, .int (Int32.ofInt (s)))], [.int (Int32.ofInt ((A 45) ((I 2774))))], M) _
  refine w_adv (n := 1) (F' := (11, [(0, .ref 43), (1, .int (Int32.ofInt (s)))], [.int (Int32.ofInt (6)), .int (Int32.ofInt ((A 45) ((I 2774))))], M)) rfl ?_
  refine w_br2 (a := (A 45) ((I 2774))) (b := 6) rfl rfl ⟨by omega, by omega⟩ ⟨by omega, by omega⟩ (fun h5 => ?_) (fun h5 => ?_)
  · have h5 : ¬ (A 45) ((I 2774)) = 6 := h5
    show w_W _ _ _ (31, [(0, .ref 43), (1, .int (Int32.ofInt (s)))], [], M) _
    refine w_adv (n := 1) (F' := (32, [(0, .ref 43), (1, .int (Int32.ofInt (s)))], [.int (Int32.ofInt (0))], M)) rfl ?_
    refine w_fin (r := .inl (some (0))) (M' := M) rfl ?_
    exact Or.inr (⟨rfl, rfl, (show ¬ ((A 45) ((I 2774)) = 6 ∧ (A 46) ((I 2774)) = s) by first | assumption | omega)⟩)
  · have h5 : ¬ (¬ (A 45) ((I 2774)) = 6) := h5
    show w_W _ _ _ (14, [(0, .ref 43), (1, .int (Int32.ofInt (s)))], [], M) _
    refine w_adv (n := 1) (F' := (15, [(0, .ref 43), (1, .int (Int32.ofInt (s)))], [.ref 43], M)) rfl ?_
    refine w_gf (v := .ref 46) hR rfl rfl rfl rfl ?_
    refine w_adv (n := 1) (F' := (19, [(0, .ref 43), (1, .int (Int32.ofInt (s)))], [.ref 43, .ref 46], M)) rfl ?_
    refine w_gf (v := .int (Int32.ofInt ((I 2774)))) hR rfl rfl rfl rfl ?_
    refine w_la (n := 1502) hR rfl (Or.inl ⟨rfl, rfl⟩) rfl (show 0 ≤ (I 2774) by omega) (show (I 2774) < (1502 : Int) by omega) (by decide) ?_
    obtain ⟨r6, r7⟩ : -2147483648 ≤ (A 46) ((I 2774)) ∧ (A 46) ((I 2774)) ≤ 2147483647 := hR.ra 46 ((I 2774))
    show w_W _ _ _ (23, [(0, .ref 43), (1, .int (Int32.ofInt (s)))], [.int (Int32.ofInt ((A 46) ((I 2774))))], M) _
    refine w_adv (n := 1) (F' := (24, [(0, .ref 43), (1, .int (Int32.ofInt (s)))], [.int (Int32.ofInt (s)), .int (Int32.ofInt ((A 46) ((I 2774))))], M)) rfl ?_
    refine w_br2 (a := (A 46) ((I 2774))) (b := s) rfl rfl ⟨by omega, by omega⟩ ⟨by omega, by omega⟩ (fun h8 => ?_) (fun h8 => ?_)
    · have h8 : ¬ (A 46) ((I 2774)) = s := h8
      show w_W _ _ _ (31, [(0, .ref 43), (1, .int (Int32.ofInt (s)))], [], M) _
      refine w_adv (n := 1) (F' := (32, [(0, .ref 43), (1, .int (Int32.ofInt (s)))], [.int (Int32.ofInt (0))], M)) rfl ?_
      refine w_fin (r := .inl (some (0))) (M' := M) rfl ?_
      exact Or.inr (⟨rfl, rfl, (show ¬ ((A 45) ((I 2774)) = 6 ∧ (A 46) ((I 2774)) = s) by first | assumption | omega)⟩)
    · have h8 : ¬ (¬ (A 46) ((I 2774)) = s) := h8
      show w_W _ _ _ (27, [(0, .ref 43), (1, .int (Int32.ofInt (s)))], [], M) _
      refine w_adv (n := 2) (F' := (32, [(0, .ref 43), (1, .int (Int32.ofInt (s)))], [.int (Int32.ofInt (1))], M)) rfl ?_
      refine w_fin (r := .inl (some (1))) (M' := M) rfl ?_
      exact Or.inl ⟨rfl, rfl, (show (A 45) ((I 2774)) = 6 ∧ (A 46) ((I 2774)) = s by first | assumption | omega)⟩
def m_isWord_Q (fr : Nat → Bool) (X : Nat → Option (q_C (Nat → Int32))) (u l : Nat) (I : Nat → Int) (A : Nat → Int → Int) (B C : Nat → Nat) (M : w_M) (s : Int) : w_X → w_M → Prop := fun r M' => ((r = .inl (some 1)) ∧ (M' = M) ∧ ((A 45) ((I 2774)) = 5 ∧ (A 46) ((I 2774)) = s)) ∨ ((r = .inl (some 0)) ∧ (M' = M) ∧ (¬ ((A 45) ((I 2774)) = 5 ∧ (A 46) ((I 2774)) = s)))
set_option maxHeartbeats 100000000 in
set_option maxRecDepth 100000 in
theorem m_isWord {L : Nat} {xs : Nat → Int32} {d : Nat} {fr : Nat → Bool} {X : Nat → Option (q_C (Nat → Int32))} {u l : Nat} {I : Nat → Int} {A : Nat → Int → Int} {B C : Nat → Nat} {M : w_M} (s : Int) (hR : w_Rep w_TM fr X u l I A B C M) (r_s : w_in s) (hat : 0 ≤ (I 2774) ∧ (I 2774) < 1501) : w_W (z_P L xs) d 231 (0, [(0, .ref 43), (1, .int (Int32.ofInt (s)))], [], M) (m_isWord_Q fr X u l I A B C M s) := by
  obtain ⟨ra_s, rb_s⟩ := r_s
  refine w_adv (n := 1) (F' := (1, [(0, .ref 43), (1, .int (Int32.ofInt (s)))], [.ref 43], M)) rfl ?_
  refine w_gf (v := .ref 45) hR rfl rfl rfl rfl ?_
  refine w_adv (n := 1) (F' := (5, [(0, .ref 43), (1, .int (Int32.ofInt (s)))], [.ref 43, .ref 45], M)) rfl ?_
  refine w_gf (v := .int (Int32.ofInt ((I 2774)))) hR rfl rfl rfl rfl ?_
  obtain ⟨r1, r2⟩ : -2147483648 ≤ (I 2774) ∧ (I 2774) ≤ 2147483647 := hR.ri 2774
  refine w_la (n := 1502) hR rfl (Or.inl ⟨rfl, rfl⟩) rfl (show 0 ≤ (I 2774) by omega) (show (I 2774) < (1502 : Int) by omega) (by decide) ?_
  obtain ⟨r3, r4⟩ : -2147483648 ≤ (A 45) ((I 2774)) ∧ (A 45) ((I 2774)) ≤ 2147483647 := hR.ra 45 ((I 2774))
  show w_W _ _ _ (9, [(0, .ref 43), (1, .int (Int32.ofInt (s)))], [.int (Int32.ofInt ((A 45) ((I 2774))))], M) _
  refine w_adv (n := 1) (F' := (10, [(0, .ref 43), (1, .int (Int32.ofInt (s)))], [.int (Int32.ofInt (5)), .int (Int32.ofInt ((A 45) ((I 2774))))], M)) rfl ?_
  refine w_br2 (a := (A 45) ((I 2774))) (b := 5) rfl rfl ⟨by omega, by omega⟩ ⟨by omega, by omega⟩ (fun h5 => ?_) (fun h5 => ?_)
  · have h5 : ¬ (A 45) ((I 2774)) = 5 := h5
    show w_W _ _ _ (30, [(0, .ref 43), (1, .int (Int32.ofInt (s)))], [], M) _
    refine w_adv (n := 1) (F' := (31, [(0, .ref 43), (1, .int (Int32.ofInt (s)))], [.int (Int32.ofInt (0))], M)) rfl ?_
    refine w_fin (r := .inl (some (0))) (M' := M) rfl ?_
    exact Or.inr (⟨rfl, rfl, (show ¬ ((A 45) ((I 2774)) = 5 ∧ (A 46) ((I 2774)) = s) by first | assumption | omega)⟩)
  · have h5 : ¬ (¬ (A 45) ((I 2774)) = 5) := h5
    show w_W _ _ _ (13, [(0, .ref 43), (1, .int (Int32.ofInt (s)))], [], M) _
    refine w_adv (n := 1) (F' := (14, [(0, .ref 43), (1, .int (Int32.ofInt (s)))], [.ref 43], M)) rfl ?_
    refine w_gf (v := .ref 46) hR rfl rfl rfl rfl ?_
    refine w_adv (n := 1) (F' := (18, [(0, .ref 43), (1, .int (Int32.ofInt (s)))], [.ref 43, .ref 46], M)) rfl ?_
    refine w_gf (v := .int (Int32.ofInt ((I 2774)))) hR rfl rfl rfl rfl ?_
    refine w_la (n := 1502) hR rfl (Or.inl ⟨rfl, rfl⟩) rfl (show 0 ≤ (I 2774) by omega) (show (I 2774) < (1502 : Int) by omega) (by decide) ?_
    obtain ⟨r6, r7⟩ : -2147483648 ≤ (A 46) ((I 2774)) ∧ (A 46) ((I 2774)) ≤ 2147483647 := hR.ra 46 ((I 2774))
    show w_W _ _ _ (22, [(0, .ref 43), (1, .int (Int32.ofInt (s)))], [.int (Int32.ofInt ((A 46) ((I 2774))))], M) _
    refine w_adv (n := 1) (F' := (23, [(0, .ref 43), (1, .int (Int32.ofInt (s)))], [.int (Int32.ofInt (s)), .int (Int32.ofInt ((A 46) ((I 2774))))], M)) rfl ?_
    refine w_br2 (a := (A 46) ((I 2774))) (b := s) rfl rfl ⟨by omega, by omega⟩ ⟨by omega, by omega⟩ (fun h8 => ?_) (fun h8 => ?_)
    · have h8 : ¬ (A 46) ((I 2774)) = s := h8
      show w_W _ _ _ (30, [(0, .ref 43), (1, .int (Int32.ofInt (s)))], [], M) _
      refine w_adv (n := 1) (F' := (31, [(0, .ref 43), (1, .int (Int32.ofInt (s)))], [.int (Int32.ofInt (0))], M)) rfl ?_
      refine w_fin (r := .inl (some (0))) (M' := M) rfl ?_
      exact Or.inr (⟨rfl, rfl, (show ¬ ((A 45) ((I 2774)) = 5 ∧ (A 46) ((I 2774)) = s) by first | assumption | omega)⟩)
    · have h8 : ¬ (¬ (A 46) ((I 2774)) = s) := h8
      show w_W _ _ _ (26, [(0, .ref 43), (1, .int (Int32.ofInt (s)))], [], M) _
      refine w_adv (n := 2) (F' := (31, [(0, .ref 43), (1, .int (Int32.ofInt (s)))], [.int (Int32.ofInt (1))], M)) rfl ?_
      refine w_fin (r := .inl (some (1))) (M' := M) rfl ?_
      exact Or.inl ⟨rfl, rfl, (show (A 45) ((I 2774)) = 5 ∧ (A 46) ((I 2774)) = s by first | assumption | omega)⟩
def m_isFeature_Q (fr : Nat → Bool) (X : Nat → Option (q_C (Nat → Int32))) (u l : Nat) (I : Nat → Int) (A : Nat → Int → Int) (B C : Nat → Nat) (M : w_M) : w_X → w_M → Prop := fun r M' => ((r = .inl (some 1)) ∧ (M' = M) ∧ ((A 45) ((I 2774)) = 1 ∨ (A 45) ((I 2774)) = 4)) ∨ ((r = .inl (some 0)) ∧ (M' = M) ∧ (¬ ((A 45) ((I 2774)) = 1 ∨ (A 45) ((I 2774)) = 4)))
set_option maxHeartbeats 100000000 in
set_option maxRecDepth 100000 in
theorem m_isFeature {L : Nat} {xs : Nat → Int32} {d : Nat} {fr : Nat → Bool} {X : Nat → Option (q_C (Nat → Int32))} {u l : Nat} {I : Nat → Int} {A : Nat → Int → Int} {B C : Nat → Nat} {M : w_M} (hR : w_Rep w_TM fr X u l I A B C M) (hat : 0 ≤ (I 2774) ∧ (I 2774) < 1501) : w_W (z_P L xs) d 253 (0, [(0, .ref 43)], [], M) (m_isFeature_Q fr X u l I A B C M) := by
  refine w_adv (n := 1) (F' := (1, [(0, .ref 43)], [.ref 43], M)) rfl ?_
  refine w_gf (v := .ref 45) hR rfl rfl rfl rfl ?_
  refine w_adv (n := 1) (F' := (5, [(0, .ref 43)], [.ref 43, .ref 45], M)) rfl ?_
  refine w_gf (v := .int (Int32.ofInt ((I 2774)))) hR rfl rfl rfl rfl ?_
  obtain ⟨r1, r2⟩ : -2147483648 ≤ (I 2774) ∧ (I 2774) ≤ 2147483647 := hR.ri 2774
  refine w_la (n := 1502) hR rfl (Or.inl ⟨rfl, rfl⟩) rfl (show 0 ≤ (I 2774) by omega) (show (I 2774) < (1502 : Int) by omega) (by decide) ?_
  obtain ⟨r3, r4⟩ : -2147483648 ≤ (A 45) ((I 2774)) ∧ (A 45) ((I 2774)) ≤ 2147483647 := hR.ra 45 ((I 2774))
  show w_W _ _ _ (9, [(0, .ref 43)], [.int (Int32.ofInt ((A 45) ((I 2774))))], M) _
  refine w_adv (n := 1) (F' := (10, [(0, .ref 43)], [.int (Int32.ofInt (1)), .int (Int32.ofInt ((A 45) ((I 2774))))], M)) rfl ?_
  refine w_br2 (a := (A 45) ((I 2774))) (b := 1) rfl rfl ⟨by omega, by omega⟩ ⟨by omega, by omega⟩ (fun h5 => ?_) (fun h5 => ?_)
  · have h5 : (A 45) ((I 2774)) = 1 := h5
    show w_W _ _ _ (26, [(0, .ref 43)], [], M) _
    refine w_adv (n := 2) (F' := (31, [(0, .ref 43)], [.int (Int32.ofInt (1))], M)) rfl ?_
    refine w_fin (r := .inl (some (1))) (M' := M) rfl ?_
    exact Or.inl ⟨rfl, rfl, (show (A 45) ((I 2774)) = 1 ∨ (A 45) ((I 2774)) = 4 by first | assumption | omega)⟩
  · have h5 : ¬ ((A 45) ((I 2774)) = 1) := h5
    show w_W _ _ _ (13, [(0, .ref 43)], [], M) _
    refine w_adv (n := 1) (F' := (14, [(0, .ref 43)], [.ref 43], M)) rfl ?_
    refine w_gf (v := .ref 45) hR rfl rfl rfl rfl ?_
    refine w_adv (n := 1) (F' := (18, [(0, .ref 43)], [.ref 43, .ref 45], M)) rfl ?_
    refine w_gf (v := .int (Int32.ofInt ((I 2774)))) hR rfl rfl rfl rfl ?_
    refine w_la (n := 1502) hR rfl (Or.inl ⟨rfl, rfl⟩) rfl (show 0 ≤ (I 2774) by omega) (show (I 2774) < (1502 : Int) by omega) (by decide) ?_
    show w_W _ _ _ (22, [(0, .ref 43)], [.int (Int32.ofInt ((A 45) ((I 2774))))], M) _
    refine w_adv (n := 1) (F' := (23, [(0, .ref 43)], [.int (Int32.ofInt (4)), .int (Int32.ofInt ((A 45) ((I 2774))))], M)) rfl ?_
    refine w_br2 (a := (A 45) ((I 2774))) (b := 4) rfl rfl ⟨by omega, by omega⟩ ⟨by omega, by omega⟩ (fun h6 => ?_) (fun h6 => ?_)
    · have h6 : ¬ (A 45) ((I 2774)) = 4 := h6
      show w_W _ _ _ (30, [(0, .ref 43)], [], M) _
      refine w_adv (n := 1) (F' := (31, [(0, .ref 43)], [.int (Int32.ofInt (0))], M)) rfl ?_
      refine w_fin (r := .inl (some (0))) (M' := M) rfl ?_
      exact Or.inr (⟨rfl, rfl, (show ¬ ((A 45) ((I 2774)) = 1 ∨ (A 45) ((I 2774)) = 4) by first | assumption | omega)⟩)
    · have h6 : ¬ (¬ (A 45) ((I 2774)) = 4) := h6
      show w_W _ _ _ (26, [(0, .ref 43)], [], M) _
      refine w_adv (n := 2) (F' := (31, [(0, .ref 43)], [.int (Int32.ofInt (1))], M)) rfl ?_
      refine w_fin (r := .inl (some (1))) (M' := M) rfl ?_
      exact Or.inl ⟨rfl, rfl, (show (A 45) ((I 2774)) = 1 ∨ (A 45) ((I 2774)) = 4 by first | assumption | omega)⟩
def m_isColon_Q (fr : Nat → Bool) (X : Nat → Option (q_C (Nat → Int32))) (u l : Nat) (I : Nat → Int) (A : Nat → Int → Int) (B C : Nat → Nat) (M : w_M) : w_X → w_M → Prop := fun r M' => ((r = .inl (some 1)) ∧ (M' = M) ∧ ((A 45) ((I 2774) + 1) = 6 ∧ (A 46) ((I 2774) + 1) = 58)) ∨ ((r = .inl (some 0)) ∧ (M' = M) ∧ (¬ ((A 45) ((I 2774) + 1) = 6 ∧ (A 46) ((I 2774) + 1) = 58)))
set_option maxHeartbeats 100000000 in
set_option maxRecDepth 100000 in
theorem m_isColon {L : Nat} {xs : Nat → Int32} {d : Nat} {fr : Nat → Bool} {X : Nat → Option (q_C (Nat → Int32))} {u l : Nat} {I : Nat → Int} {A : Nat → Int → Int} {B C : Nat → Nat} {M : w_M} (hR : w_Rep w_TM fr X u l I A B C M) (hat : 0 ≤ (I 2774) ∧ (I 2774) < 1501) : w_W (z_P L xs) d 254 (0, [(0, .ref 43)], [], M) (m_isColon_Q fr X u l I A B C M) := by
  refine w_adv (n := 1) (F' := (1, [(0, .ref 43)], [.ref 43], M)) rfl ?_
  refine w_gf (v := .ref 45) hR rfl rfl rfl rfl ?_
  refine w_adv (n := 1) (F' := (5, [(0, .ref 43)], [.ref 43, .ref 45], M)) rfl ?_
  refine w_gf (v := .int (Int32.ofInt ((I 2774)))) hR rfl rfl rfl rfl ?_
  obtain ⟨r1, r2⟩ : -2147483648 ≤ (I 2774) ∧ (I 2774) ≤ 2147483647 := hR.ri 2774
  refine w_adv (n := 1) (F' := (9, [(0, .ref 43)], [.int (Int32.ofInt (1)), .int (Int32.ofInt ((I 2774))), .ref 45], M)) rfl ?_
  refine w_add rfl ?_
  refine w_la (n := 1502) hR rfl (Or.inl ⟨rfl, rfl⟩) rfl (show 0 ≤ (I 2774) + 1 by omega) (show (I 2774) + 1 < (1502 : Int) by omega) (by decide) ?_
  obtain ⟨r3, r4⟩ : -2147483648 ≤ (A 45) ((I 2774) + 1) ∧ (A 45) ((I 2774) + 1) ≤ 2147483647 := hR.ra 45 ((I 2774) + 1)
  show w_W _ _ _ (11, [(0, .ref 43)], [.int (Int32.ofInt ((A 45) ((I 2774) + 1)))], M) _
  refine w_adv (n := 1) (F' := (13, [(0, .ref 43)], [.int (Int32.ofInt (6)), .int (Int32.ofInt ((A 45) ((I 2774) + 1)))], M)) rfl ?_
  refine w_br2 (a := (A 45) ((I 2774) + 1)) (b := 6) rfl rfl ⟨by omega, by omega⟩ ⟨by omega, by omega⟩ (fun h5 => ?_) (fun h5 => ?_)
  · have h5 : ¬ (A 45) ((I 2774) + 1) = 6 := h5
    show w_W _ _ _ (36, [(0, .ref 43)], [], M) _
    refine w_adv (n := 1) (F' := (37, [(0, .ref 43)], [.int (Int32.ofInt (0))], M)) rfl ?_
    refine w_fin (r := .inl (some (0))) (M' := M) rfl ?_
    exact Or.inr (⟨rfl, rfl, (show ¬ ((A 45) ((I 2774) + 1) = 6 ∧ (A 46) ((I 2774) + 1) = 58) by first | assumption | omega)⟩)
  · have h5 : ¬ (¬ (A 45) ((I 2774) + 1) = 6) := h5
    show w_W _ _ _ (16, [(0, .ref 43)], [], M) _
    refine w_adv (n := 1) (F' := (17, [(0, .ref 43)], [.ref 43], M)) rfl ?_
    refine w_gf (v := .ref 46) hR rfl rfl rfl rfl ?_
    refine w_adv (n := 1) (F' := (21, [(0, .ref 43)], [.ref 43, .ref 46], M)) rfl ?_
    refine w_gf (v := .int (Int32.ofInt ((I 2774)))) hR rfl rfl rfl rfl ?_
    refine w_adv (n := 1) (F' := (25, [(0, .ref 43)], [.int (Int32.ofInt (1)), .int (Int32.ofInt ((I 2774))), .ref 46], M)) rfl ?_
    refine w_add rfl ?_
    refine w_la (n := 1502) hR rfl (Or.inl ⟨rfl, rfl⟩) rfl (show 0 ≤ (I 2774) + 1 by omega) (show (I 2774) + 1 < (1502 : Int) by omega) (by decide) ?_
    obtain ⟨r6, r7⟩ : -2147483648 ≤ (A 46) ((I 2774) + 1) ∧ (A 46) ((I 2774) + 1) ≤ 2147483647 := hR.ra 46 ((I 2774) + 1)
    show w_W _ _ _ (27, [(0, .ref 43)], [.int (Int32.ofInt ((A 46) ((I 2774) + 1)))], M) _
    refine w_adv (n := 1) (F' := (29, [(0, .ref 43)], [.int (Int32.ofInt (58)), .int (Int32.ofInt ((A 46) ((I 2774) + 1)))], M)) rfl ?_
    refine w_br2 (a := (A 46) ((I 2774) + 1)) (b := 58) rfl rfl ⟨by omega, by omega⟩ ⟨by omega, by omega⟩ (fun h8 => ?_) (fun h8 => ?_)
    · have h8 : ¬ (A 46) ((I 2774) + 1) = 58 := h8
      show w_W _ _ _ (36, [(0, .ref 43)], [], M) _
      refine w_adv (n := 1) (F' := (37, [(0, .ref 43)], [.int (Int32.ofInt (0))], M)) rfl ?_
      refine w_fin (r := .inl (some (0))) (M' := M) rfl ?_
      exact Or.inr (⟨rfl, rfl, (show ¬ ((A 45) ((I 2774) + 1) = 6 ∧ (A 46) ((I 2774) + 1) = 58) by first | assumption | omega)⟩)
    · have h8 : ¬ (¬ (A 46) ((I 2774) + 1) = 58) := h8
      show w_W _ _ _ (32, [(0, .ref 43)], [], M) _
      refine w_adv (n := 2) (F' := (37, [(0, .ref 43)], [.int (Int32.ofInt (1))], M)) rfl ?_
      refine w_fin (r := .inl (some (1))) (M' := M) rfl ?_
      exact Or.inl ⟨rfl, rfl, (show (A 45) ((I 2774) + 1) = 6 ∧ (A 46) ((I 2774) + 1) = 58 by first | assumption | omega)⟩
def m_isBracketed_Q (fr : Nat → Bool) (X : Nat → Option (q_C (Nat → Int32))) (u l : Nat) (I : Nat → Int) (A : Nat → Int → Int) (B C : Nat → Nat) (M : w_M) : w_X → w_M → Prop := fun r M' => ((r = .inl (some 1)) ∧ (M' = M) ∧ ((A 45) ((I 2774) + 1) = 6)) ∨ ((r = .inl (some 0)) ∧ (M' = M))
set_option maxHeartbeats 100000000 in
set_option maxRecDepth 100000 in
theorem m_isBracketed {L : Nat} {xs : Nat → Int32} {d : Nat} {fr : Nat → Bool} {X : Nat → Option (q_C (Nat → Int32))} {u l : Nat} {I : Nat → Int} {A : Nat → Int → Int} {B C : Nat → Nat} {M : w_M} (hR : w_Rep w_TM fr X u l I A B C M) (hat : 0 ≤ (I 2774) ∧ (I 2774) < 1501) : w_W (z_P L xs) d 252 (0, [(0, .ref 43)], [], M) (m_isBracketed_Q fr X u l I A B C M) := by
  refine w_adv (n := 1) (F' := (1, [(0, .ref 43)], [.ref 43], M)) rfl ?_
  refine w_gf (v := .ref 45) hR rfl rfl rfl rfl ?_
  refine w_adv (n := 1) (F' := (5, [(0, .ref 43)], [.ref 43, .ref 45], M)) rfl ?_
  refine w_gf (v := .int (Int32.ofInt ((I 2774)))) hR rfl rfl rfl rfl ?_
  obtain ⟨r1, r2⟩ : -2147483648 ≤ (I 2774) ∧ (I 2774) ≤ 2147483647 := hR.ri 2774
  refine w_adv (n := 1) (F' := (9, [(0, .ref 43)], [.int (Int32.ofInt (1)), .int (Int32.ofInt ((I 2774))), .ref 45], M)) rfl ?_
  refine w_add rfl ?_
  refine w_la (n := 1502) hR rfl (Or.inl ⟨rfl, rfl⟩) rfl (show 0 ≤ (I 2774) + 1 by omega) (show (I 2774) + 1 < (1502 : Int) by omega) (by decide) ?_
  obtain ⟨r3, r4⟩ : -2147483648 ≤ (A 45) ((I 2774) + 1) ∧ (A 45) ((I 2774) + 1) ≤ 2147483647 := hR.ra 45 ((I 2774) + 1)
  show w_W _ _ _ (11, [(0, .ref 43)], [.int (Int32.ofInt ((A 45) ((I 2774) + 1)))], M) _
  refine w_adv (n := 1) (F' := (13, [(0, .ref 43)], [.int (Int32.ofInt (6)), .int (Int32.ofInt ((A 45) ((I 2774) + 1)))], M)) rfl ?_
  refine w_br2 (a := (A 45) ((I 2774) + 1)) (b := 6) rfl rfl ⟨by omega, by omega⟩ ⟨by omega, by omega⟩ (fun h5 => ?_) (fun h5 => ?_)
  · have h5 : ¬ (A 45) ((I 2774) + 1) = 6 := h5
    show w_W _ _ _ (59, [(0, .ref 43)], [], M) _
    refine w_adv (n := 1) (F' := (60, [(0, .ref 43)], [.int (Int32.ofInt (0))], M)) rfl ?_
    refine w_fin (r := .inl (some (0))) (M' := M) rfl ?_
    exact Or.inr (⟨rfl, rfl⟩)
  · have h5 : ¬ (¬ (A 45) ((I 2774) + 1) = 6) := h5
    show w_W _ _ _ (16, [(0, .ref 43)], [], M) _
    refine w_adv (n := 1) (F' := (17, [(0, .ref 43)], [.ref 43], M)) rfl ?_
    refine w_gf (v := .ref 46) hR rfl rfl rfl rfl ?_
    refine w_adv (n := 1) (F' := (21, [(0, .ref 43)], [.ref 43, .ref 46], M)) rfl ?_
    refine w_gf (v := .int (Int32.ofInt ((I 2774)))) hR rfl rfl rfl rfl ?_
    refine w_adv (n := 1) (F' := (25, [(0, .ref 43)], [.int (Int32.ofInt (1)), .int (Int32.ofInt ((I 2774))), .ref 46], M)) rfl ?_
    refine w_add rfl ?_
    refine w_la (n := 1502) hR rfl (Or.inl ⟨rfl, rfl⟩) rfl (show 0 ≤ (I 2774) + 1 by omega) (show (I 2774) + 1 < (1502 : Int) by omega) (by decide) ?_
    obtain ⟨r6, r7⟩ : -2147483648 ≤ (A 46) ((I 2774) + 1) ∧ (A 46) ((I 2774) + 1) ≤ 2147483647 := hR.ra 46 ((I 2774) + 1)
    show w_W _ _ _ (27, [(0, .ref 43)], [.int (Int32.ofInt ((A 46) ((I 2774) + 1)))], M) _
    refine w_adv (n := 1) (F' := (29, [(0, .ref 43)], [.int (Int32.ofInt (40)), .int (Int32.ofInt ((A 46) ((I 2774) + 1)))], M)) rfl ?_
    refine w_br2 (a := (A 46) ((I 2774) + 1)) (b := 40) rfl rfl ⟨by omega, by omega⟩ ⟨by omega, by omega⟩ (fun h8 => ?_) (fun h8 => ?_)
    · have h8 : ¬ (A 46) ((I 2774) + 1) = 40 := h8
      show w_W _ _ _ (59, [(0, .ref 43)], [], M) _
      refine w_adv (n := 1) (F' := (60, [(0, .ref 43)], [.int (Int32.ofInt (0))], M)) rfl ?_
      refine w_fin (r := .inl (some (0))) (M' := M) rfl ?_
      exact Or.inr (⟨rfl, rfl⟩)
    · have h8 : ¬ (¬ (A 46) ((I 2774) + 1) = 40) := h8
      show w_W _ _ _ (32, [(0, .ref 43)], [], M) _
      refine w_adv (n := 1) (F' := (33, [(0, .ref 43)], [.ref 43], M)) rfl ?_
      refine w_gf (v := .ref 47) hR rfl rfl rfl rfl ?_
      refine w_adv (n := 1) (F' := (37, [(0, .ref 43)], [.ref 43, .ref 47], M)) rfl ?_
      refine w_gf (v := .int (Int32.ofInt ((I 2774)))) hR rfl rfl rfl rfl ?_
      refine w_adv (n := 1) (F' := (41, [(0, .ref 43)], [.int (Int32.ofInt (1)), .int (Int32.ofInt ((I 2774))), .ref 47], M)) rfl ?_
      refine w_add rfl ?_
      refine w_la (n := 1502) hR rfl (Or.inl ⟨rfl, rfl⟩) rfl (show 0 ≤ (I 2774) + 1 by omega) (show (I 2774) + 1 < (1502 : Int) by omega) (by decide) ?_
      obtain ⟨r9, r10⟩ : -2147483648 ≤ (A 47) ((I 2774) + 1) ∧ (A 47) ((I 2774) + 1) ≤ 2147483647 := hR.ra 47 ((I 2774) + 1)
      show w_W _ _ _ (43, [(0, .ref 43)], [.int (Int32.ofInt ((A 47) ((I 2774) + 1)))], M) _
      refine w_adv (n := 1) (F' := (44, [(0, .ref 43)], [.ref 43, .int (Int32.ofInt ((A 47) ((I 2774) + 1)))], M)) rfl ?_
      refine w_gf (v := .ref 48) hR rfl rfl rfl rfl ?_
      refine w_adv (n := 1) (F' := (48, [(0, .ref 43)], [.ref 43, .ref 48, .int (Int32.ofInt ((A 47) ((I 2774) + 1)))], M)) rfl ?_
      refine w_gf (v := .int (Int32.ofInt ((I 2774)))) hR rfl rfl rfl rfl ?_
      refine w_la (n := 1502) hR rfl (Or.inl ⟨rfl, rfl⟩) rfl (show 0 ≤ (I 2774) by omega) (show (I 2774) < (1502 : Int) by omega) (by decide) ?_
      obtain ⟨r11, r12⟩ : -2147483648 ≤ (A 48) ((I 2774)) ∧ (A 48) ((I 2774)) ≤ 2147483647 := hR.ra 48 ((I 2774))
      show w_W _ _ _ (52, [(0, .ref 43)], [.int (Int32.ofInt ((A 48) ((I 2774)))), .int (Int32.ofInt ((A 47) ((I 2774) + 1)))], M) _
      refine w_br2 (a := (A 47) ((I 2774) + 1)) (b := (A 48) ((I 2774))) rfl rfl ⟨by omega, by omega⟩ ⟨by omega, by omega⟩ (fun h13 => ?_) (fun h13 => ?_)
      · have h13 : ¬ (A 47) ((I 2774) + 1) = (A 48) ((I 2774)) := h13
        show w_W _ _ _ (59, [(0, .ref 43)], [], M) _
        refine w_adv (n := 1) (F' := (60, [(0, .ref 43)], [.int (Int32.ofInt (0))], M)) rfl ?_
        refine w_fin (r := .inl (some (0))) (M' := M) rfl ?_
        exact Or.inr (⟨rfl, rfl⟩)
      · have h13 : ¬ (¬ (A 47) ((I 2774) + 1) = (A 48) ((I 2774))) := h13
        show w_W _ _ _ (55, [(0, .ref 43)], [], M) _
        refine w_adv (n := 2) (F' := (60, [(0, .ref 43)], [.int (Int32.ofInt (1))], M)) rfl ?_
        refine w_fin (r := .inl (some (1))) (M' := M) rfl ?_
        exact Or.inl ⟨rfl, rfl, (show (A 45) ((I 2774) + 1) = 6 by first | assumption | omega)⟩
def m_fail_Q (fr : Nat → Bool) (X : Nat → Option (q_C (Nat → Int32))) (u l : Nat) (I : Nat → Int) (A : Nat → Int → Int) (B C : Nat → Nat) (M : w_M) (kind : Int) : w_X → w_M → Prop := fun r M' => (∃ (I' : Nat → Int) (A' : Nat → Int → Int) (B' C' : Nat → Nat), (r = .inr 69) ∧ (w_Rep w_TM fr X u l I' A' B' C' M') ∧ (m_fx I A I' A'))
set_option maxHeartbeats 100000000 in
set_option maxRecDepth 100000 in
theorem m_fail {L : Nat} {xs : Nat → Int32} {d : Nat} {fr : Nat → Bool} {X : Nat → Option (q_C (Nat → Int32))} {u l : Nat} {I : Nat → Int} {A : Nat → Int → Int} {B C : Nat → Nat} {M : w_M} (kind : Int) (hR : w_Rep w_TM fr X u l I A B C M) (r_kind : w_in kind) (hat : 0 ≤ (I 2774) ∧ (I 2774) < 1501) (hk : 1 ≤ kind ∧ kind ≤ 7) : w_W (z_P L xs) d 232 (0, [(0, .ref 43), (1, .int (Int32.ofInt (kind)))], [], M) (m_fail_Q fr X u l I A B C M kind) := by
  obtain ⟨ra_kind, rb_kind⟩ := r_kind
  refine w_adv (n := 2) (F' := (2, [(0, .ref 43), (1, .int (Int32.ofInt (kind)))], [.ref 43, .ref 43], M)) rfl ?_
  refine w_gf (v := .ref 45) hR rfl rfl rfl rfl ?_
  refine w_adv (n := 1) (F' := (6, [(0, .ref 43), (1, .int (Int32.ofInt (kind)))], [.ref 43, .ref 45, .ref 43], M)) rfl ?_
  refine w_gf (v := .int (Int32.ofInt ((I 2774)))) hR rfl rfl rfl rfl ?_
  obtain ⟨r1, r2⟩ : -2147483648 ≤ (I 2774) ∧ (I 2774) ≤ 2147483647 := hR.ri 2774
  refine w_la (n := 1502) hR rfl (Or.inl ⟨rfl, rfl⟩) rfl (show 0 ≤ (I 2774) by omega) (show (I 2774) < (1502 : Int) by omega) (by decide) ?_
  obtain ⟨r3, r4⟩ : -2147483648 ≤ (A 45) ((I 2774)) ∧ (A 45) ((I 2774)) ≤ 2147483647 := hR.ra 45 ((I 2774))
  show w_W _ _ _ (10, [(0, .ref 43), (1, .int (Int32.ofInt (kind)))], [.int (Int32.ofInt ((A 45) ((I 2774)))), .ref 43], M) _
  refine w_adv (n := 1) (F' := (12, [(0, .ref 43), (1, .int (Int32.ofInt (kind)))], [.int (Int32.ofInt (7)), .int (Int32.ofInt ((A 45) ((I 2774)))), .ref 43], M)) rfl ?_
  refine w_br2 (a := (A 45) ((I 2774))) (b := 7) rfl rfl ⟨by omega, by omega⟩ ⟨by omega, by omega⟩ (fun h5 => ?_) (fun h5 => ?_)
  · have h5 : ¬ (A 45) ((I 2774)) = 7 := h5
    show w_W _ _ _ (22, [(0, .ref 43), (1, .int (Int32.ofInt (kind)))], [.ref 43], M) _
    refine w_adv (n := 2) (F' := (25, [(0, .ref 43), (1, .int (Int32.ofInt (kind)))], [.int (Int32.ofInt (kind)), .int (Int32.ofInt (10)), .ref 43], M)) rfl ?_
    refine w_add rfl ?_
    refine w_pf hR rfl rfl rfl rfl (show w_in (10 + kind) from ⟨by omega, by omega⟩) (fun h => absurd h (by decide)) (fun M6 hR7 => ?_)
    replace hR7 : w_Rep w_TM fr X u l (w_up I 2778 (10 + kind)) A B C M6 := hR7
    refine w_adv (n := 2) (F' := (31, [(0, .ref 43), (1, .int (Int32.ofInt (kind)))], [.ref 43, .ref 43], M6)) rfl ?_
    refine w_gf (v := .ref 47) hR7 rfl rfl rfl rfl ?_
    refine w_adv (n := 1) (F' := (35, [(0, .ref 43), (1, .int (Int32.ofInt (kind)))], [.ref 43, .ref 47, .ref 43], M6)) rfl ?_
    refine w_gf (v := .int (Int32.ofInt ((I 2774)))) hR7 rfl rfl rfl rfl ?_
    refine w_la (n := 1502) hR7 rfl (Or.inl ⟨rfl, rfl⟩) rfl (show 0 ≤ (I 2774) by omega) (show (I 2774) < (1502 : Int) by omega) (by decide) ?_
    obtain ⟨r8, r9⟩ : -2147483648 ≤ (A 47) ((I 2774)) ∧ (A 47) ((I 2774)) ≤ 2147483647 := hR7.ra 47 ((I 2774))
    show w_W _ _ _ (39, [(0, .ref 43), (1, .int (Int32.ofInt (kind)))], [.int (Int32.ofInt ((A 47) ((I 2774)))), .ref 43], M6) _
    refine w_pf hR7 rfl rfl rfl rfl (show w_in ((A 47) ((I 2774))) from ⟨by omega, by omega⟩) (fun h => absurd h (by decide)) (fun M10 hR11 => ?_)
    replace hR11 : w_Rep w_TM fr X u l (w_up (w_up I 2778 (10 + kind)) 2779 ((A 47) ((I 2774)))) A B C M10 := hR11
    refine w_adv (n := 1) (F' := (43, [(0, .ref 43), (1, .int (Int32.ofInt (kind)))], [.ref 43], M10)) rfl ?_
    refine w_gf (v := .ref 69) hR11 rfl rfl rfl rfl ?_
    refine w_thr rfl rfl ?_
    exact ⟨(w_up (w_up I 2778 (10 + kind)) 2779 ((A 47) ((I 2774)))), A, B, C, rfl, hR11, (show m_fx I A (w_up (w_up I 2778 (10 + kind)) 2779 ((A 47) ((I 2774)))) A by exact m_fx_refl)⟩
  · have h5 : ¬ (¬ (A 45) ((I 2774)) = 7) := h5
    show w_W _ _ _ (15, [(0, .ref 43), (1, .int (Int32.ofInt (kind)))], [.ref 43], M) _
    refine w_adv (n := 1) (F' := (16, [(0, .ref 43), (1, .int (Int32.ofInt (kind)))], [.ref 43, .ref 43], M)) rfl ?_
    refine w_gf (v := .int (Int32.ofInt ((I 2759)))) hR rfl rfl rfl rfl ?_
    obtain ⟨r12, r13⟩ : -2147483648 ≤ (I 2759) ∧ (I 2759) ≤ 2147483647 := hR.ri 2759
    refine w_adv (n := 1) (F' := (26, [(0, .ref 43), (1, .int (Int32.ofInt (kind)))], [.int (Int32.ofInt ((I 2759))), .ref 43], M)) rfl ?_
    refine w_pf hR rfl rfl rfl rfl (show w_in ((I 2759)) from ⟨by omega, by omega⟩) (fun h => absurd h (by decide)) (fun M14 hR15 => ?_)
    replace hR15 : w_Rep w_TM fr X u l (w_up I 2778 ((I 2759))) A B C M14 := hR15
    refine w_adv (n := 2) (F' := (31, [(0, .ref 43), (1, .int (Int32.ofInt (kind)))], [.ref 43, .ref 43], M14)) rfl ?_
    refine w_gf (v := .ref 47) hR15 rfl rfl rfl rfl ?_
    refine w_adv (n := 1) (F' := (35, [(0, .ref 43), (1, .int (Int32.ofInt (kind)))], [.ref 43, .ref 47, .ref 43], M14)) rfl ?_
    refine w_gf (v := .int (Int32.ofInt ((I 2774)))) hR15 rfl rfl rfl rfl ?_
    refine w_la (n := 1502) hR15 rfl (Or.inl ⟨rfl, rfl⟩) rfl (show 0 ≤ (I 2774) by omega) (show (I 2774) < (1502 : Int) by omega) (by decide) ?_
    obtain ⟨r16, r17⟩ : -2147483648 ≤ (A 47) ((I 2774)) ∧ (A 47) ((I 2774)) ≤ 2147483647 := hR15.ra 47 ((I 2774))
    show w_W _ _ _ (39, [(0, .ref 43), (1, .int (Int32.ofInt (kind)))], [.int (Int32.ofInt ((A 47) ((I 2774)))), .ref 43], M14) _
    refine w_pf hR15 rfl rfl rfl rfl (show w_in ((A 47) ((I 2774))) from ⟨by omega, by omega⟩) (fun h => absurd h (by decide)) (fun M18 hR19 => ?_)
    replace hR19 : w_Rep w_TM fr X u l (w_up (w_up I 2778 ((I 2759))) 2779 ((A 47) ((I 2774)))) A B C M18 := hR19
    refine w_adv (n := 1) (F' := (43, [(0, .ref 43), (1, .int (Int32.ofInt (kind)))], [.ref 43], M18)) rfl ?_
    refine w_gf (v := .ref 69) hR19 rfl rfl rfl rfl ?_
    refine w_thr rfl rfl ?_
    exact ⟨(w_up (w_up I 2778 ((I 2759))) 2779 ((A 47) ((I 2774)))), A, B, C, rfl, hR19, (show m_fx I A (w_up (w_up I 2778 ((I 2759))) 2779 ((A 47) ((I 2774)))) A by exact m_fx_refl)⟩
def m_needSign_Q (fr : Nat → Bool) (X : Nat → Option (q_C (Nat → Int32))) (u l : Nat) (I : Nat → Int) (A : Nat → Int → Int) (B C : Nat → Nat) (M : w_M) (s : Int) : w_X → w_M → Prop := fun r M' => ((r = .inl none) ∧ (w_Rep w_TM fr X u l (w_up I 2774 ((I 2774) + 1)) A B C M') ∧ ((A 45) ((I 2774)) = 6 ∧ (A 46) ((I 2774)) = s)) ∨ (∃ (I' : Nat → Int) (A' : Nat → Int → Int) (B' C' : Nat → Nat), (r = .inr 69) ∧ (w_Rep w_TM fr X u l I' A' B' C' M') ∧ (m_fx I A I' A'))
set_option maxHeartbeats 100000000 in
set_option maxRecDepth 100000 in
theorem m_needSign {L : Nat} {xs : Nat → Int32} {d : Nat} {fr : Nat → Bool} {X : Nat → Option (q_C (Nat → Int32))} {u l : Nat} {I : Nat → Int} {A : Nat → Int → Int} {B C : Nat → Nat} {M : w_M} (s : Int) (hR : w_Rep w_TM fr X u l I A B C M) (hd : 2 ≤ d) (r_s : w_in s) (hat : 0 ≤ (I 2774) ∧ (I 2774) < 1501) : w_W (z_P L xs) d 257 (0, [(0, .ref 43), (1, .int (Int32.ofInt (s)))], [], M) (m_needSign_Q fr X u l I A B C M s) := by
  obtain ⟨ra_s, rb_s⟩ := r_s
  obtain ⟨d, rfl⟩ : ∃ d0, d = d0 + 1 := ⟨d - 1, by omega⟩
  refine w_adv (n := 2) (F' := (2, [(0, .ref 43), (1, .int (Int32.ofInt (s)))], [.int (Int32.ofInt (s)), .ref 43], M)) rfl ?_
  refine w_call (cm := 230) (as := [(0, .ref 43), (1, .int (Int32.ofInt (s)))]) (rest := []) (o := some (9, 43)) rfl (w_fitR hR rfl) (m_isSign (s) hR ⟨by omega, by omega⟩ (show 0 ≤ (I 2774) ∧ (I 2774) < 1501 by first | assumption | omega)) (fun r1 M2 q3 => ?_)
  rcases q3 with ⟨e4, e5, f6⟩ | ⟨e7, e8, f9⟩
  · rw [e4, e5]
    replace f6 : (A 45) ((I 2774)) = 6 ∧ (A 46) ((I 2774)) = s := f6
    show w_W _ _ _ (5, [(0, .ref 43), (1, .int (Int32.ofInt (s)))], [.int (Int32.ofInt (1))], M) _
    refine w_adv (n := 3) (F' := (15, [(0, .ref 43), (1, .int (Int32.ofInt (s)))], [.ref 43, .ref 43], M)) rfl ?_
    refine w_gf (v := .int (Int32.ofInt ((I 2774)))) hR rfl rfl rfl rfl ?_
    obtain ⟨r10, r11⟩ : -2147483648 ≤ (I 2774) ∧ (I 2774) ≤ 2147483647 := hR.ri 2774
    refine w_adv (n := 1) (F' := (19, [(0, .ref 43), (1, .int (Int32.ofInt (s)))], [.int (Int32.ofInt (1)), .int (Int32.ofInt ((I 2774))), .ref 43], M)) rfl ?_
    refine w_add rfl ?_
    refine w_pf hR rfl rfl rfl rfl (show w_in ((I 2774) + 1) from ⟨by omega, by omega⟩) (fun h => absurd h (by decide)) (fun M12 hR13 => ?_)
    replace hR13 : w_Rep w_TM fr X u l (w_up I 2774 ((I 2774) + 1)) A B C M12 := hR13
    refine w_fin (r := .inl none) (M' := M12) rfl ?_
    exact Or.inl ⟨rfl, hR13, (show (A 45) ((I 2774)) = 6 ∧ (A 46) ((I 2774)) = s by first | assumption | omega)⟩
  · rw [e7, e8]
    replace f9 : ¬ ((A 45) ((I 2774)) = 6 ∧ (A 46) ((I 2774)) = s) := f9
    show w_W _ _ _ (5, [(0, .ref 43), (1, .int (Int32.ofInt (s)))], [.int (Int32.ofInt (0))], M) _
    refine w_adv (n := 3) (F' := (10, [(0, .ref 43), (1, .int (Int32.ofInt (s)))], [.int (Int32.ofInt (1)), .ref 43], M)) rfl ?_
    refine w_call (cm := 232) (as := [(0, .ref 43), (1, .int (Int32.ofInt (1)))]) (rest := []) (o := some (9, 43)) rfl (w_fitR hR rfl) (m_fail (1) hR ⟨by omega, by omega⟩ (show 0 ≤ (I 2774) ∧ (I 2774) < 1501 by first | assumption | omega) (show 1 ≤ 1 ∧ 1 ≤ 7 by first | assumption | omega)) (fun r14 M15 q16 => ?_)
    rcases q16 with ⟨I16a, A16a, B16a, C16a, e17, hR16a, f18⟩
    rw [e17]
    replace hR16a : w_Rep w_TM fr X u l I16a A16a B16a C16a M15 := hR16a
    replace f18 : m_fx I A I16a A16a := f18
    exact Or.inr (⟨I16a, A16a, B16a, C16a, rfl, hR16a, (show m_fx I A I16a A16a by exact f18)⟩)
def m_needWord_Q (fr : Nat → Bool) (X : Nat → Option (q_C (Nat → Int32))) (u l : Nat) (I : Nat → Int) (A : Nat → Int → Int) (B C : Nat → Nat) (M : w_M) (s : Int) : w_X → w_M → Prop := fun r M' => ((r = .inl none) ∧ (w_Rep w_TM fr X u l (w_up I 2774 ((I 2774) + 1)) A B C M') ∧ ((A 45) ((I 2774)) = 5 ∧ (A 46) ((I 2774)) = s)) ∨ (∃ (I' : Nat → Int) (A' : Nat → Int → Int) (B' C' : Nat → Nat), (r = .inr 69) ∧ (w_Rep w_TM fr X u l I' A' B' C' M') ∧ (m_fx I A I' A'))
set_option maxHeartbeats 100000000 in
set_option maxRecDepth 100000 in
theorem m_needWord {L : Nat} {xs : Nat → Int32} {d : Nat} {fr : Nat → Bool} {X : Nat → Option (q_C (Nat → Int32))} {u l : Nat} {I : Nat → Int} {A : Nat → Int → Int} {B C : Nat → Nat} {M : w_M} (s : Int) (hR : w_Rep w_TM fr X u l I A B C M) (hd : 2 ≤ d) (r_s : w_in s) (hat : 0 ≤ (I 2774) ∧ (I 2774) < 1501) : w_W (z_P L xs) d 241 (0, [(0, .ref 43), (1, .int (Int32.ofInt (s)))], [], M) (m_needWord_Q fr X u l I A B C M s) := by
  obtain ⟨ra_s, rb_s⟩ := r_s
  obtain ⟨d, rfl⟩ : ∃ d0, d = d0 + 1 := ⟨d - 1, by omega⟩
  refine w_adv (n := 2) (F' := (2, [(0, .ref 43), (1, .int (Int32.ofInt (s)))], [.int (Int32.ofInt (s)), .ref 43], M)) rfl ?_
  refine w_call (cm := 231) (as := [(0, .ref 43), (1, .int (Int32.ofInt (s)))]) (rest := []) (o := some (9, 43)) rfl (w_fitR hR rfl) (m_isWord (s) hR ⟨by omega, by omega⟩ (show 0 ≤ (I 2774) ∧ (I 2774) < 1501 by first | assumption | omega)) (fun r1 M2 q3 => ?_)
  rcases q3 with ⟨e4, e5, f6⟩ | ⟨e7, e8, f9⟩
  · rw [e4, e5]
    replace f6 : (A 45) ((I 2774)) = 5 ∧ (A 46) ((I 2774)) = s := f6
    show w_W _ _ _ (5, [(0, .ref 43), (1, .int (Int32.ofInt (s)))], [.int (Int32.ofInt (1))], M) _
    refine w_adv (n := 3) (F' := (15, [(0, .ref 43), (1, .int (Int32.ofInt (s)))], [.ref 43, .ref 43], M)) rfl ?_
    refine w_gf (v := .int (Int32.ofInt ((I 2774)))) hR rfl rfl rfl rfl ?_
    obtain ⟨r10, r11⟩ : -2147483648 ≤ (I 2774) ∧ (I 2774) ≤ 2147483647 := hR.ri 2774
    refine w_adv (n := 1) (F' := (19, [(0, .ref 43), (1, .int (Int32.ofInt (s)))], [.int (Int32.ofInt (1)), .int (Int32.ofInt ((I 2774))), .ref 43], M)) rfl ?_
    refine w_add rfl ?_
    refine w_pf hR rfl rfl rfl rfl (show w_in ((I 2774) + 1) from ⟨by omega, by omega⟩) (fun h => absurd h (by decide)) (fun M12 hR13 => ?_)
    replace hR13 : w_Rep w_TM fr X u l (w_up I 2774 ((I 2774) + 1)) A B C M12 := hR13
    refine w_fin (r := .inl none) (M' := M12) rfl ?_
    exact Or.inl ⟨rfl, hR13, (show (A 45) ((I 2774)) = 5 ∧ (A 46) ((I 2774)) = s by first | assumption | omega)⟩
  · rw [e7, e8]
    replace f9 : ¬ ((A 45) ((I 2774)) = 5 ∧ (A 46) ((I 2774)) = s) := f9
    show w_W _ _ _ (5, [(0, .ref 43), (1, .int (Int32.ofInt (s)))], [.int (Int32.ofInt (0))], M) _
    refine w_adv (n := 3) (F' := (10, [(0, .ref 43), (1, .int (Int32.ofInt (s)))], [.int (Int32.ofInt (1)), .ref 43], M)) rfl ?_
    refine w_call (cm := 232) (as := [(0, .ref 43), (1, .int (Int32.ofInt (1)))]) (rest := []) (o := some (9, 43)) rfl (w_fitR hR rfl) (m_fail (1) hR ⟨by omega, by omega⟩ (show 0 ≤ (I 2774) ∧ (I 2774) < 1501 by first | assumption | omega) (show 1 ≤ 1 ∧ 1 ≤ 7 by first | assumption | omega)) (fun r14 M15 q16 => ?_)
    rcases q16 with ⟨I16a, A16a, B16a, C16a, e17, hR16a, f18⟩
    rw [e17]
    replace hR16a : w_Rep w_TM fr X u l I16a A16a B16a C16a M15 := hR16a
    replace f18 : m_fx I A I16a A16a := f18
    exact Or.inr (⟨I16a, A16a, B16a, C16a, rfl, hR16a, (show m_fx I A I16a A16a by exact f18)⟩)
def m_enter_Q (fr : Nat → Bool) (X : Nat → Option (q_C (Nat → Int32))) (u l : Nat) (I : Nat → Int) (A : Nat → Int → Int) (B C : Nat → Nat) (M : w_M) : w_X → w_M → Prop := fun r M' => ((r = .inl none) ∧ (w_Rep w_TM fr X u l (w_up (w_up I 2775 ((I 2775) + 1)) 2774 ((I 2774) + 1)) A B C M') ∧ ((I 2775) < 24)) ∨ (∃ (I' : Nat → Int) (A' : Nat → Int → Int) (B' C' : Nat → Nat), (r = .inr 69) ∧ (w_Rep w_TM fr X u l I' A' B' C' M') ∧ (m_fx I A I' A'))
set_option maxHeartbeats 100000000 in
set_option maxRecDepth 100000 in
theorem m_enter {L : Nat} {xs : Nat → Int32} {d : Nat} {fr : Nat → Bool} {X : Nat → Option (q_C (Nat → Int32))} {u l : Nat} {I : Nat → Int} {A : Nat → Int → Int} {B C : Nat → Nat} {M : w_M} (hR : w_Rep w_TM fr X u l I A B C M) (hd : 2 ≤ d) (hat : 0 ≤ (I 2774) ∧ (I 2774) < 1501) (ho : 0 ≤ (I 2775) ∧ (I 2775) ≤ 24) : w_W (z_P L xs) d 235 (0, [(0, .ref 43)], [], M) (m_enter_Q fr X u l I A B C M) := by
  obtain ⟨d, rfl⟩ : ∃ d0, d = d0 + 1 := ⟨d - 1, by omega⟩
  refine w_adv (n := 1) (F' := (1, [(0, .ref 43)], [.ref 43], M)) rfl ?_
  refine w_gf (v := .int (Int32.ofInt ((I 2775)))) hR rfl rfl rfl rfl ?_
  obtain ⟨r1, r2⟩ : -2147483648 ≤ (I 2775) ∧ (I 2775) ≤ 2147483647 := hR.ri 2775
  refine w_adv (n := 1) (F' := (6, [(0, .ref 43)], [.int (Int32.ofInt (24)), .int (Int32.ofInt ((I 2775)))], M)) rfl ?_
  refine w_br2 (a := (I 2775)) (b := 24) rfl rfl ⟨by omega, by omega⟩ ⟨by omega, by omega⟩ (fun h3 => ?_) (fun h3 => ?_)
  · have h3 : ¬ (I 2775) = 24 := h3
    show w_W _ _ _ (14, [(0, .ref 43)], [], M) _
    refine w_adv (n := 2) (F' := (16, [(0, .ref 43)], [.ref 43, .ref 43], M)) rfl ?_
    refine w_gf (v := .int (Int32.ofInt ((I 2775)))) hR rfl rfl rfl rfl ?_
    refine w_adv (n := 1) (F' := (20, [(0, .ref 43)], [.int (Int32.ofInt (1)), .int (Int32.ofInt ((I 2775))), .ref 43], M)) rfl ?_
    refine w_add rfl ?_
    refine w_pf hR rfl rfl rfl rfl (show w_in ((I 2775) + 1) from ⟨by omega, by omega⟩) (fun h => absurd h (by decide)) (fun M4 hR5 => ?_)
    replace hR5 : w_Rep w_TM fr X u l (w_up I 2775 ((I 2775) + 1)) A B C M4 := hR5
    refine w_adv (n := 2) (F' := (26, [(0, .ref 43)], [.ref 43, .ref 43], M4)) rfl ?_
    refine w_gf (v := .int (Int32.ofInt ((I 2774)))) hR5 rfl rfl rfl rfl ?_
    obtain ⟨r6, r7⟩ : -2147483648 ≤ (I 2774) ∧ (I 2774) ≤ 2147483647 := hR5.ri 2774
    refine w_adv (n := 1) (F' := (30, [(0, .ref 43)], [.int (Int32.ofInt (1)), .int (Int32.ofInt ((I 2774))), .ref 43], M4)) rfl ?_
    refine w_add rfl ?_
    refine w_pf hR5 rfl rfl rfl rfl (show w_in ((I 2774) + 1) from ⟨by omega, by omega⟩) (fun h => absurd h (by decide)) (fun M8 hR9 => ?_)
    replace hR9 : w_Rep w_TM fr X u l (w_up (w_up I 2775 ((I 2775) + 1)) 2774 ((I 2774) + 1)) A B C M8 := hR9
    refine w_fin (r := .inl none) (M' := M8) rfl ?_
    exact Or.inl ⟨rfl, hR9, (show (I 2775) < 24 by first | assumption | omega)⟩
  · have h3 : ¬ (¬ (I 2775) = 24) := h3
    show w_W _ _ _ (9, [(0, .ref 43)], [], M) _
    refine w_adv (n := 2) (F' := (11, [(0, .ref 43)], [.int (Int32.ofInt (5)), .ref 43], M)) rfl ?_
    refine w_call (cm := 232) (as := [(0, .ref 43), (1, .int (Int32.ofInt (5)))]) (rest := []) (o := some (9, 43)) rfl (w_fitR hR rfl) (m_fail (5) hR ⟨by omega, by omega⟩ (show 0 ≤ (I 2774) ∧ (I 2774) < 1501 by first | assumption | omega) (show 1 ≤ 5 ∧ 5 ≤ 7 by first | assumption | omega)) (fun r10 M11 q12 => ?_)
    rcases q12 with ⟨I12a, A12a, B12a, C12a, e13, hR12a, f14⟩
    rw [e13]
    replace hR12a : w_Rep w_TM fr X u l I12a A12a B12a C12a M11 := hR12a
    replace f14 : m_fx I A I12a A12a := f14
    exact Or.inr (⟨I12a, A12a, B12a, C12a, rfl, hR12a, (show m_fx I A I12a A12a by exact f14)⟩)
def m_closeSign_Q (fr : Nat → Bool) (X : Nat → Option (q_C (Nat → Int32))) (u l : Nat) (I : Nat → Int) (A : Nat → Int → Int) (B C : Nat → Nat) (M : w_M) (s : Int) : w_X → w_M → Prop := fun r M' => ((r = .inl none) ∧ (w_Rep w_TM fr X u l (w_up (w_up I 2774 ((I 2774) + 1)) 2775 ((I 2775) - 1)) A B C M') ∧ ((A 45) ((I 2774)) = 6 ∧ (A 46) ((I 2774)) = s)) ∨ (∃ (I' : Nat → Int) (A' : Nat → Int → Int) (B' C' : Nat → Nat), (r = .inr 69) ∧ (w_Rep w_TM fr X u l I' A' B' C' M') ∧ (m_fx I A I' A'))
set_option maxHeartbeats 100000000 in
set_option maxRecDepth 100000 in
theorem m_closeSign {L : Nat} {xs : Nat → Int32} {d : Nat} {fr : Nat → Bool} {X : Nat → Option (q_C (Nat → Int32))} {u l : Nat} {I : Nat → Int} {A : Nat → Int → Int} {B C : Nat → Nat} {M : w_M} (s : Int) (hR : w_Rep w_TM fr X u l I A B C M) (hd : 3 ≤ d) (r_s : w_in s) (hat : 0 ≤ (I 2774) ∧ (I 2774) < 1501) (ho : 1 ≤ (I 2775) ∧ (I 2775) ≤ 24) : w_W (z_P L xs) d 264 (0, [(0, .ref 43), (1, .int (Int32.ofInt (s)))], [], M) (m_closeSign_Q fr X u l I A B C M s) := by
  obtain ⟨ra_s, rb_s⟩ := r_s
  obtain ⟨d, rfl⟩ : ∃ d0, d = d0 + 1 := ⟨d - 1, by omega⟩
  refine w_adv (n := 2) (F' := (2, [(0, .ref 43), (1, .int (Int32.ofInt (s)))], [.int (Int32.ofInt (s)), .ref 43], M)) rfl ?_
  refine w_call (cm := 257) (as := [(0, .ref 43), (1, .int (Int32.ofInt (s)))]) (rest := []) (o := some (9, 43)) rfl (w_fitR hR rfl) (m_needSign (s) hR (show 2 ≤ d by omega) ⟨by omega, by omega⟩ (show 0 ≤ (I 2774) ∧ (I 2774) < 1501 by first | assumption | omega)) (fun r1 M2 q3 => ?_)
  rcases q3 with ⟨e4, hR3a, f5⟩ | ⟨I3b, A3b, B3b, C3b, e6, hR3b, f7⟩
  · rw [e4]
    replace hR3a : w_Rep w_TM fr X u l (w_up I 2774 ((I 2774) + 1)) A B C M2 := hR3a
    replace f5 : (A 45) ((I 2774)) = 6 ∧ (A 46) ((I 2774)) = s := f5
    show w_W _ _ _ (5, [(0, .ref 43), (1, .int (Int32.ofInt (s)))], [], M2) _
    refine w_adv (n := 2) (F' := (7, [(0, .ref 43), (1, .int (Int32.ofInt (s)))], [.ref 43, .ref 43], M2)) rfl ?_
    refine w_gf (v := .int (Int32.ofInt ((I 2775)))) hR3a rfl rfl rfl rfl ?_
    obtain ⟨r8, r9⟩ : -2147483648 ≤ (I 2775) ∧ (I 2775) ≤ 2147483647 := hR3a.ri 2775
    refine w_adv (n := 1) (F' := (11, [(0, .ref 43), (1, .int (Int32.ofInt (s)))], [.int (Int32.ofInt (1)), .int (Int32.ofInt ((I 2775))), .ref 43], M2)) rfl ?_
    refine w_sub rfl ?_
    refine w_pf hR3a rfl rfl rfl rfl (show w_in ((I 2775) - 1) from ⟨by omega, by omega⟩) (fun h => absurd h (by decide)) (fun M10 hR11 => ?_)
    replace hR11 : w_Rep w_TM fr X u l (w_up (w_up I 2774 ((I 2774) + 1)) 2775 ((I 2775) - 1)) A B C M10 := hR11
    refine w_fin (r := .inl none) (M' := M10) rfl ?_
    exact Or.inl ⟨rfl, hR11, (show (A 45) ((I 2774)) = 6 ∧ (A 46) ((I 2774)) = s by first | assumption | omega)⟩
  · rw [e6]
    replace hR3b : w_Rep w_TM fr X u l I3b A3b B3b C3b M2 := hR3b
    replace f7 : m_fx I A I3b A3b := f7
    exact Or.inr (⟨I3b, A3b, B3b, C3b, rfl, hR3b, (show m_fx I A I3b A3b by exact f7)⟩)
def m_closeWord_Q (fr : Nat → Bool) (X : Nat → Option (q_C (Nat → Int32))) (u l : Nat) (I : Nat → Int) (A : Nat → Int → Int) (B C : Nat → Nat) (M : w_M) (s : Int) : w_X → w_M → Prop := fun r M' => ((r = .inl none) ∧ (w_Rep w_TM fr X u l (w_up (w_up I 2774 ((I 2774) + 1)) 2775 ((I 2775) - 1)) A B C M') ∧ ((A 45) ((I 2774)) = 5 ∧ (A 46) ((I 2774)) = s)) ∨ (∃ (I' : Nat → Int) (A' : Nat → Int → Int) (B' C' : Nat → Nat), (r = .inr 69) ∧ (w_Rep w_TM fr X u l I' A' B' C' M') ∧ (m_fx I A I' A'))
set_option maxHeartbeats 100000000 in
set_option maxRecDepth 100000 in
theorem m_closeWord {L : Nat} {xs : Nat → Int32} {d : Nat} {fr : Nat → Bool} {X : Nat → Option (q_C (Nat → Int32))} {u l : Nat} {I : Nat → Int} {A : Nat → Int → Int} {B C : Nat → Nat} {M : w_M} (s : Int) (hR : w_Rep w_TM fr X u l I A B C M) (hd : 3 ≤ d) (r_s : w_in s) (hat : 0 ≤ (I 2774) ∧ (I 2774) < 1501) (ho : 1 ≤ (I 2775) ∧ (I 2775) ≤ 24) : w_W (z_P L xs) d 244 (0, [(0, .ref 43), (1, .int (Int32.ofInt (s)))], [], M) (m_closeWord_Q fr X u l I A B C M s) := by
  obtain ⟨ra_s, rb_s⟩ := r_s
  obtain ⟨d, rfl⟩ : ∃ d0, d = d0 + 1 := ⟨d - 1, by omega⟩
  refine w_adv (n := 2) (F' := (2, [(0, .ref 43), (1, .int (Int32.ofInt (s)))], [.int (Int32.ofInt (s)), .ref 43], M)) rfl ?_
  refine w_call (cm := 241) (as := [(0, .ref 43), (1, .int (Int32.ofInt (s)))]) (rest := []) (o := some (9, 43)) rfl (w_fitR hR rfl) (m_needWord (s) hR (show 2 ≤ d by omega) ⟨by omega, by omega⟩ (show 0 ≤ (I 2774) ∧ (I 2774) < 1501 by first | assumption | omega)) (fun r1 M2 q3 => ?_)
  rcases q3 with ⟨e4, hR3a, f5⟩ | ⟨I3b, A3b, B3b, C3b, e6, hR3b, f7⟩
  · rw [e4]
    replace hR3a : w_Rep w_TM fr X u l (w_up I 2774 ((I 2774) + 1)) A B C M2 := hR3a
    replace f5 : (A 45) ((I 2774)) = 5 ∧ (A 46) ((I 2774)) = s := f5
    show w_W _ _ _ (5, [(0, .ref 43), (1, .int (Int32.ofInt (s)))], [], M2) _
    refine w_adv (n := 2) (F' := (7, [(0, .ref 43), (1, .int (Int32.ofInt (s)))], [.ref 43, .ref 43], M2)) rfl ?_
    refine w_gf (v := .int (Int32.ofInt ((I 2775)))) hR3a rfl rfl rfl rfl ?_
    obtain ⟨r8, r9⟩ : -2147483648 ≤ (I 2775) ∧ (I 2775) ≤ 2147483647 := hR3a.ri 2775
    refine w_adv (n := 1) (F' := (11, [(0, .ref 43), (1, .int (Int32.ofInt (s)))], [.int (Int32.ofInt (1)), .int (Int32.ofInt ((I 2775))), .ref 43], M2)) rfl ?_
    refine w_sub rfl ?_
    refine w_pf hR3a rfl rfl rfl rfl (show w_in ((I 2775) - 1) from ⟨by omega, by omega⟩) (fun h => absurd h (by decide)) (fun M10 hR11 => ?_)
    replace hR11 : w_Rep w_TM fr X u l (w_up (w_up I 2774 ((I 2774) + 1)) 2775 ((I 2775) - 1)) A B C M10 := hR11
    refine w_fin (r := .inl none) (M' := M10) rfl ?_
    exact Or.inl ⟨rfl, hR11, (show (A 45) ((I 2774)) = 5 ∧ (A 46) ((I 2774)) = s by first | assumption | omega)⟩
  · rw [e6]
    replace hR3b : w_Rep w_TM fr X u l I3b A3b B3b C3b M2 := hR3b
    replace f7 : m_fx I A I3b A3b := f7
    exact Or.inr (⟨I3b, A3b, B3b, C3b, rfl, hR3b, (show m_fx I A I3b A3b by exact f7)⟩)
def m_node_Q (fr : Nat → Bool) (X : Nat → Option (q_C (Nat → Int32))) (u l : Nat) (I : Nat → Int) (A : Nat → Int → Int) (B C : Nat → Nat) (M : w_M) (kd : Int) (a : Int) (b : Int) (c : Int) : w_X → w_M → Prop := fun r M' => (∃ v : Int, ∃ (I' : Nat → Int) (A' : Nat → Int → Int) (B' C' : Nat → Nat), (r = .inl (some v)) ∧ (w_in v) ∧ (w_Rep w_TM fr X u l I' A' B' C' M') ∧ (m_fx I A I' A') ∧ (m_nd I A I' A' v kd a b c))
set_option maxHeartbeats 100000000 in
set_option maxRecDepth 100000 in
theorem m_node {L : Nat} {xs : Nat → Int32} {d : Nat} {fr : Nat → Bool} {X : Nat → Option (q_C (Nat → Int32))} {u l : Nat} {I : Nat → Int} {A : Nat → Int → Int} {B C : Nat → Nat} {M : w_M} (kd : Int) (a : Int) (b : Int) (c : Int) (hR : w_Rep w_TM fr X u l I A B C M) (hd : 2 ≤ d) (r_kd : w_in kd) (r_a : w_in a) (r_b : w_in b) (r_c : w_in c) (hn53 : (I 3393) = (I 3905)) (hn55 : (I 3521) = (I 3905)) (hn57 : (I 3649) = (I 3905)) (hn59 : (I 3777) = (I 3905)) (hn : (I 3905) < 65536) : w_W (z_P L xs) d 239 (0, [(0, .ref 43), (1, .int (Int32.ofInt (kd))), (2, .int (Int32.ofInt (a))), (3, .int (Int32.ofInt (b))), (4, .int (Int32.ofInt (c)))], [], M) (m_node_Q fr X u l I A B C M kd a b c) := by
  obtain ⟨ra_kd, rb_kd⟩ := r_kd
  obtain ⟨ra_a, rb_a⟩ := r_a
  obtain ⟨ra_b, rb_b⟩ := r_b
  obtain ⟨ra_c, rb_c⟩ := r_c
  obtain ⟨d, rfl⟩ : ∃ d0, d = d0 + 1 := ⟨d - 1, by omega⟩
  refine w_adv (n := 1) (F' := (1, [(0, .ref 43), (1, .int (Int32.ofInt (kd))), (2, .int (Int32.ofInt (a))), (3, .int (Int32.ofInt (b))), (4, .int (Int32.ofInt (c)))], [.ref 43], M)) rfl ?_
  refine w_gf (v := .ref 53) hR rfl rfl rfl rfl ?_
  refine w_adv (n := 1) (F' := (5, [(0, .ref 43), (1, .int (Int32.ofInt (kd))), (2, .int (Int32.ofInt (a))), (3, .int (Int32.ofInt (b))), (4, .int (Int32.ofInt (c)))], [.int (Int32.ofInt (kd)), .ref 53], M)) rfl ?_
  obtain ⟨r1a, r1b, r1c⟩ : 0 ≤ (I 3393) ∧ (I 3393) ≤ (C 53 : Int) ∧ (C 53 : Int) ≤ 131072 := hR.sz (show 53 ∈ w_TM.2.2 by decide)
  refine w_call (cm := 207) (as := [(0, .ref 53), (1, .int (Int32.ofInt (kd)))]) (rest := []) (o := some (10, 53)) rfl (w_fitR hR rfl) (m_add (kd) 53 (by decide) rfl hR ⟨by omega, by omega⟩ (show (I 3393) < 65536 by first | assumption | omega)) (fun r2 M3 q4 => ?_)
  rcases q4 with ⟨g4a, b4a, c4a, e5, hR4a, f6, f7⟩
  rw [e5]
  replace hR4a : w_Rep w_TM fr X u l (w_up I 3393 ((I 3393) + 1)) (w_upF A 53 g4a) (w_upN B 53 b4a) (w_upN C 53 c4a) M3 := hR4a
  replace f6 : ∀ i, 0 ≤ i → i < (I 3393) → g4a i = (A 53) i := f6
  replace f7 : g4a ((I 3393)) = kd := f7
  show w_W _ _ _ (8, [(0, .ref 43), (1, .int (Int32.ofInt (kd))), (2, .int (Int32.ofInt (a))), (3, .int (Int32.ofInt (b))), (4, .int (Int32.ofInt (c)))], [.int (Int32.ofInt ((I 3393)))], M3) _
  refine w_adv (n := 2) (F' := (11, [(5, .int (Int32.ofInt ((I 3393)))), (0, .ref 43), (1, .int (Int32.ofInt (kd))), (2, .int (Int32.ofInt (a))), (3, .int (Int32.ofInt (b))), (4, .int (Int32.ofInt (c)))], [.ref 43], M3)) rfl ?_
  refine w_gf (v := .ref 55) hR4a rfl rfl rfl rfl ?_
  refine w_adv (n := 1) (F' := (15, [(5, .int (Int32.ofInt ((I 3393)))), (0, .ref 43), (1, .int (Int32.ofInt (kd))), (2, .int (Int32.ofInt (a))), (3, .int (Int32.ofInt (b))), (4, .int (Int32.ofInt (c)))], [.int (Int32.ofInt (a)), .ref 55], M3)) rfl ?_
  obtain ⟨r8a, r8b, r8c⟩ : 0 ≤ (I 3521) ∧ (I 3521) ≤ (C 55 : Int) ∧ (C 55 : Int) ≤ 131072 := hR4a.sz (show 55 ∈ w_TM.2.2 by decide)
  refine w_call (cm := 207) (as := [(0, .ref 55), (1, .int (Int32.ofInt (a)))]) (rest := []) (o := some (10, 55)) rfl (w_fitR hR4a rfl) (m_add (a) 55 (by decide) rfl hR4a ⟨by omega, by omega⟩ (show (I 3521) < 65536 by first | assumption | omega)) (fun r9 M10 q11 => ?_)
  rcases q11 with ⟨g11a, b11a, c11a, e12, hR11a, f13, f14⟩
  rw [e12]
  replace hR11a : w_Rep w_TM fr X u l (w_up (w_up I 3393 ((I 3393) + 1)) 3521 ((I 3521) + 1)) (w_upF (w_upF A 53 g4a) 55 g11a) (w_upN (w_upN B 53 b4a) 55 b11a) (w_upN (w_upN C 53 c4a) 55 c11a) M10 := hR11a
  replace f13 : ∀ i, 0 ≤ i → i < (I 3521) → g11a i = (A 55) i := f13
  replace f14 : g11a ((I 3521)) = a := f14
  show w_W _ _ _ (18, [(5, .int (Int32.ofInt ((I 3393)))), (0, .ref 43), (1, .int (Int32.ofInt (kd))), (2, .int (Int32.ofInt (a))), (3, .int (Int32.ofInt (b))), (4, .int (Int32.ofInt (c)))], [.int (Int32.ofInt ((I 3521)))], M10) _
  refine w_adv (n := 2) (F' := (21, [(5, .int (Int32.ofInt ((I 3521)))), (0, .ref 43), (1, .int (Int32.ofInt (kd))), (2, .int (Int32.ofInt (a))), (3, .int (Int32.ofInt (b))), (4, .int (Int32.ofInt (c)))], [.ref 43], M10)) rfl ?_
  refine w_gf (v := .ref 57) hR11a rfl rfl rfl rfl ?_
  refine w_adv (n := 1) (F' := (25, [(5, .int (Int32.ofInt ((I 3521)))), (0, .ref 43), (1, .int (Int32.ofInt (kd))), (2, .int (Int32.ofInt (a))), (3, .int (Int32.ofInt (b))), (4, .int (Int32.ofInt (c)))], [.int (Int32.ofInt (b)), .ref 57], M10)) rfl ?_
  obtain ⟨r15a, r15b, r15c⟩ : 0 ≤ (I 3649) ∧ (I 3649) ≤ (C 57 : Int) ∧ (C 57 : Int) ≤ 131072 := hR11a.sz (show 57 ∈ w_TM.2.2 by decide)
  refine w_call (cm := 207) (as := [(0, .ref 57), (1, .int (Int32.ofInt (b)))]) (rest := []) (o := some (10, 57)) rfl (w_fitR hR11a rfl) (m_add (b) 57 (by decide) rfl hR11a ⟨by omega, by omega⟩ (show (I 3649) < 65536 by first | assumption | omega)) (fun r16 M17 q18 => ?_)
  rcases q18 with ⟨g18a, b18a, c18a, e19, hR18a, f20, f21⟩
  rw [e19]
  replace hR18a : w_Rep w_TM fr X u l (w_up (w_up (w_up I 3393 ((I 3393) + 1)) 3521 ((I 3521) + 1)) 3649 ((I 3649) + 1)) (w_upF (w_upF (w_upF A 53 g4a) 55 g11a) 57 g18a) (w_upN (w_upN (w_upN B 53 b4a) 55 b11a) 57 b18a) (w_upN (w_upN (w_upN C 53 c4a) 55 c11a) 57 c18a) M17 := hR18a
  replace f20 : ∀ i, 0 ≤ i → i < (I 3649) → g18a i = (A 57) i := f20
  replace f21 : g18a ((I 3649)) = b := f21
  show w_W _ _ _ (28, [(5, .int (Int32.ofInt ((I 3521)))), (0, .ref 43), (1, .int (Int32.ofInt (kd))), (2, .int (Int32.ofInt (a))), (3, .int (Int32.ofInt (b))), (4, .int (Int32.ofInt (c)))], [.int (Int32.ofInt ((I 3649)))], M17) _
  refine w_adv (n := 2) (F' := (31, [(5, .int (Int32.ofInt ((I 3649)))), (0, .ref 43), (1, .int (Int32.ofInt (kd))), (2, .int (Int32.ofInt (a))), (3, .int (Int32.ofInt (b))), (4, .int (Int32.ofInt (c)))], [.ref 43], M17)) rfl ?_
  refine w_gf (v := .ref 59) hR18a rfl rfl rfl rfl ?_
  refine w_adv (n := 1) (F' := (36, [(5, .int (Int32.ofInt ((I 3649)))), (0, .ref 43), (1, .int (Int32.ofInt (kd))), (2, .int (Int32.ofInt (a))), (3, .int (Int32.ofInt (b))), (4, .int (Int32.ofInt (c)))], [.int (Int32.ofInt (c)), .ref 59], M17)) rfl ?_
  obtain ⟨r22a, r22b, r22c⟩ : 0 ≤ (I 3777) ∧ (I 3777) ≤ (C 59 : Int) ∧ (C 59 : Int) ≤ 131072 := hR18a.sz (show 59 ∈ w_TM.2.2 by decide)
  refine w_call (cm := 207) (as := [(0, .ref 59), (1, .int (Int32.ofInt (c)))]) (rest := []) (o := some (10, 59)) rfl (w_fitR hR18a rfl) (m_add (c) 59 (by decide) rfl hR18a ⟨by omega, by omega⟩ (show (I 3777) < 65536 by first | assumption | omega)) (fun r23 M24 q25 => ?_)
  rcases q25 with ⟨g25a, b25a, c25a, e26, hR25a, f27, f28⟩
  rw [e26]
  replace hR25a : w_Rep w_TM fr X u l (w_up (w_up (w_up (w_up I 3393 ((I 3393) + 1)) 3521 ((I 3521) + 1)) 3649 ((I 3649) + 1)) 3777 ((I 3777) + 1)) (w_upF (w_upF (w_upF (w_upF A 53 g4a) 55 g11a) 57 g18a) 59 g25a) (w_upN (w_upN (w_upN (w_upN B 53 b4a) 55 b11a) 57 b18a) 59 b25a) (w_upN (w_upN (w_upN (w_upN C 53 c4a) 55 c11a) 57 c18a) 59 c25a) M24 := hR25a
  replace f27 : ∀ i, 0 ≤ i → i < (I 3777) → g25a i = (A 59) i := f27
  replace f28 : g25a ((I 3777)) = c := f28
  show w_W _ _ _ (39, [(5, .int (Int32.ofInt ((I 3649)))), (0, .ref 43), (1, .int (Int32.ofInt (kd))), (2, .int (Int32.ofInt (a))), (3, .int (Int32.ofInt (b))), (4, .int (Int32.ofInt (c)))], [.int (Int32.ofInt ((I 3777)))], M24) _
  refine w_adv (n := 2) (F' := (42, [(5, .int (Int32.ofInt ((I 3777)))), (0, .ref 43), (1, .int (Int32.ofInt (kd))), (2, .int (Int32.ofInt (a))), (3, .int (Int32.ofInt (b))), (4, .int (Int32.ofInt (c)))], [.ref 43], M24)) rfl ?_
  refine w_gf (v := .ref 61) hR25a rfl rfl rfl rfl ?_
  refine w_adv (n := 1) (F' := (46, [(5, .int (Int32.ofInt ((I 3777)))), (0, .ref 43), (1, .int (Int32.ofInt (kd))), (2, .int (Int32.ofInt (a))), (3, .int (Int32.ofInt (b))), (4, .int (Int32.ofInt (c)))], [.int (Int32.ofInt ((-1))), .ref 61], M24)) rfl ?_
  obtain ⟨r29a, r29b, r29c⟩ : 0 ≤ (I 3905) ∧ (I 3905) ≤ (C 61 : Int) ∧ (C 61 : Int) ≤ 131072 := hR25a.sz (show 61 ∈ w_TM.2.2 by decide)
  refine w_call (cm := 207) (as := [(0, .ref 61), (1, .int (Int32.ofInt ((-1))))]) (rest := []) (o := some (10, 61)) rfl (w_fitR hR25a rfl) (m_add ((-1)) 61 (by decide) rfl hR25a ⟨by omega, by omega⟩ (show (I 3905) < 65536 by first | assumption | omega)) (fun r30 M31 q32 => ?_)
  rcases q32 with ⟨g32a, b32a, c32a, e33, hR32a, f34, f35⟩
  rw [e33]
  replace hR32a : w_Rep w_TM fr X u l (w_up (w_up (w_up (w_up (w_up I 3393 ((I 3393) + 1)) 3521 ((I 3521) + 1)) 3649 ((I 3649) + 1)) 3777 ((I 3777) + 1)) 3905 ((I 3905) + 1)) (w_upF (w_upF (w_upF (w_upF (w_upF A 53 g4a) 55 g11a) 57 g18a) 59 g25a) 61 g32a) (w_upN (w_upN (w_upN (w_upN (w_upN B 53 b4a) 55 b11a) 57 b18a) 59 b25a) 61 b32a) (w_upN (w_upN (w_upN (w_upN (w_upN C 53 c4a) 55 c11a) 57 c18a) 59 c25a) 61 c32a) M31 := hR32a
  replace f34 : ∀ i, 0 ≤ i → i < (I 3905) → g32a i = (A 61) i := f34
  replace f35 : g32a ((I 3905)) = (-1) := f35
  show w_W _ _ _ (49, [(5, .int (Int32.ofInt ((I 3777)))), (0, .ref 43), (1, .int (Int32.ofInt (kd))), (2, .int (Int32.ofInt (a))), (3, .int (Int32.ofInt (b))), (4, .int (Int32.ofInt (c)))], [.int (Int32.ofInt ((I 3905)))], M31) _
  refine w_fin (r := .inl (some ((I 3905)))) (M' := M31) rfl ?_
  exact ⟨(I 3905), (w_up (w_up (w_up (w_up (w_up I 3393 ((I 3393) + 1)) 3521 ((I 3521) + 1)) 3649 ((I 3649) + 1)) 3777 ((I 3777) + 1)) 3905 ((I 3905) + 1)), (w_upF (w_upF (w_upF (w_upF (w_upF A 53 g4a) 55 g11a) 57 g18a) 59 g25a) 61 g32a), (w_upN (w_upN (w_upN (w_upN (w_upN B 53 b4a) 55 b11a) 57 b18a) 59 b25a) 61 b32a), (w_upN (w_upN (w_upN (w_upN (w_upN C 53 c4a) 55 c11a) 57 c18a) 59 c25a) 61 c32a), rfl, ⟨by omega, by omega⟩, hR32a, m_fx_refl, rfl, ⟨rfl, rfl, rfl, rfl, rfl⟩, (fun s h1 h2 h3 h4 h5 => by rw [w_up_ne h5, w_up_ne h4, w_up_ne h3, w_up_ne h2, w_up_ne h1]), (fun j h1 h2 h3 h4 h5 => by rw [w_upF_ne h5, w_upF_ne h4, w_upF_ne h3, w_upF_ne h2, w_upF_ne h1]), (fun i h0 h1 => ⟨f6 i h0 (by omega), f13 i h0 (by omega), f20 i h0 (by omega), f27 i h0 (by omega), f34 i h0 (by omega)⟩), (hn53 ▸ f7), (hn55 ▸ f14), (hn57 ▸ f21), (hn59 ▸ f28), f35⟩
