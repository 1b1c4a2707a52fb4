def m_atomByte_Q (fr : Nat → Bool) (X : Nat → Option (q_C (Nat → Int32))) (u l : Nat) (I : Nat → Int) (A : Nat → Int → Int) (B C : Nat → Nat) (M : w_M) (t : Int) (k : Int) : w_X → w_M → Prop := fun r M' => (∃ v : Int, (r = .inl (some v)) ∧ (w_in v) ∧ (M' = M) ∧ (0 ≤ v → k < 9648))
set_option maxHeartbeats 100000000 in
set_option maxRecDepth 100000 in
theorem m_atomByte {L : Nat} {xs : Nat → Int32} {d : Nat} {fr : Nat → Bool} {X : Nat → Option (q_C (Nat → Int32))} {u l : Nat} {I : Nat → Int} {A : Nat → Int → Int} {B C : Nat → Nat} {M : w_M} (t : Int) (k : Int) (hR : w_Rep w_TM fr X u l I A B C M) (r_t : w_in t) (r_k : w_in k) (hNA : m_NA I A) : w_W (z_P L xs) d 288 (0, [(0, .ref 43), (1, .int (Int32.ofInt (t))), (2, .int (Int32.ofInt (k)))], [], M) (m_atomByte_Q fr X u l I A B C M t k) := by
  obtain ⟨ra_t, rb_t⟩ := r_t
  obtain ⟨ra_k, rb_k⟩ := r_k
  obtain ⟨⟨nx1, nx2, nx3⟩, -⟩ := id hNA
  refine w_adv (n := 1) (F' := (1, [(0, .ref 43), (1, .int (Int32.ofInt (t))), (2, .int (Int32.ofInt (k)))], [.int (Int32.ofInt (t))], M)) rfl ?_
  refine w_br1 (a := t) rfl rfl ⟨by omega, by omega⟩ (fun h1 => ?_) (fun h1 => ?_)
  · have h1 : t < 0 := h1
    show w_W _ _ _ (35, [(0, .ref 43), (1, .int (Int32.ofInt (t))), (2, .int (Int32.ofInt (k)))], [], M) _
    refine w_adv (n := 1) (F' := (36, [(0, .ref 43), (1, .int (Int32.ofInt (t))), (2, .int (Int32.ofInt (k)))], [.int (Int32.ofInt ((-1)))], M)) rfl ?_
    refine w_fin (r := .inl (some ((-1)))) (M' := M) rfl ?_
    exact ⟨(-1), rfl, ⟨by omega, by omega⟩, rfl, (show 0 ≤ (-1) → k < 9648 by intro h; omega)⟩
  · have h1 : ¬ (t < 0) := h1
    show w_W _ _ _ (4, [(0, .ref 43), (1, .int (Int32.ofInt (t))), (2, .int (Int32.ofInt (k)))], [], M) _
    refine w_adv (n := 2) (F' := (6, [(0, .ref 43), (1, .int (Int32.ofInt (t))), (2, .int (Int32.ofInt (k)))], [.ref 43, .int (Int32.ofInt (t))], M)) rfl ?_
    refine w_gf (v := .int (Int32.ofInt ((I 2760)))) hR rfl rfl rfl rfl ?_
    obtain ⟨r2, r3⟩ : -2147483648 ≤ (I 2760) ∧ (I 2760) ≤ 2147483647 := hR.ri 2760
    refine w_br2 (a := t) (b := (I 2760)) rfl rfl ⟨by omega, by omega⟩ ⟨by omega, by omega⟩ (fun h4 => ?_) (fun h4 => ?_)
    · have h4 : t ≥ (I 2760) := h4
      show w_W _ _ _ (35, [(0, .ref 43), (1, .int (Int32.ofInt (t))), (2, .int (Int32.ofInt (k)))], [], M) _
      refine w_adv (n := 1) (F' := (36, [(0, .ref 43), (1, .int (Int32.ofInt (t))), (2, .int (Int32.ofInt (k)))], [.int (Int32.ofInt ((-1)))], M)) rfl ?_
      refine w_fin (r := .inl (some ((-1)))) (M' := M) rfl ?_
      exact ⟨(-1), rfl, ⟨by omega, by omega⟩, rfl, (show 0 ≤ (-1) → k < 9648 by intro h; omega)⟩
    · have h4 : ¬ (t ≥ (I 2760)) := h4
      show w_W _ _ _ (12, [(0, .ref 43), (1, .int (Int32.ofInt (t))), (2, .int (Int32.ofInt (k)))], [], M) _
      refine w_adv (n := 1) (F' := (13, [(0, .ref 43), (1, .int (Int32.ofInt (t))), (2, .int (Int32.ofInt (k)))], [.int (Int32.ofInt (k))], M)) rfl ?_
      refine w_br1 (a := k) rfl rfl ⟨by omega, by omega⟩ (fun h5 => ?_) (fun h5 => ?_)
      · have h5 : k < 0 := h5
        show w_W _ _ _ (35, [(0, .ref 43), (1, .int (Int32.ofInt (t))), (2, .int (Int32.ofInt (k)))], [], M) _
        refine w_adv (n := 1) (F' := (36, [(0, .ref 43), (1, .int (Int32.ofInt (t))), (2, .int (Int32.ofInt (k)))], [.int (Int32.ofInt ((-1)))], M)) rfl ?_
        refine w_fin (r := .inl (some ((-1)))) (M' := M) rfl ?_
        exact ⟨(-1), rfl, ⟨by omega, by omega⟩, rfl, (show 0 ≤ (-1) → k < 9648 by intro h; omega)⟩
      · have h5 : ¬ (k < 0) := h5
        show w_W _ _ _ (16, [(0, .ref 43), (1, .int (Int32.ofInt (t))), (2, .int (Int32.ofInt (k)))], [], M) _
        obtain ⟨⟨na1, na2⟩, -⟩ := hNA.2 t (by omega) (by omega)
        obtain ⟨⟨nb1, nb2⟩, -⟩ := hNA.2 (t + 1) (by omega) (by omega)
        refine w_adv (n := 2) (F' := (18, [(0, .ref 43), (1, .int (Int32.ofInt (t))), (2, .int (Int32.ofInt (k)))], [.ref 43, .int (Int32.ofInt (k))], M)) rfl ?_
        refine w_gf (v := .ref 49) hR rfl rfl rfl rfl ?_
        refine w_adv (n := 2) (F' := (23, [(0, .ref 43), (1, .int (Int32.ofInt (t))), (2, .int (Int32.ofInt (k)))], [.int (Int32.ofInt (1)), .int (Int32.ofInt (t)), .ref 49, .int (Int32.ofInt (k))], M)) rfl ?_
        refine w_add rfl ?_
        refine w_la (n := 402) hR rfl (Or.inl ⟨rfl, rfl⟩) rfl (show 0 ≤ t + 1 by omega) (show t + 1 < (402 : Int) by omega) (by decide) ?_
        obtain ⟨r6, r7⟩ : -2147483648 ≤ (A 49) (t + 1) ∧ (A 49) (t + 1) ≤ 2147483647 := hR.ra 49 (t + 1)
        show w_W _ _ _ (25, [(0, .ref 43), (1, .int (Int32.ofInt (t))), (2, .int (Int32.ofInt (k)))], [.int (Int32.ofInt ((A 49) (t + 1))), .int (Int32.ofInt (k))], M) _
        refine w_adv (n := 1) (F' := (26, [(0, .ref 43), (1, .int (Int32.ofInt (t))), (2, .int (Int32.ofInt (k)))], [.ref 43, .int (Int32.ofInt ((A 49) (t + 1))), .int (Int32.ofInt (k))], M)) rfl ?_
        refine w_gf (v := .ref 49) hR rfl rfl rfl rfl ?_
        refine w_adv (n := 1) (F' := (30, [(0, .ref 43), (1, .int (Int32.ofInt (t))), (2, .int (Int32.ofInt (k)))], [.int (Int32.ofInt (t)), .ref 49, .int (Int32.ofInt ((A 49) (t + 1))), .int (Int32.ofInt (k))], M)) rfl ?_
        refine w_la (n := 402) hR rfl (Or.inl ⟨rfl, rfl⟩) rfl (show 0 ≤ t by omega) (show t < (402 : Int) by omega) (by decide) ?_
        obtain ⟨r8, r9⟩ : -2147483648 ≤ (A 49) (t) ∧ (A 49) (t) ≤ 2147483647 := hR.ra 49 (t)
        show w_W _ _ _ (31, [(0, .ref 43), (1, .int (Int32.ofInt (t))), (2, .int (Int32.ofInt (k)))], [.int (Int32.ofInt ((A 49) (t))), .int (Int32.ofInt ((A 49) (t + 1))), .int (Int32.ofInt (k))], M) _
        refine w_sub rfl ?_
        refine w_br2 (a := k) (b := ((A 49) (t + 1)) - ((A 49) (t))) rfl rfl ⟨by omega, by omega⟩ ⟨by omega, by omega⟩ (fun h10 => ?_) (fun h10 => ?_)
        · have h10 : k < ((A 49) (t + 1)) - ((A 49) (t)) := h10
          show w_W _ _ _ (37, [(0, .ref 43), (1, .int (Int32.ofInt (t))), (2, .int (Int32.ofInt (k)))], [], M) _
          refine w_adv (n := 1) (F' := (38, [(0, .ref 43), (1, .int (Int32.ofInt (t))), (2, .int (Int32.ofInt (k)))], [.ref 43], M)) rfl ?_
          refine w_gf (v := .ref 50) hR rfl rfl rfl rfl ?_
          refine w_adv (n := 1) (F' := (42, [(0, .ref 43), (1, .int (Int32.ofInt (t))), (2, .int (Int32.ofInt (k)))], [.ref 43, .ref 50], M)) rfl ?_
          refine w_gf (v := .ref 49) hR rfl rfl rfl rfl ?_
          refine w_adv (n := 1) (F' := (46, [(0, .ref 43), (1, .int (Int32.ofInt (t))), (2, .int (Int32.ofInt (k)))], [.int (Int32.ofInt (t)), .ref 49, .ref 50], M)) rfl ?_
          refine w_la (n := 402) hR rfl (Or.inl ⟨rfl, rfl⟩) rfl (show 0 ≤ t by omega) (show t < (402 : Int) by omega) (by decide) ?_
          show w_W _ _ _ (47, [(0, .ref 43), (1, .int (Int32.ofInt (t))), (2, .int (Int32.ofInt (k)))], [.int (Int32.ofInt ((A 49) (t))), .ref 50], M) _
          refine w_adv (n := 1) (F' := (48, [(0, .ref 43), (1, .int (Int32.ofInt (t))), (2, .int (Int32.ofInt (k)))], [.int (Int32.ofInt (k)), .int (Int32.ofInt ((A 49) (t))), .ref 50], M)) rfl ?_
          refine w_add rfl ?_
          refine w_la (n := 9648) hR rfl (Or.inr ⟨rfl, rfl⟩) rfl (show 0 ≤ ((A 49) (t)) + k by omega) (show ((A 49) (t)) + k < (9648 : Int) by omega) (by decide) ?_
          obtain ⟨r11, r12⟩ : -2147483648 ≤ (A 50) (((A 49) (t)) + k) ∧ (A 50) (((A 49) (t)) + k) ≤ 2147483647 := hR.ra 50 (((A 49) (t)) + k)
          show w_W _ _ _ (50, [(0, .ref 43), (1, .int (Int32.ofInt (t))), (2, .int (Int32.ofInt (k)))], [.int (Int32.ofInt ((A 50) (((A 49) (t)) + k)))], M) _
          refine w_fin (r := .inl (some ((A 50) (((A 49) (t)) + k)))) (M' := M) rfl ?_
          exact ⟨(A 50) (((A 49) (t)) + k), rfl, ⟨by omega, by omega⟩, rfl, (show 0 ≤ (A 50) (((A 49) (t)) + k) → k < 9648 by intro h; omega)⟩
        · have h10 : ¬ (k < ((A 49) (t + 1)) - ((A 49) (t))) := h10
          show w_W _ _ _ (35, [(0, .ref 43), (1, .int (Int32.ofInt (t))), (2, .int (Int32.ofInt (k)))], [], M) _
          refine w_adv (n := 1) (F' := (36, [(0, .ref 43), (1, .int (Int32.ofInt (t))), (2, .int (Int32.ofInt (k)))], [.int (Int32.ofInt ((-1)))], M)) rfl ?_
          refine w_fin (r := .inl (some ((-1)))) (M' := M) rfl ?_
          exact ⟨(-1), rfl, ⟨by omega, by omega⟩, rfl, (show 0 ≤ (-1) → k < 9648 by intro h; omega)⟩
def m_isBefore_Q (fr : Nat → Bool) (X : Nat → Option (q_C (Nat → Int32))) (u l : Nat) (I : Nat → Int) (A : Nat → Int → Int) (B C : Nat → Nat) (M : w_M) (f : Int) (g : Int) : w_X → w_M → Prop := fun r M' => (∃ v : Int, (r = .inl (some v)) ∧ (w_in v) ∧ (M' = M) ∧ (v = 0 ∨ v = 1))
set_option maxHeartbeats 100000000 in
set_option maxRecDepth 100000 in
theorem m_isBefore {L : Nat} {xs : Nat → Int32} {d : Nat} {fr : Nat → Bool} {X : Nat → Option (q_C (Nat → Int32))} {u l : Nat} {I : Nat → Int} {A : Nat → Int → Int} {B C : Nat → Nat} {M : w_M} (f : Int) (g : Int) (hR : w_Rep w_TM fr X u l I A B C M) (hd : 1 ≤ d) (r_f : w_in f) (r_g : w_in g) (hNA : m_NA I A) : w_W (z_P L xs) d 287 (0, [(0, .ref 43), (1, .int (Int32.ofInt (f))), (2, .int (Int32.ofInt (g)))], [], M) (m_isBefore_Q fr X u l I A B C M f g) := by
  obtain ⟨ra_f, rb_f⟩ := r_f
  obtain ⟨ra_g, rb_g⟩ := r_g
  obtain ⟨d, rfl⟩ : ∃ d0, d = d0 + 1 := ⟨d - 1, by omega⟩
  refine w_adv (n := 1) (F' := (1, [(0, .ref 43), (1, .int (Int32.ofInt (f))), (2, .int (Int32.ofInt (g)))], [.int (Int32.ofInt (f))], M)) rfl ?_
  refine w_br1 (a := f) rfl rfl ⟨by omega, by omega⟩ (fun h1 => ?_) (fun h1 => ?_)
  · have h1 : f > 0 := h1
    show w_W _ _ _ (8, [(0, .ref 43), (1, .int (Int32.ofInt (f))), (2, .int (Int32.ofInt (g)))], [], M) _
    refine w_adv (n := 1) (F' := (9, [(0, .ref 43), (1, .int (Int32.ofInt (f))), (2, .int (Int32.ofInt (g)))], [.int (Int32.ofInt (f))], M)) rfl ?_
    refine w_br1 (a := f) rfl rfl ⟨by omega, by omega⟩ (fun h2 => ?_) (fun h2 => ?_)
    · have h2 : f ≤ 0 := h2
      show w_W _ _ _ (25, [(0, .ref 43), (1, .int (Int32.ofInt (f))), (2, .int (Int32.ofInt (g)))], [], M) _
      refine w_adv (n := 1) (F' := (26, [(0, .ref 43), (1, .int (Int32.ofInt (f))), (2, .int (Int32.ofInt (g)))], [.int (Int32.ofInt (0))], M)) rfl ?_
      refine w_fin (r := .inl (some (0))) (M' := M) rfl ?_
      exact ⟨0, rfl, ⟨by omega, by omega⟩, rfl, (show 0 = 0 ∨ 0 = 1 by first | assumption | omega)⟩
    · have h2 : ¬ (f ≤ 0) := h2
      show w_W _ _ _ (12, [(0, .ref 43), (1, .int (Int32.ofInt (f))), (2, .int (Int32.ofInt (g)))], [], M) _
      refine w_adv (n := 1) (F' := (13, [(0, .ref 43), (1, .int (Int32.ofInt (f))), (2, .int (Int32.ofInt (g)))], [.int (Int32.ofInt (g))], M)) rfl ?_
      refine w_br1 (a := g) rfl rfl ⟨by omega, by omega⟩ (fun h3 => ?_) (fun h3 => ?_)
      · have h3 : g < 0 := h3
        show w_W _ _ _ (21, [(0, .ref 43), (1, .int (Int32.ofInt (f))), (2, .int (Int32.ofInt (g)))], [], M) _
        refine w_adv (n := 2) (F' := (26, [(0, .ref 43), (1, .int (Int32.ofInt (f))), (2, .int (Int32.ofInt (g)))], [.int (Int32.ofInt (1))], M)) rfl ?_
        refine w_fin (r := .inl (some (1))) (M' := M) rfl ?_
        exact ⟨1, rfl, ⟨by omega, by omega⟩, rfl, (show 1 = 0 ∨ 1 = 1 by first | assumption | omega)⟩
      · have h3 : ¬ (g < 0) := h3
        show w_W _ _ _ (16, [(0, .ref 43), (1, .int (Int32.ofInt (f))), (2, .int (Int32.ofInt (g)))], [], M) _
        refine w_adv (n := 2) (F' := (18, [(0, .ref 43), (1, .int (Int32.ofInt (f))), (2, .int (Int32.ofInt (g)))], [.int (Int32.ofInt (g)), .int (Int32.ofInt (f))], M)) rfl ?_
        refine w_br2 (a := f) (b := g) rfl rfl ⟨by omega, by omega⟩ ⟨by omega, by omega⟩ (fun h4 => ?_) (fun h4 => ?_)
        · have h4 : f ≥ g := h4
          show w_W _ _ _ (25, [(0, .ref 43), (1, .int (Int32.ofInt (f))), (2, .int (Int32.ofInt (g)))], [], M) _
          refine w_adv (n := 1) (F' := (26, [(0, .ref 43), (1, .int (Int32.ofInt (f))), (2, .int (Int32.ofInt (g)))], [.int (Int32.ofInt (0))], M)) rfl ?_
          refine w_fin (r := .inl (some (0))) (M' := M) rfl ?_
          exact ⟨0, rfl, ⟨by omega, by omega⟩, rfl, (show 0 = 0 ∨ 0 = 1 by first | assumption | omega)⟩
        · have h4 : ¬ (f ≥ g) := h4
          show w_W _ _ _ (21, [(0, .ref 43), (1, .int (Int32.ofInt (f))), (2, .int (Int32.ofInt (g)))], [], M) _
          refine w_adv (n := 2) (F' := (26, [(0, .ref 43), (1, .int (Int32.ofInt (f))), (2, .int (Int32.ofInt (g)))], [.int (Int32.ofInt (1))], M)) rfl ?_
          refine w_fin (r := .inl (some (1))) (M' := M) rfl ?_
          exact ⟨1, rfl, ⟨by omega, by omega⟩, rfl, (show 1 = 0 ∨ 1 = 1 by first | assumption | omega)⟩
  · have h1 : ¬ (f > 0) := h1
    show w_W _ _ _ (4, [(0, .ref 43), (1, .int (Int32.ofInt (f))), (2, .int (Int32.ofInt (g)))], [], M) _
    refine w_adv (n := 1) (F' := (5, [(0, .ref 43), (1, .int (Int32.ofInt (f))), (2, .int (Int32.ofInt (g)))], [.int (Int32.ofInt (g))], M)) rfl ?_
    refine w_br1 (a := g) rfl rfl ⟨by omega, by omega⟩ (fun h5 => ?_) (fun h5 => ?_)
    · have h5 : g ≤ 0 := h5
      show w_W _ _ _ (27, [(0, .ref 43), (1, .int (Int32.ofInt (f))), (2, .int (Int32.ofInt (g)))], [], M) _
      refine w_adv (n := 2) (F' := (29, [(0, .ref 43), (1, .int (Int32.ofInt (f))), (2, .int (Int32.ofInt (g)))], [.int (Int32.ofInt (f)), .int (Int32.ofInt ((-1)))], M)) rfl ?_
      refine w_sub rfl ?_
      refine w_adv (n := 3) (F' := (33, [(3, .int (Int32.ofInt ((-1) - f))), (0, .ref 43), (1, .int (Int32.ofInt (f))), (2, .int (Int32.ofInt (g)))], [.int (Int32.ofInt (g)), .int (Int32.ofInt ((-1)))], M)) rfl ?_
      refine w_sub rfl ?_
      refine w_adv (n := 3) (F' := (39, [(5, .int (Int32.ofInt (0))), (4, .int (Int32.ofInt ((-1) - g))), (3, .int (Int32.ofInt ((-1) - f))), (0, .ref 43), (1, .int (Int32.ofInt (f))), (2, .int (Int32.ofInt (g)))], [], M)) rfl ?_
      have lp39 : ∀ fu39 : Nat, ∀ (y39_5 : Int), w_in y39_5 → 0 ≤ y39_5 ∧ y39_5 ≤ 9648 → 9648 - y39_5 < (fu39 : Int) → w_W (z_P L xs) (d + 1) 287 (39, [(0, .ref 43), (1, .int (Int32.ofInt (f))), (2, .int (Int32.ofInt (g))), (3, .int (Int32.ofInt ((-1) - f))), (4, .int (Int32.ofInt ((-1) - g))), (5, .int (Int32.ofInt (y39_5)))], [], M) (m_isBefore_Q fr X u l I A B C M f g) := by
        intro fu39
        induction fu39 with
        | zero =>
          intro y39_5 ⟨ra_y39_5, rb_y39_5⟩ hi39_0 hn39
          exfalso
          omega
        | succ fu39 ih39 =>
          intro y39_5 ⟨ra_y39_5, rb_y39_5⟩ hi39_0 hn39
          refine w_adv (n := 3) (F' := (43, [(0, .ref 43), (1, .int (Int32.ofInt (f))), (2, .int (Int32.ofInt (g))), (3, .int (Int32.ofInt ((-1) - f))), (4, .int (Int32.ofInt ((-1) - g))), (5, .int (Int32.ofInt (y39_5)))], [.int (Int32.ofInt (y39_5)), .int (Int32.ofInt ((-1) - f)), .ref 43], M)) rfl ?_
          refine w_call (cm := 288) (as := [(0, .ref 43), (1, .int (Int32.ofInt ((-1) - f))), (2, .int (Int32.ofInt (y39_5)))]) (rest := []) (o := some (9, 43)) rfl (w_fitR hR rfl) (m_atomByte ((-1) - f) (y39_5) hR ⟨by omega, by omega⟩ ⟨by omega, by omega⟩ (show m_NA I A by first | assumption | omega)) (fun r6 M7 q8 => ?_)
          rcases q8 with ⟨v9, e10, ⟨r11, r12⟩, e13, f14⟩
          rw [e10, e13]
          replace f14 : 0 ≤ v9 → y39_5 < 9648 := f14
          show w_W _ _ _ (46, [(0, .ref 43), (1, .int (Int32.ofInt (f))), (2, .int (Int32.ofInt (g))), (3, .int (Int32.ofInt ((-1) - f))), (4, .int (Int32.ofInt ((-1) - g))), (5, .int (Int32.ofInt (y39_5)))], [.int (Int32.ofInt (v9))], M) _
          refine w_br1 (a := v9) rfl rfl ⟨by omega, by omega⟩ (fun h15 => ?_) (fun h15 => ?_)
          · have h15 : v9 < 0 := h15
            show w_W _ _ _ (73, [(0, .ref 43), (1, .int (Int32.ofInt (f))), (2, .int (Int32.ofInt (g))), (3, .int (Int32.ofInt ((-1) - f))), (4, .int (Int32.ofInt ((-1) - g))), (5, .int (Int32.ofInt (y39_5)))], [], M) _
            refine w_adv (n := 3) (F' := (77, [(0, .ref 43), (1, .int (Int32.ofInt (f))), (2, .int (Int32.ofInt (g))), (3, .int (Int32.ofInt ((-1) - f))), (4, .int (Int32.ofInt ((-1) - g))), (5, .int (Int32.ofInt (y39_5)))], [.int (Int32.ofInt (y39_5)), .int (Int32.ofInt ((-1) - f)), .ref 43], M)) rfl ?_
            refine w_call (cm := 288) (as := [(0, .ref 43), (1, .int (Int32.ofInt ((-1) - f))), (2, .int (Int32.ofInt (y39_5)))]) (rest := []) (o := some (9, 43)) rfl (w_fitR hR rfl) (m_atomByte ((-1) - f) (y39_5) hR ⟨by omega, by omega⟩ ⟨by omega, by omega⟩ (show m_NA I A by first | assumption | omega)) (fun r16 M17 q18 => ?_)
            rcases q18 with ⟨v19, e20, ⟨r21, r22⟩, e23, f24⟩
            rw [e20, e23]
            replace f24 : 0 ≤ v19 → y39_5 < 9648 := f24
            show w_W _ _ _ (80, [(0, .ref 43), (1, .int (Int32.ofInt (f))), (2, .int (Int32.ofInt (g))), (3, .int (Int32.ofInt ((-1) - f))), (4, .int (Int32.ofInt ((-1) - g))), (5, .int (Int32.ofInt (y39_5)))], [.int (Int32.ofInt (v19))], M) _
            refine w_adv (n := 3) (F' := (85, [(0, .ref 43), (1, .int (Int32.ofInt (f))), (2, .int (Int32.ofInt (g))), (3, .int (Int32.ofInt ((-1) - f))), (4, .int (Int32.ofInt ((-1) - g))), (5, .int (Int32.ofInt (y39_5)))], [.int (Int32.ofInt (y39_5)), .int (Int32.ofInt ((-1) - g)), .ref 43, .int (Int32.ofInt (v19))], M)) rfl ?_
            refine w_call (cm := 288) (as := [(0, .ref 43), (1, .int (Int32.ofInt ((-1) - g))), (2, .int (Int32.ofInt (y39_5)))]) (rest := [.int (Int32.ofInt (v19))]) (o := some (9, 43)) rfl (w_fitR hR rfl) (m_atomByte ((-1) - g) (y39_5) hR ⟨by omega, by omega⟩ ⟨by omega, by omega⟩ (show m_NA I A by first | assumption | omega)) (fun r25 M26 q27 => ?_)
            rcases q27 with ⟨v28, e29, ⟨r30, r31⟩, e32, f33⟩
            rw [e29, e32]
            replace f33 : 0 ≤ v28 → y39_5 < 9648 := f33
            show w_W _ _ _ (88, [(0, .ref 43), (1, .int (Int32.ofInt (f))), (2, .int (Int32.ofInt (g))), (3, .int (Int32.ofInt ((-1) - f))), (4, .int (Int32.ofInt ((-1) - g))), (5, .int (Int32.ofInt (y39_5)))], [.int (Int32.ofInt (v28)), .int (Int32.ofInt (v19))], M) _
            refine w_br2 (a := v19) (b := v28) rfl rfl ⟨by omega, by omega⟩ ⟨by omega, by omega⟩ (fun h34 => ?_) (fun h34 => ?_)
            · have h34 : v19 ≥ v28 := h34
              show w_W _ _ _ (95, [(0, .ref 43), (1, .int (Int32.ofInt (f))), (2, .int (Int32.ofInt (g))), (3, .int (Int32.ofInt ((-1) - f))), (4, .int (Int32.ofInt ((-1) - g))), (5, .int (Int32.ofInt (y39_5)))], [], M) _
              refine w_adv (n := 1) (F' := (96, [(0, .ref 43), (1, .int (Int32.ofInt (f))), (2, .int (Int32.ofInt (g))), (3, .int (Int32.ofInt ((-1) - f))), (4, .int (Int32.ofInt ((-1) - g))), (5, .int (Int32.ofInt (y39_5)))], [.int (Int32.ofInt (0))], M)) rfl ?_
              refine w_fin (r := .inl (some (0))) (M' := M) rfl ?_
              exact ⟨0, rfl, ⟨by omega, by omega⟩, rfl, (show 0 = 0 ∨ 0 = 1 by first | assumption | omega)⟩
            · have h34 : ¬ (v19 ≥ v28) := h34
              show w_W _ _ _ (91, [(0, .ref 43), (1, .int (Int32.ofInt (f))), (2, .int (Int32.ofInt (g))), (3, .int (Int32.ofInt ((-1) - f))), (4, .int (Int32.ofInt ((-1) - g))), (5, .int (Int32.ofInt (y39_5)))], [], M) _
              refine w_adv (n := 2) (F' := (96, [(0, .ref 43), (1, .int (Int32.ofInt (f))), (2, .int (Int32.ofInt (g))), (3, .int (Int32.ofInt ((-1) - f))), (4, .int (Int32.ofInt ((-1) - g))), (5, .int (Int32.ofInt (y39_5)))], [.int (Int32.ofInt (1))], M)) rfl ?_
              refine w_fin (r := .inl (some (1))) (M' := M) rfl ?_
              exact ⟨1, rfl, ⟨by omega, by omega⟩, rfl, (show 1 = 0 ∨ 1 = 1 by first | assumption | omega)⟩
          · have h15 : ¬ (v9 < 0) := h15
            show w_W _ _ _ (49, [(0, .ref 43), (1, .int (Int32.ofInt (f))), (2, .int (Int32.ofInt (g))), (3, .int (Int32.ofInt ((-1) - f))), (4, .int (Int32.ofInt ((-1) - g))), (5, .int (Int32.ofInt (y39_5)))], [], M) _
            refine w_adv (n := 3) (F' := (53, [(0, .ref 43), (1, .int (Int32.ofInt (f))), (2, .int (Int32.ofInt (g))), (3, .int (Int32.ofInt ((-1) - f))), (4, .int (Int32.ofInt ((-1) - g))), (5, .int (Int32.ofInt (y39_5)))], [.int (Int32.ofInt (y39_5)), .int (Int32.ofInt ((-1) - f)), .ref 43], M)) rfl ?_
            refine w_call (cm := 288) (as := [(0, .ref 43), (1, .int (Int32.ofInt ((-1) - f))), (2, .int (Int32.ofInt (y39_5)))]) (rest := []) (o := some (9, 43)) rfl (w_fitR hR rfl) (m_atomByte ((-1) - f) (y39_5) hR ⟨by omega, by omega⟩ ⟨by omega, by omega⟩ (show m_NA I A by first | assumption | omega)) (fun r35 M36 q37 => ?_)
            rcases q37 with ⟨v38, e39, ⟨r40, r41⟩, e42, f43⟩
            rw [e39, e42]
            replace f43 : 0 ≤ v38 → y39_5 < 9648 := f43
            show w_W _ _ _ (56, [(0, .ref 43), (1, .int (Int32.ofInt (f))), (2, .int (Int32.ofInt (g))), (3, .int (Int32.ofInt ((-1) - f))), (4, .int (Int32.ofInt ((-1) - g))), (5, .int (Int32.ofInt (y39_5)))], [.int (Int32.ofInt (v38))], M) _
            refine w_adv (n := 3) (F' := (61, [(0, .ref 43), (1, .int (Int32.ofInt (f))), (2, .int (Int32.ofInt (g))), (3, .int (Int32.ofInt ((-1) - f))), (4, .int (Int32.ofInt ((-1) - g))), (5, .int (Int32.ofInt (y39_5)))], [.int (Int32.ofInt (y39_5)), .int (Int32.ofInt ((-1) - g)), .ref 43, .int (Int32.ofInt (v38))], M)) rfl ?_
            refine w_call (cm := 288) (as := [(0, .ref 43), (1, .int (Int32.ofInt ((-1) - g))), (2, .int (Int32.ofInt (y39_5)))]) (rest := [.int (Int32.ofInt (v38))]) (o := some (9, 43)) rfl (w_fitR hR rfl) (m_atomByte ((-1) - g) (y39_5) hR ⟨by omega, by omega⟩ ⟨by omega, by omega⟩ (show m_NA I A by first | assumption | omega)) (fun r44 M45 q46 => ?_)
            rcases q46 with ⟨v47, e48, ⟨r49, r50⟩, e51, f52⟩
            rw [e48, e51]
            replace f52 : 0 ≤ v47 → y39_5 < 9648 := f52
            show w_W _ _ _ (64, [(0, .ref 43), (1, .int (Int32.ofInt (f))), (2, .int (Int32.ofInt (g))), (3, .int (Int32.ofInt ((-1) - f))), (4, .int (Int32.ofInt ((-1) - g))), (5, .int (Int32.ofInt (y39_5)))], [.int (Int32.ofInt (v47)), .int (Int32.ofInt (v38))], M) _
            refine w_br2 (a := v38) (b := v47) rfl rfl ⟨by omega, by omega⟩ ⟨by omega, by omega⟩ (fun h53 => ?_) (fun h53 => ?_)
            · have h53 : ¬ v38 = v47 := h53
              show w_W _ _ _ (73, [(0, .ref 43), (1, .int (Int32.ofInt (f))), (2, .int (Int32.ofInt (g))), (3, .int (Int32.ofInt ((-1) - f))), (4, .int (Int32.ofInt ((-1) - g))), (5, .int (Int32.ofInt (y39_5)))], [], M) _
              refine w_adv (n := 3) (F' := (77, [(0, .ref 43), (1, .int (Int32.ofInt (f))), (2, .int (Int32.ofInt (g))), (3, .int (Int32.ofInt ((-1) - f))), (4, .int (Int32.ofInt ((-1) - g))), (5, .int (Int32.ofInt (y39_5)))], [.int (Int32.ofInt (y39_5)), .int (Int32.ofInt ((-1) - f)), .ref 43], M)) rfl ?_
              refine w_call (cm := 288) (as := [(0, .ref 43), (1, .int (Int32.ofInt ((-1) - f))), (2, .int (Int32.ofInt (y39_5)))]) (rest := []) (o := some (9, 43)) rfl (w_fitR hR rfl) (m_atomByte ((-1) - f) (y39_5) hR ⟨by omega, by omega⟩ ⟨by omega, by omega⟩ (show m_NA I A by first | assumption | omega)) (fun r54 M55 q56 => ?_)
              rcases q56 with ⟨v57, e58, ⟨r59, r60⟩, e61, f62⟩
              rw [e58, e61]
              replace f62 : 0 ≤ v57 → y39_5 < 9648 := f62
              show w_W _ _ _ (80, [(0, .ref 43), (1, .int (Int32.ofInt (f))), (2, .int (Int32.ofInt (g))), (3, .int (Int32.ofInt ((-1) - f))), (4, .int (Int32.ofInt ((-1) - g))), (5, .int (Int32.ofInt (y39_5)))], [.int (Int32.ofInt (v57))], M) _
              refine w_adv (n := 3) (F' := (85, [(0, .ref 43), (1, .int (Int32.ofInt (f))), (2, .int (Int32.ofInt (g))), (3, .int (Int32.ofInt ((-1) - f))), (4, .int (Int32.ofInt ((-1) - g))), (5, .int (Int32.ofInt (y39_5)))], [.int (Int32.ofInt (y39_5)), .int (Int32.ofInt ((-1) - g)), .ref 43, .int (Int32.ofInt (v57))], M)) rfl ?_
              refine w_call (cm := 288) (as := [(0, .ref 43), (1, .int (Int32.ofInt ((-1) - g))), (2, .int (Int32.ofInt (y39_5)))]) (rest := [.int (Int32.ofInt (v57))]) (o := some (9, 43)) rfl (w_fitR hR rfl) (m_atomByte ((-1) - g) (y39_5) hR ⟨by omega, by omega⟩ ⟨by omega, by omega⟩ (show m_NA I A by first | assumption | omega)) (fun r63 M64 q65 => ?_)
              rcases q65 with ⟨v66, e67, ⟨r68, r69⟩, e70, f71⟩
              rw [e67, e70]
              replace f71 : 0 ≤ v66 → y39_5 < 9648 := f71
              show w_W _ _ _ (88, [(0, .ref 43), (1, .int (Int32.ofInt (f))), (2, .int (Int32.ofInt (g))), (3, .int (Int32.ofInt ((-1) - f))), (4, .int (Int32.ofInt ((-1) - g))), (5, .int (Int32.ofInt (y39_5)))], [.int (Int32.ofInt (v66)), .int (Int32.ofInt (v57))], M) _
              refine w_br2 (a := v57) (b := v66) rfl rfl ⟨by omega, by omega⟩ ⟨by omega, by omega⟩ (fun h72 => ?_) (fun h72 => ?_)
              · have h72 : v57 ≥ v66 := h72
                show w_W _ _ _ (95, [(0, .ref 43), (1, .int (Int32.ofInt (f))), (2, .int (Int32.ofInt (g))), (3, .int (Int32.ofInt ((-1) - f))), (4, .int (Int32.ofInt ((-1) - g))), (5, .int (Int32.ofInt (y39_5)))], [], M) _
                refine w_adv (n := 1) (F' := (96, [(0, .ref 43), (1, .int (Int32.ofInt (f))), (2, .int (Int32.ofInt (g))), (3, .int (Int32.ofInt ((-1) - f))), (4, .int (Int32.ofInt ((-1) - g))), (5, .int (Int32.ofInt (y39_5)))], [.int (Int32.ofInt (0))], M)) rfl ?_
                refine w_fin (r := .inl (some (0))) (M' := M) rfl ?_
                exact ⟨0, rfl, ⟨by omega, by omega⟩, rfl, (show 0 = 0 ∨ 0 = 1 by first | assumption | omega)⟩
              · have h72 : ¬ (v57 ≥ v66) := h72
                show w_W _ _ _ (91, [(0, .ref 43), (1, .int (Int32.ofInt (f))), (2, .int (Int32.ofInt (g))), (3, .int (Int32.ofInt ((-1) - f))), (4, .int (Int32.ofInt ((-1) - g))), (5, .int (Int32.ofInt (y39_5)))], [], M) _
                refine w_adv (n := 2) (F' := (96, [(0, .ref 43), (1, .int (Int32.ofInt (f))), (2, .int (Int32.ofInt (g))), (3, .int (Int32.ofInt ((-1) - f))), (4, .int (Int32.ofInt ((-1) - g))), (5, .int (Int32.ofInt (y39_5)))], [.int (Int32.ofInt (1))], M)) rfl ?_
                refine w_fin (r := .inl (some (1))) (M' := M) rfl ?_
                exact ⟨1, rfl, ⟨by omega, by omega⟩, rfl, (show 1 = 0 ∨ 1 = 1 by first | assumption | omega)⟩
            · have h53 : ¬ (¬ v38 = v47) := h53
              show w_W _ _ _ (67, [(0, .ref 43), (1, .int (Int32.ofInt (f))), (2, .int (Int32.ofInt (g))), (3, .int (Int32.ofInt ((-1) - f))), (4, .int (Int32.ofInt ((-1) - g))), (5, .int (Int32.ofInt (y39_5)))], [], M) _
              refine w_inc (nL := 6) (a := y39_5) rfl rfl rfl (by decide) ?_
              refine w_adv (n := 1) (F' := (39, [(5, .int (Int32.ofInt (y39_5 + 1))), (0, .ref 43), (1, .int (Int32.ofInt (f))), (2, .int (Int32.ofInt (g))), (3, .int (Int32.ofInt ((-1) - f))), (4, .int (Int32.ofInt ((-1) - g)))], [], M)) rfl ?_
              refine w_ls (ls := [(0, .ref 43), (1, .int (Int32.ofInt (f))), (2, .int (Int32.ofInt (g))), (3, .int (Int32.ofInt ((-1) - f))), (4, .int (Int32.ofInt ((-1) - g))), (5, .int (Int32.ofInt (y39_5 + 1)))]) (show List.Nodup [0, 1, 2, 3, 4, 5] by decide) (show List.Nodup [5, 0, 1, 2, 3, 4] by decide) (List.forall_mem_cons.mpr ⟨(List.Mem.tail _ (List.Mem.head _)), (List.forall_mem_cons.mpr ⟨(List.Mem.tail _ (List.Mem.tail _ (List.Mem.head _))), (List.forall_mem_cons.mpr ⟨(List.Mem.tail _ (List.Mem.tail _ (List.Mem.tail _ (List.Mem.head _)))), (List.forall_mem_cons.mpr ⟨(List.Mem.tail _ (List.Mem.tail _ (List.Mem.tail _ (List.Mem.tail _ (List.Mem.head _))))), (List.forall_mem_cons.mpr ⟨(List.Mem.tail _ (List.Mem.tail _ (List.Mem.tail _ (List.Mem.tail _ (List.Mem.tail _ (List.Mem.head _)))))), (List.forall_mem_cons.mpr ⟨(List.Mem.head _), (fun _ h => by cases h)⟩)⟩)⟩)⟩)⟩)⟩) ?_
              exact ih39  (y39_5 + 1) ⟨by omega, by omega⟩ (show 0 ≤ (y39_5 + 1) ∧ (y39_5 + 1) ≤ 9648 by omega) (show 9648 - (y39_5 + 1) < (fu39 : Int) by omega)
      refine w_ls (ls := [(0, .ref 43), (1, .int (Int32.ofInt (f))), (2, .int (Int32.ofInt (g))), (3, .int (Int32.ofInt ((-1) - f))), (4, .int (Int32.ofInt ((-1) - g))), (5, .int (Int32.ofInt (0)))]) (show List.Nodup [0, 1, 2, 3, 4, 5] by decide) (show List.Nodup [5, 4, 3, 0, 1, 2] by decide) (List.forall_mem_cons.mpr ⟨(List.Mem.tail _ (List.Mem.tail _ (List.Mem.tail _ (List.Mem.head _)))), (List.forall_mem_cons.mpr ⟨(List.Mem.tail _ (List.Mem.tail _ (List.Mem.tail _ (List.Mem.tail _ (List.Mem.head _))))), (List.forall_mem_cons.mpr ⟨(List.Mem.tail _ (List.Mem.tail _ (List.Mem.tail _ (List.Mem.tail _ (List.Mem.tail _ (List.Mem.head _)))))), (List.forall_mem_cons.mpr ⟨(List.Mem.tail _ (List.Mem.tail _ (List.Mem.head _))), (List.forall_mem_cons.mpr ⟨(List.Mem.tail _ (List.Mem.head _)), (List.forall_mem_cons.mpr ⟨(List.Mem.head _), (fun _ h => by cases h)⟩)⟩)⟩)⟩)⟩)⟩) ?_
      exact lp39 ((9648 - 0 : Int).toNat + 1)  (0) ⟨by omega, by omega⟩ (show 0 ≤ (0 : Int) ∧ (0 : Int) ≤ 9648 by omega) (show 9648 - 0 < (((9648 - 0 : Int).toNat + 1 : Nat) : Int) by omega)
    · have h5 : ¬ (g ≤ 0) := h5
      show w_W _ _ _ (8, [(0, .ref 43), (1, .int (Int32.ofInt (f))), (2, .int (Int32.ofInt (g)))], [], M) _
      refine w_adv (n := 1) (F' := (9, [(0, .ref 43), (1, .int (Int32.ofInt (f))), (2, .int (Int32.ofInt (g)))], [.int (Int32.ofInt (f))], M)) rfl ?_
      refine w_br1 (a := f) rfl rfl ⟨by omega, by omega⟩ (fun h73 => ?_) (fun h73 => ?_)
      · have h73 : f ≤ 0 := h73
        show w_W _ _ _ (25, [(0, .ref 43), (1, .int (Int32.ofInt (f))), (2, .int (Int32.ofInt (g)))], [], M) _
        refine w_adv (n := 1) (F' := (26, [(0, .ref 43), (1, .int (Int32.ofInt (f))), (2, .int (Int32.ofInt (g)))], [.int (Int32.ofInt (0))], M)) rfl ?_
        refine w_fin (r := .inl (some (0))) (M' := M) rfl ?_
        exact ⟨0, rfl, ⟨by omega, by omega⟩, rfl, (show 0 = 0 ∨ 0 = 1 by first | assumption | omega)⟩
      · have h73 : ¬ (f ≤ 0) := h73
        show w_W _ _ _ (12, [(0, .ref 43), (1, .int (Int32.ofInt (f))), (2, .int (Int32.ofInt (g)))], [], M) _
        refine w_adv (n := 1) (F' := (13, [(0, .ref 43), (1, .int (Int32.ofInt (f))), (2, .int (Int32.ofInt (g)))], [.int (Int32.ofInt (g))], M)) rfl ?_
        refine w_br1 (a := g) rfl rfl ⟨by omega, by omega⟩ (fun h74 => ?_) (fun h74 => ?_)
        · have h74 : g < 0 := h74
          show w_W _ _ _ (21, [(0, .ref 43), (1, .int (Int32.ofInt (f))), (2, .int (Int32.ofInt (g)))], [], M) _
          refine w_adv (n := 2) (F' := (26, [(0, .ref 43), (1, .int (Int32.ofInt (f))), (2, .int (Int32.ofInt (g)))], [.int (Int32.ofInt (1))], M)) rfl ?_
          refine w_fin (r := .inl (some (1))) (M' := M) rfl ?_
          exact ⟨1, rfl, ⟨by omega, by omega⟩, rfl, (show 1 = 0 ∨ 1 = 1 by first | assumption | omega)⟩
        · have h74 : ¬ (g < 0) := h74
          show w_W _ _ _ (16, [(0, .ref 43), (1, .int (Int32.ofInt (f))), (2, .int (Int32.ofInt (g)))], [], M) _
          refine w_adv (n := 2) (F' := (18, [(0, .ref 43), (1, .int (Int32.ofInt (f))), (2, .int (Int32.ofInt (g)))], [.int (Int32.ofInt (g)), .int (Int32.ofInt (f))], M)) rfl ?_
          refine w_br2 (a := f) (b := g) rfl rfl ⟨by omega, by omega⟩ ⟨by omega, by omega⟩ (fun h75 => ?_) (fun h75 => ?_)
          · have h75 : f ≥ g := h75
            show w_W _ _ _ (25, [(0, .ref 43), (1, .int (Int32.ofInt (f))), (2, .int (Int32.ofInt (g)))], [], M) _
            refine w_adv (n := 1) (F' := (26, [(0, .ref 43), (1, .int (Int32.ofInt (f))), (2, .int (Int32.ofInt (g)))], [.int (Int32.ofInt (0))], M)) rfl ?_
            refine w_fin (r := .inl (some (0))) (M' := M) rfl ?_
            exact ⟨0, rfl, ⟨by omega, by omega⟩, rfl, (show 0 = 0 ∨ 0 = 1 by first | assumption | omega)⟩
          · have h75 : ¬ (f ≥ g) := h75
            show w_W _ _ _ (21, [(0, .ref 43), (1, .int (Int32.ofInt (f))), (2, .int (Int32.ofInt (g)))], [], M) _
            refine w_adv (n := 2) (F' := (26, [(0, .ref 43), (1, .int (Int32.ofInt (f))), (2, .int (Int32.ofInt (g)))], [.int (Int32.ofInt (1))], M)) rfl ?_
            refine w_fin (r := .inl (some (1))) (M' := M) rfl ?_
            exact ⟨1, rfl, ⟨by omega, by omega⟩, rfl, (show 1 = 0 ∨ 1 = 1 by first | assumption | omega)⟩
def m_sortPairs_Q (fr : Nat → Bool) (X : Nat → Option (q_C (Nat → Int32))) (u l : Nat) (I : Nat → Int) (A : Nat → Int → Int) (B C : Nat → Nat) (M : w_M) (fm : Int) : w_X → w_M → Prop := fun r M' => (∃ (I' : Nat → Int) (A' : Nat → Int → Int) (B' C' : Nat → Nat), (r = .inl none) ∧ (w_Rep w_TM fr X u l I' A' B' C' M') ∧ (m_gx I A I' A') ∧ ((((I' 4737) = (I' 4609) ∧ (I' 4865) = (I' 4609) ∧ (I' 4993) = (I' 4609) ∧ (I' 5121) = (I' 4609) ∧ (I' 5249) = (I' 4609) ∧ (I' 5377) = (I' 4609) ∧ (I' 3393) = (I' 3905) ∧ (I' 3521) = (I' 3905) ∧ (I' 3649) = (I' 3905) ∧ (I' 3777) = (I' 3905) ∧ (I' 4161) = (I' 4033)) ∧ (0 ≤ (I' 4609) ∧ 0 ≤ (I' 4481) ∧ 0 ≤ (I' 5505) ∧ 0 ≤ (I' 5633) ∧ 0 ≤ (I' 5761) ∧ 0 ≤ (I' 5889) ∧ 0 ≤ (I' 6017) ∧ 0 ≤ (I' 3905) ∧ 0 ≤ (I' 4033))) ∧ ((I' 3905) = (I 3905) ∧ (I' 4033) = (I 4033) ∧ (I' 4609) = (I 4609) ∧ (I' 4481) = (I 4481) ∧ (I' 5505) = (I 5505) ∧ (I' 5633) = (I 5633) ∧ (I' 5761) = (I 5761) ∧ (I' 5889) = (I 5889) ∧ (I' 6017) = (I 6017))) ∧ (m_BI I' A') ∧ (∀ i, 0 ≤ i → i < fm → (A' 92) i = (A 92) i) ∧ ((A' 94) = (A 94)))
set_option maxHeartbeats 100000000 in
set_option maxRecDepth 100000 in
theorem m_sortPairs {L : Nat} {xs : Nat → Int32} {d : Nat} {fr : Nat → Bool} {X : Nat → Option (q_C (Nat → Int32))} {u l : Nat} {I : Nat → Int} {A : Nat → Int → Int} {B C : Nat → Nat} {M : w_M} (fm : Int) (hR : w_Rep w_TM fr X u l I A B C M) (hd : 3 ≤ d) (r_fm : w_in fm) (hN : ((I 4737) = (I 4609) ∧ (I 4865) = (I 4609) ∧ (I 4993) = (I 4609) ∧ (I 5121) = (I 4609) ∧ (I 5249) = (I 4609) ∧ (I 5377) = (I 4609) ∧ (I 3393) = (I 3905) ∧ (I 3521) = (I 3905) ∧ (I 3649) = (I 3905) ∧ (I 3777) = (I 3905) ∧ (I 4161) = (I 4033)) ∧ (0 ≤ (I 4609) ∧ 0 ≤ (I 4481) ∧ 0 ≤ (I 5505) ∧ 0 ≤ (I 5633) ∧ 0 ≤ (I 5761) ∧ 0 ≤ (I 5889) ∧ 0 ≤ (I 6017) ∧ 0 ≤ (I 3905) ∧ 0 ≤ (I 4033))) (hBI : m_BI I A) (hNA : m_NA I A) (hf : 0 ≤ fm ∧ fm ≤ (I 5889) ∧ 2 ∣ ((I 5889) - fm)) : w_W (z_P L xs) d 286 (0, [(0, .ref 43), (1, .int (Int32.ofInt (fm)))], [], M) (m_sortPairs_Q fr X u l I A B C M fm) := by
  obtain ⟨ra_fm, rb_fm⟩ := r_fm
  obtain ⟨cz1, cz2, cz3⟩ : 0 ≤ (I 5889) ∧ (I 5889) ≤ (C 92 : Int) ∧ (C 92 : Int) ≤ 131072 := hR.sz (show 92 ∈ w_TM.2.2 by decide)
  obtain ⟨d, rfl⟩ : ∃ d0, d = d0 + 1 := ⟨d - 1, by omega⟩
  refine w_adv (n := 2) (F' := (2, [(0, .ref 43), (1, .int (Int32.ofInt (fm)))], [.int (Int32.ofInt (2)), .int (Int32.ofInt (fm))], M)) rfl ?_
  refine w_add rfl ?_
  refine w_adv (n := 1) (F' := (4, [(2, .int (Int32.ofInt (fm + 2))), (0, .ref 43), (1, .int (Int32.ofInt (fm)))], [], M)) rfl ?_
  have lp4 : ∀ fu4 : Nat, ∀ (y4_2 : Int) (I_4 : Nat → Int) (A_4 : Nat → Int → Int) (B_4 C_4 : Nat → Nat) (M_4 : w_M) (hR_4 : w_Rep w_TM fr X u l I_4 A_4 B_4 C_4 M_4), w_in y4_2 → m_gx I A I_4 A_4 → (((I_4 4737) = (I_4 4609) ∧ (I_4 4865) = (I_4 4609) ∧ (I_4 4993) = (I_4 4609) ∧ (I_4 5121) = (I_4 4609) ∧ (I_4 5249) = (I_4 4609) ∧ (I_4 5377) = (I_4 4609) ∧ (I_4 3393) = (I_4 3905) ∧ (I_4 3521) = (I_4 3905) ∧ (I_4 3649) = (I_4 3905) ∧ (I_4 3777) = (I_4 3905) ∧ (I_4 4161) = (I_4 4033)) ∧ (0 ≤ (I_4 4609) ∧ 0 ≤ (I_4 4481) ∧ 0 ≤ (I_4 5505) ∧ 0 ≤ (I_4 5633) ∧ 0 ≤ (I_4 5761) ∧ 0 ≤ (I_4 5889) ∧ 0 ≤ (I_4 6017) ∧ 0 ≤ (I_4 3905) ∧ 0 ≤ (I_4 4033))) ∧ ((I_4 3905) = (I 3905) ∧ (I_4 4033) = (I 4033) ∧ (I_4 4609) = (I 4609) ∧ (I_4 4481) = (I 4481) ∧ (I_4 5505) = (I 5505) ∧ (I_4 5633) = (I 5633) ∧ (I_4 5761) = (I 5761) ∧ (I_4 5889) = (I 5889) ∧ (I_4 6017) = (I 6017)) ∧ fm + 2 ≤ y4_2 ∧ 2 ∣ (y4_2 - fm) → m_BI I_4 A_4 → (∀ i, 0 ≤ i → i < fm → (A_4 92) i = (A 92) i) → (A_4 94) = (A 94) → (if y4_2 < (I 5889) then (I 5889) - y4_2 else 0) < (fu4 : Int) → w_W (z_P L xs) (d + 1) 286 (4, [(0, .ref 43), (1, .int (Int32.ofInt (fm))), (2, .int (Int32.ofInt (y4_2)))], [], M_4) (m_sortPairs_Q fr X u l I A B C M fm) := by
    intro fu4
    induction fu4 with
    | zero =>
      intro y4_2 I_4 A_4 B_4 C_4 M_4 hR_4 ⟨ra_y4_2, rb_y4_2⟩ hi4_0 hi4_1 hi4_2 hi4_3 hi4_4 hn4
      exfalso
      omega
    | succ fu4 ih4 =>
      intro y4_2 I_4 A_4 B_4 C_4 M_4 hR_4 ⟨ra_y4_2, rb_y4_2⟩ hi4_0 hi4_1 hi4_2 hi4_3 hi4_4 hn4
      obtain ⟨⟨⟨n1, n2, n3, n4, n5, n6, n7, n8, n9, n10, n11⟩, ⟨n12, n13, n14, n15, n16, n17, n18, n19, n20⟩⟩, ⟨n21, n22, n23, n24, n25, n26, n27, n28, n29⟩, n30, n31⟩ := hi4_1
      refine w_adv (n := 2) (F' := (6, [(0, .ref 43), (1, .int (Int32.ofInt (fm))), (2, .int (Int32.ofInt (y4_2)))], [.ref 43, .int (Int32.ofInt (y4_2))], M_4)) rfl ?_
      refine w_gf (v := .ref 92) hR_4 rfl rfl rfl rfl ?_
      refine w_gf (v := .int (Int32.ofInt ((I_4 5889)))) hR_4 rfl rfl rfl rfl ?_
      obtain ⟨r32, r33⟩ : -2147483648 ≤ (I_4 5889) ∧ (I_4 5889) ≤ 2147483647 := hR_4.ri 5889
      obtain ⟨r34a, r34b, r34c⟩ : 0 ≤ (I_4 5889) ∧ (I_4 5889) ≤ (C_4 92 : Int) ∧ (C_4 92 : Int) ≤ 131072 := hR_4.sz (show 92 ∈ w_TM.2.2 by decide)
      refine w_br2 (a := y4_2) (b := (I_4 5889)) rfl rfl ⟨by omega, by omega⟩ ⟨by omega, by omega⟩ (fun h35 => ?_) (fun h35 => ?_)
      · have h35 : y4_2 ≥ (I_4 5889) := h35
        show w_W _ _ _ (145, [(0, .ref 43), (1, .int (Int32.ofInt (fm))), (2, .int (Int32.ofInt (y4_2)))], [], M_4) _
        refine w_fin (r := .inl none) (M' := M_4) rfl ?_
        exact ⟨I_4, A_4, B_4, C_4, rfl, hR_4, (show m_gx I A I_4 A_4 by exact hi4_0), (show (((I_4 4737) = (I_4 4609) ∧ (I_4 4865) = (I_4 4609) ∧ (I_4 4993) = (I_4 4609) ∧ (I_4 5121) = (I_4 4609) ∧ (I_4 5249) = (I_4 4609) ∧ (I_4 5377) = (I_4 4609) ∧ (I_4 3393) = (I_4 3905) ∧ (I_4 3521) = (I_4 3905) ∧ (I_4 3649) = (I_4 3905) ∧ (I_4 3777) = (I_4 3905) ∧ (I_4 4161) = (I_4 4033)) ∧ (0 ≤ (I_4 4609) ∧ 0 ≤ (I_4 4481) ∧ 0 ≤ (I_4 5505) ∧ 0 ≤ (I_4 5633) ∧ 0 ≤ (I_4 5761) ∧ 0 ≤ (I_4 5889) ∧ 0 ≤ (I_4 6017) ∧ 0 ≤ (I_4 3905) ∧ 0 ≤ (I_4 4033))) ∧ ((I_4 3905) = (I 3905) ∧ (I_4 4033) = (I 4033) ∧ (I_4 4609) = (I 4609) ∧ (I_4 4481) = (I 4481) ∧ (I_4 5505) = (I 5505) ∧ (I_4 5633) = (I 5633) ∧ (I_4 5761) = (I 5761) ∧ (I_4 5889) = (I 5889) ∧ (I_4 6017) = (I 6017)) by (repeat' apply And.intro) <;> first | assumption | omega), (show m_BI I_4 A_4 by exact hi4_2), (show ∀ i, 0 ≤ i → i < fm → (A_4 92) i = (A 92) i by exact hi4_3), (show (A_4 94) = (A 94) by exact hi4_4)⟩
      · have h35 : ¬ (y4_2 ≥ (I_4 5889)) := h35
        show w_W _ _ _ (15, [(0, .ref 43), (1, .int (Int32.ofInt (fm))), (2, .int (Int32.ofInt (y4_2)))], [], M_4) _
        refine w_adv (n := 1) (F' := (16, [(0, .ref 43), (1, .int (Int32.ofInt (fm))), (2, .int (Int32.ofInt (y4_2)))], [.ref 43], M_4)) rfl ?_
        refine w_gf (v := .ref 92) hR_4 rfl rfl rfl rfl ?_
        refine w_adv (n := 1) (F' := (20, [(0, .ref 43), (1, .int (Int32.ofInt (fm))), (2, .int (Int32.ofInt (y4_2)))], [.int (Int32.ofInt (y4_2)), .ref 92], M_4)) rfl ?_
        refine w_call (cm := 238) (as := [(0, .ref 92), (1, .int (Int32.ofInt (y4_2)))]) (rest := []) (o := some (10, 92)) rfl (w_fitR hR_4 rfl) (m_get (y4_2) 92 (by decide) rfl hR_4 ⟨by omega, by omega⟩ (show 0 ≤ y4_2 by first | assumption | omega) (show y4_2 < (C_4 92 : Int) by first | assumption | omega)) (fun r36 M37 q38 => ?_)
        rcases q38 with ⟨e39, e40⟩
        rw [e39, e40]
        obtain ⟨r41, r42⟩ : -2147483648 ≤ (A_4 92) (y4_2) ∧ (A_4 92) (y4_2) ≤ 2147483647 := hR_4.ra 92 (y4_2)
        show w_W _ _ _ (23, [(0, .ref 43), (1, .int (Int32.ofInt (fm))), (2, .int (Int32.ofInt (y4_2)))], [.int (Int32.ofInt ((A_4 92) (y4_2)))], M_4) _
        refine w_adv (n := 2) (F' := (25, [(3, .int (Int32.ofInt ((A_4 92) (y4_2)))), (0, .ref 43), (1, .int (Int32.ofInt (fm))), (2, .int (Int32.ofInt (y4_2)))], [.ref 43], M_4)) rfl ?_
        refine w_gf (v := .ref 92) hR_4 rfl rfl rfl rfl ?_
        refine w_adv (n := 2) (F' := (30, [(3, .int (Int32.ofInt ((A_4 92) (y4_2)))), (0, .ref 43), (1, .int (Int32.ofInt (fm))), (2, .int (Int32.ofInt (y4_2)))], [.int (Int32.ofInt (1)), .int (Int32.ofInt (y4_2)), .ref 92], M_4)) rfl ?_
        refine w_add rfl ?_
        refine w_call (cm := 238) (as := [(0, .ref 92), (1, .int (Int32.ofInt (y4_2 + 1)))]) (rest := []) (o := some (10, 92)) rfl (w_fitR hR_4 rfl) (m_get (y4_2 + 1) 92 (by decide) rfl hR_4 ⟨by omega, by omega⟩ (show 0 ≤ y4_2 + 1 by first | assumption | omega) (show y4_2 + 1 < (C_4 92 : Int) by first | assumption | omega)) (fun r43 M44 q45 => ?_)
        rcases q45 with ⟨e46, e47⟩
        rw [e46, e47]
        obtain ⟨r48, r49⟩ : -2147483648 ≤ (A_4 92) (y4_2 + 1) ∧ (A_4 92) (y4_2 + 1) ≤ 2147483647 := hR_4.ra 92 (y4_2 + 1)
        show w_W _ _ _ (34, [(3, .int (Int32.ofInt ((A_4 92) (y4_2)))), (0, .ref 43), (1, .int (Int32.ofInt (fm))), (2, .int (Int32.ofInt (y4_2)))], [.int (Int32.ofInt ((A_4 92) (y4_2 + 1)))], M_4) _
        refine w_adv (n := 3) (F' := (39, [(5, .int (Int32.ofInt (y4_2))), (4, .int (Int32.ofInt ((A_4 92) (y4_2 + 1)))), (3, .int (Int32.ofInt ((A_4 92) (y4_2)))), (0, .ref 43), (1, .int (Int32.ofInt (fm))), (2, .int (Int32.ofInt (y4_2)))], [], M_4)) rfl ?_
        have lp39 : ∀ fu39 : Nat, ∀ (y39_5 : Int) (I_39 : Nat → Int) (A_39 : Nat → Int → Int) (B_39 C_39 : Nat → Nat) (M_39 : w_M) (hR_39 : w_Rep w_TM fr X u l I_39 A_39 B_39 C_39 M_39), w_in y39_5 → m_gx I A I_39 A_39 → (((I_39 4737) = (I_39 4609) ∧ (I_39 4865) = (I_39 4609) ∧ (I_39 4993) = (I_39 4609) ∧ (I_39 5121) = (I_39 4609) ∧ (I_39 5249) = (I_39 4609) ∧ (I_39 5377) = (I_39 4609) ∧ (I_39 3393) = (I_39 3905) ∧ (I_39 3521) = (I_39 3905) ∧ (I_39 3649) = (I_39 3905) ∧ (I_39 3777) = (I_39 3905) ∧ (I_39 4161) = (I_39 4033)) ∧ (0 ≤ (I_39 4609) ∧ 0 ≤ (I_39 4481) ∧ 0 ≤ (I_39 5505) ∧ 0 ≤ (I_39 5633) ∧ 0 ≤ (I_39 5761) ∧ 0 ≤ (I_39 5889) ∧ 0 ≤ (I_39 6017) ∧ 0 ≤ (I_39 3905) ∧ 0 ≤ (I_39 4033))) ∧ ((I_39 3905) = (I 3905) ∧ (I_39 4033) = (I 4033) ∧ (I_39 4609) = (I 4609) ∧ (I_39 4481) = (I 4481) ∧ (I_39 5505) = (I 5505) ∧ (I_39 5633) = (I 5633) ∧ (I_39 5761) = (I 5761) ∧ (I_39 5889) = (I 5889) ∧ (I_39 6017) = (I 6017)) ∧ fm ≤ y39_5 ∧ y39_5 ≤ y4_2 ∧ 2 ∣ (y39_5 - fm) → m_BI I_39 A_39 → (∀ i, 0 ≤ i → i < fm → (A_39 92) i = (A 92) i) → (A_39 94) = (A 94) → y39_5 - fm < (fu39 : Int) → w_W (z_P L xs) (d + 1) 286 (39, [(0, .ref 43), (1, .int (Int32.ofInt (fm))), (2, .int (Int32.ofInt (y4_2))), (3, .int (Int32.ofInt ((A_4 92) (y4_2)))), (4, .int (Int32.ofInt ((A_4 92) (y4_2 + 1)))), (5, .int (Int32.ofInt (y39_5)))], [], M_39) (m_sortPairs_Q fr X u l I A B C M fm) := by
          intro fu39
          induction fu39 with
          | zero =>
            intro y39_5 I_39 A_39 B_39 C_39 M_39 hR_39 ⟨ra_y39_5, rb_y39_5⟩ hi39_0 hi39_1 hi39_2 hi39_3 hi39_4 hn39
            exfalso
            omega
          | succ fu39 ih39 =>
            intro y39_5 I_39 A_39 B_39 C_39 M_39 hR_39 ⟨ra_y39_5, rb_y39_5⟩ hi39_0 hi39_1 hi39_2 hi39_3 hi39_4 hn39
            obtain ⟨⟨⟨n50, n51, n52, n53, n54, n55, n56, n57, n58, n59, n60⟩, ⟨n61, n62, n63, n64, n65, n66, n67, n68, n69⟩⟩, ⟨n70, n71, n72, n73, n74, n75, n76, n77, n78⟩, n79, n80, n81⟩ := hi39_1
            refine w_adv (n := 2) (F' := (42, [(0, .ref 43), (1, .int (Int32.ofInt (fm))), (2, .int (Int32.ofInt (y4_2))), (3, .int (Int32.ofInt ((A_4 92) (y4_2)))), (4, .int (Int32.ofInt ((A_4 92) (y4_2 + 1)))), (5, .int (Int32.ofInt (y39_5)))], [.int (Int32.ofInt (fm)), .int (Int32.ofInt (y39_5))], M_39)) rfl ?_
            refine w_br2 (a := y39_5) (b := fm) rfl rfl ⟨by omega, by omega⟩ ⟨by omega, by omega⟩ (fun h82 => ?_) (fun h82 => ?_)
            · have h82 : y39_5 ≤ fm := h82
              show w_W _ _ _ (114, [(0, .ref 43), (1, .int (Int32.ofInt (fm))), (2, .int (Int32.ofInt (y4_2))), (3, .int (Int32.ofInt ((A_4 92) (y4_2)))), (4, .int (Int32.ofInt ((A_4 92) (y4_2 + 1)))), (5, .int (Int32.ofInt (y39_5)))], [], M_39) _
              refine w_adv (n := 1) (F' := (115, [(0, .ref 43), (1, .int (Int32.ofInt (fm))), (2, .int (Int32.ofInt (y4_2))), (3, .int (Int32.ofInt ((A_4 92) (y4_2)))), (4, .int (Int32.ofInt ((A_4 92) (y4_2 + 1)))), (5, .int (Int32.ofInt (y39_5)))], [.ref 43], M_39)) rfl ?_
              refine w_gf (v := .ref 92) hR_39 rfl rfl rfl rfl ?_
              refine w_gf (v := .ref (B_39 92)) hR_39 rfl rfl rfl rfl ?_
              refine w_adv (n := 2) (F' := (124, [(0, .ref 43), (1, .int (Int32.ofInt (fm))), (2, .int (Int32.ofInt (y4_2))), (3, .int (Int32.ofInt ((A_4 92) (y4_2)))), (4, .int (Int32.ofInt ((A_4 92) (y4_2 + 1)))), (5, .int (Int32.ofInt (y39_5)))], [.int (Int32.ofInt ((A_4 92) (y4_2))), .int (Int32.ofInt (y39_5)), .ref (B_39 92)], M_39)) rfl ?_
              obtain ⟨r85a, r85b, r85c⟩ : 0 ≤ (I_39 5889) ∧ (I_39 5889) ≤ (C_39 92 : Int) ∧ (C_39 92 : Int) ≤ 131072 := hR_39.sz (show 92 ∈ w_TM.2.2 by decide)
              refine w_sr hR_39 rfl (by decide) (show 0 ≤ y39_5 by omega) (show y39_5 < (C_39 92 : Int) by omega) (show w_in ((A_4 92) (y4_2)) from ⟨by omega, by omega⟩) (fun M83 hR84 => ?_)
              replace hR84 : w_Rep w_TM fr X u l I_39 (w_upF A_39 92 (w_upA (A_39 92) (y39_5) ((A_4 92) (y4_2)))) B_39 C_39 M83 := hR84
              have lc86 : (∀ i, 0 ≤ i → i < fm → (w_upA (A_39 92) (y39_5) ((A_4 92) (y4_2))) i = (A 92) i) := fun i q0 q1 => by show (w_upA (A_39 92) (y39_5) ((A_4 92) (y4_2))) i = _; unfold w_upA; rw [if_neg (show ¬ i = y39_5 by omega)]; exact hi39_3 i q0 q1
              refine w_adv (n := 1) (F' := (126, [(0, .ref 43), (1, .int (Int32.ofInt (fm))), (2, .int (Int32.ofInt (y4_2))), (3, .int (Int32.ofInt ((A_4 92) (y4_2)))), (4, .int (Int32.ofInt ((A_4 92) (y4_2 + 1)))), (5, .int (Int32.ofInt (y39_5)))], [.ref 43], M83)) rfl ?_
              refine w_gf (v := .ref 92) hR84 rfl rfl rfl rfl ?_
              refine w_gf (v := .ref (B_39 92)) hR84 rfl rfl rfl rfl ?_
              refine w_adv (n := 2) (F' := (135, [(0, .ref 43), (1, .int (Int32.ofInt (fm))), (2, .int (Int32.ofInt (y4_2))), (3, .int (Int32.ofInt ((A_4 92) (y4_2)))), (4, .int (Int32.ofInt ((A_4 92) (y4_2 + 1)))), (5, .int (Int32.ofInt (y39_5)))], [.int (Int32.ofInt (1)), .int (Int32.ofInt (y39_5)), .ref (B_39 92)], M83)) rfl ?_
              refine w_add rfl ?_
              refine w_adv (n := 1) (F' := (138, [(0, .ref 43), (1, .int (Int32.ofInt (fm))), (2, .int (Int32.ofInt (y4_2))), (3, .int (Int32.ofInt ((A_4 92) (y4_2)))), (4, .int (Int32.ofInt ((A_4 92) (y4_2 + 1)))), (5, .int (Int32.ofInt (y39_5)))], [.int (Int32.ofInt ((A_4 92) (y4_2 + 1))), .int (Int32.ofInt (y39_5 + 1)), .ref (B_39 92)], M83)) rfl ?_
              refine w_sr hR84 rfl (by decide) (show 0 ≤ y39_5 + 1 by omega) (show y39_5 + 1 < (C_39 92 : Int) by omega) (show w_in ((A_4 92) (y4_2 + 1)) from ⟨by omega, by omega⟩) (fun M87 hR88 => ?_)
              replace hR88 : w_Rep w_TM fr X u l I_39 (w_upF (w_upF A_39 92 (w_upA (A_39 92) (y39_5) ((A_4 92) (y4_2)))) 92 (w_upA (w_upA (A_39 92) (y39_5) ((A_4 92) (y4_2))) (y39_5 + 1) ((A_4 92) (y4_2 + 1)))) B_39 C_39 M87 := hR88
              have lc89 : (∀ i, 0 ≤ i → i < fm → (w_upA (w_upA (A_39 92) (y39_5) ((A_4 92) (y4_2))) (y39_5 + 1) ((A_4 92) (y4_2 + 1))) i = (A 92) i) := fun i q0 q1 => by show (w_upA (w_upA (A_39 92) (y39_5) ((A_4 92) (y4_2))) (y39_5 + 1) ((A_4 92) (y4_2 + 1))) i = _; unfold w_upA; rw [if_neg (show ¬ i = y39_5 + 1 by omega)]; exact lc86 i q0 q1
              refine w_inc (nL := 6) (a := y4_2) rfl rfl rfl (by decide) ?_
              refine w_adv (n := 1) (F' := (4, [(2, .int (Int32.ofInt (y4_2 + 2))), (0, .ref 43), (1, .int (Int32.ofInt (fm))), (3, .int (Int32.ofInt ((A_4 92) (y4_2)))), (4, .int (Int32.ofInt ((A_4 92) (y4_2 + 1)))), (5, .int (Int32.ofInt (y39_5)))], [], M87)) rfl ?_
              refine w_ls (ls := [(0, .ref 43), (1, .int (Int32.ofInt (fm))), (2, .int (Int32.ofInt (y4_2 + 2)))]) (show List.Nodup [0, 1, 2] by decide) (show List.Nodup [2, 0, 1, 3, 4, 5] by decide) (List.forall_mem_cons.mpr ⟨(List.Mem.tail _ (List.Mem.head _)), (List.forall_mem_cons.mpr ⟨(List.Mem.tail _ (List.Mem.tail _ (List.Mem.head _))), (List.forall_mem_cons.mpr ⟨(List.Mem.head _), (fun _ h => by cases h)⟩)⟩)⟩) ?_
              exact ih4  (y4_2 + 2) I_39 (w_upF (w_upF A_39 92 (w_upA (A_39 92) (y39_5) ((A_4 92) (y4_2)))) 92 (w_upA (w_upA (A_39 92) (y39_5) ((A_4 92) (y4_2))) (y39_5 + 1) ((A_4 92) (y4_2 + 1)))) B_39 C_39 M87 hR88 ⟨by omega, by omega⟩ (show m_gx I A I_39 (w_upF (w_upF A_39 92 (w_upA (A_39 92) (y39_5) ((A_4 92) (y4_2)))) 92 (w_upA (w_upA (A_39 92) (y39_5) ((A_4 92) (y4_2))) (y39_5 + 1) ((A_4 92) (y4_2 + 1)))) by exact (show m_gx I A I_39 (w_upF (w_upF A_39 92 (w_upA (A_39 92) (y39_5) ((A_4 92) (y4_2)))) 92 (w_upA (w_upA (A_39 92) (y39_5) ((A_4 92) (y4_2))) (y39_5 + 1) ((A_4 92) (y4_2 + 1)))) from (show m_gx I A I_39 (w_upF A_39 92 (w_upA (A_39 92) (y39_5) ((A_4 92) (y4_2)))) from hi39_0))) (show (((I_39 4737) = (I_39 4609) ∧ (I_39 4865) = (I_39 4609) ∧ (I_39 4993) = (I_39 4609) ∧ (I_39 5121) = (I_39 4609) ∧ (I_39 5249) = (I_39 4609) ∧ (I_39 5377) = (I_39 4609) ∧ (I_39 3393) = (I_39 3905) ∧ (I_39 3521) = (I_39 3905) ∧ (I_39 3649) = (I_39 3905) ∧ (I_39 3777) = (I_39 3905) ∧ (I_39 4161) = (I_39 4033)) ∧ (0 ≤ (I_39 4609) ∧ 0 ≤ (I_39 4481) ∧ 0 ≤ (I_39 5505) ∧ 0 ≤ (I_39 5633) ∧ 0 ≤ (I_39 5761) ∧ 0 ≤ (I_39 5889) ∧ 0 ≤ (I_39 6017) ∧ 0 ≤ (I_39 3905) ∧ 0 ≤ (I_39 4033))) ∧ ((I_39 3905) = (I 3905) ∧ (I_39 4033) = (I 4033) ∧ (I_39 4609) = (I 4609) ∧ (I_39 4481) = (I 4481) ∧ (I_39 5505) = (I 5505) ∧ (I_39 5633) = (I 5633) ∧ (I_39 5761) = (I 5761) ∧ (I_39 5889) = (I 5889) ∧ (I_39 6017) = (I 6017)) ∧ fm + 2 ≤ (y4_2 + 2) ∧ 2 ∣ ((y4_2 + 2) - fm) by (repeat' apply And.intro) <;> first | assumption | omega) (show m_BI I_39 (w_upF (w_upF A_39 92 (w_upA (A_39 92) (y39_5) ((A_4 92) (y4_2)))) 92 (w_upA (w_upA (A_39 92) (y39_5) ((A_4 92) (y4_2))) (y39_5 + 1) ((A_4 92) (y4_2 + 1)))) by exact (show m_BI I_39 (w_upF (w_upF A_39 92 (w_upA (A_39 92) (y39_5) ((A_4 92) (y4_2)))) 92 (w_upA (w_upA (A_39 92) (y39_5) ((A_4 92) (y4_2))) (y39_5 + 1) ((A_4 92) (y4_2 + 1)))) from (show m_BI I_39 (w_upF A_39 92 (w_upA (A_39 92) (y39_5) ((A_4 92) (y4_2)))) from hi39_2))) (show (∀ i, 0 ≤ i → i < fm → (w_upA (w_upA (A_39 92) (y39_5) ((A_4 92) (y4_2))) (y39_5 + 1) ((A_4 92) (y4_2 + 1))) i = (A 92) i) by exact lc89) (show (A_39 94) = (A 94) by exact (show (A_39 94) = (A 94) from (show (A_39 94) = (A 94) from hi39_4))) (show (if (y4_2 + 2) < (I 5889) then (I 5889) - (y4_2 + 2) else 0) < (fu4 : Int) by omega)
            · have h82 : ¬ (y39_5 ≤ fm) := h82
              show w_W _ _ _ (45, [(0, .ref 43), (1, .int (Int32.ofInt (fm))), (2, .int (Int32.ofInt (y4_2))), (3, .int (Int32.ofInt ((A_4 92) (y4_2)))), (4, .int (Int32.ofInt ((A_4 92) (y4_2 + 1)))), (5, .int (Int32.ofInt (y39_5)))], [], M_39) _
              refine w_adv (n := 3) (F' := (48, [(0, .ref 43), (1, .int (Int32.ofInt (fm))), (2, .int (Int32.ofInt (y4_2))), (3, .int (Int32.ofInt ((A_4 92) (y4_2)))), (4, .int (Int32.ofInt ((A_4 92) (y4_2 + 1)))), (5, .int (Int32.ofInt (y39_5)))], [.ref 43, .int (Int32.ofInt ((A_4 92) (y4_2))), .ref 43], M_39)) rfl ?_
              refine w_gf (v := .ref 92) hR_39 rfl rfl rfl rfl ?_
              refine w_adv (n := 2) (F' := (54, [(0, .ref 43), (1, .int (Int32.ofInt (fm))), (2, .int (Int32.ofInt (y4_2))), (3, .int (Int32.ofInt ((A_4 92) (y4_2)))), (4, .int (Int32.ofInt ((A_4 92) (y4_2 + 1)))), (5, .int (Int32.ofInt (y39_5)))], [.int (Int32.ofInt (2)), .int (Int32.ofInt (y39_5)), .ref 92, .int (Int32.ofInt ((A_4 92) (y4_2))), .ref 43], M_39)) rfl ?_
              refine w_sub rfl ?_
              obtain ⟨r90a, r90b, r90c⟩ : 0 ≤ (I_39 5889) ∧ (I_39 5889) ≤ (C_39 92 : Int) ∧ (C_39 92 : Int) ≤ 131072 := hR_39.sz (show 92 ∈ w_TM.2.2 by decide)
              refine w_call (cm := 238) (as := [(0, .ref 92), (1, .int (Int32.ofInt (y39_5 - 2)))]) (rest := [.int (Int32.ofInt ((A_4 92) (y4_2))), .ref 43]) (o := some (10, 92)) rfl (w_fitR hR_39 rfl) (m_get (y39_5 - 2) 92 (by decide) rfl hR_39 ⟨by omega, by omega⟩ (show 0 ≤ y39_5 - 2 by first | assumption | omega) (show y39_5 - 2 < (C_39 92 : Int) by first | assumption | omega)) (fun r91 M92 q93 => ?_)
              rcases q93 with ⟨e94, e95⟩
              rw [e94, e95]
              obtain ⟨r96, r97⟩ : -2147483648 ≤ (A_39 92) (y39_5 - 2) ∧ (A_39 92) (y39_5 - 2) ≤ 2147483647 := hR_39.ra 92 (y39_5 - 2)
              show w_W _ _ _ (58, [(0, .ref 43), (1, .int (Int32.ofInt (fm))), (2, .int (Int32.ofInt (y4_2))), (3, .int (Int32.ofInt ((A_4 92) (y4_2)))), (4, .int (Int32.ofInt ((A_4 92) (y4_2 + 1)))), (5, .int (Int32.ofInt (y39_5)))], [.int (Int32.ofInt ((A_39 92) (y39_5 - 2))), .int (Int32.ofInt ((A_4 92) (y4_2))), .ref 43], M_39) _
              refine w_call (cm := 287) (as := [(0, .ref 43), (1, .int (Int32.ofInt ((A_4 92) (y4_2)))), (2, .int (Int32.ofInt ((A_39 92) (y39_5 - 2))))]) (rest := []) (o := some (9, 43)) rfl (w_fitR hR_39 rfl) (m_isBefore ((A_4 92) (y4_2)) ((A_39 92) (y39_5 - 2)) hR_39 (show 1 ≤ d by omega) ⟨by omega, by omega⟩ ⟨by omega, by omega⟩ (show m_NA I_39 A_39 by exact m_NA_gx (show m_gx I A I_39 A_39 from hi39_0) hNA)) (fun r98 M99 q100 => ?_)
              rcases q100 with ⟨v101, e102, ⟨r103, r104⟩, e105, f106⟩
              rw [e102, e105]
              replace f106 : v101 = 0 ∨ v101 = 1 := f106
              show w_W _ _ _ (61, [(0, .ref 43), (1, .int (Int32.ofInt (fm))), (2, .int (Int32.ofInt (y4_2))), (3, .int (Int32.ofInt ((A_4 92) (y4_2)))), (4, .int (Int32.ofInt ((A_4 92) (y4_2 + 1)))), (5, .int (Int32.ofInt (y39_5)))], [.int (Int32.ofInt (v101))], M_39) _
              refine w_br1 (a := v101) rfl rfl ⟨by omega, by omega⟩ (fun h107 => ?_) (fun h107 => ?_)
              · have h107 : v101 = 0 := h107
                show w_W _ _ _ (114, [(0, .ref 43), (1, .int (Int32.ofInt (fm))), (2, .int (Int32.ofInt (y4_2))), (3, .int (Int32.ofInt ((A_4 92) (y4_2)))), (4, .int (Int32.ofInt ((A_4 92) (y4_2 + 1)))), (5, .int (Int32.ofInt (y39_5)))], [], M_39) _
                refine w_adv (n := 1) (F' := (115, [(0, .ref 43), (1, .int (Int32.ofInt (fm))), (2, .int (Int32.ofInt (y4_2))), (3, .int (Int32.ofInt ((A_4 92) (y4_2)))), (4, .int (Int32.ofInt ((A_4 92) (y4_2 + 1)))), (5, .int (Int32.ofInt (y39_5)))], [.ref 43], M_39)) rfl ?_
                refine w_gf (v := .ref 92) hR_39 rfl rfl rfl rfl ?_
                refine w_gf (v := .ref (B_39 92)) hR_39 rfl rfl rfl rfl ?_
                refine w_adv (n := 2) (F' := (124, [(0, .ref 43), (1, .int (Int32.ofInt (fm))), (2, .int (Int32.ofInt (y4_2))), (3, .int (Int32.ofInt ((A_4 92) (y4_2)))), (4, .int (Int32.ofInt ((A_4 92) (y4_2 + 1)))), (5, .int (Int32.ofInt (y39_5)))], [.int (Int32.ofInt ((A_4 92) (y4_2))), .int (Int32.ofInt (y39_5)), .ref (B_39 92)], M_39)) rfl ?_
                refine w_sr hR_39 rfl (by decide) (show 0 ≤ y39_5 by omega) (show y39_5 < (C_39 92 : Int) by omega) (show w_in ((A_4 92) (y4_2)) from ⟨by omega, by omega⟩) (fun M108 hR109 => ?_)
                replace hR109 : w_Rep w_TM fr X u l I_39 (w_upF A_39 92 (w_upA (A_39 92) (y39_5) ((A_4 92) (y4_2)))) B_39 C_39 M108 := hR109
                have lc110 : (∀ i, 0 ≤ i → i < fm → (w_upA (A_39 92) (y39_5) ((A_4 92) (y4_2))) i = (A 92) i) := fun i q0 q1 => by show (w_upA (A_39 92) (y39_5) ((A_4 92) (y4_2))) i = _; unfold w_upA; rw [if_neg (show ¬ i = y39_5 by omega)]; exact hi39_3 i q0 q1
                refine w_adv (n := 1) (F' := (126, [(0, .ref 43), (1, .int (Int32.ofInt (fm))), (2, .int (Int32.ofInt (y4_2))), (3, .int (Int32.ofInt ((A_4 92) (y4_2)))), (4, .int (Int32.ofInt ((A_4 92) (y4_2 + 1)))), (5, .int (Int32.ofInt (y39_5)))], [.ref 43], M108)) rfl ?_
                refine w_gf (v := .ref 92) hR109 rfl rfl rfl rfl ?_
                refine w_gf (v := .ref (B_39 92)) hR109 rfl rfl rfl rfl ?_
                refine w_adv (n := 2) (F' := (135, [(0, .ref 43), (1, .int (Int32.ofInt (fm))), (2, .int (Int32.ofInt (y4_2))), (3, .int (Int32.ofInt ((A_4 92) (y4_2)))), (4, .int (Int32.ofInt ((A_4 92) (y4_2 + 1)))), (5, .int (Int32.ofInt (y39_5)))], [.int (Int32.ofInt (1)), .int (Int32.ofInt (y39_5)), .ref (B_39 92)], M108)) rfl ?_
                refine w_add rfl ?_
                refine w_adv (n := 1) (F' := (138, [(0, .ref 43), (1, .int (Int32.ofInt (fm))), (2, .int (Int32.ofInt (y4_2))), (3, .int (Int32.ofInt ((A_4 92) (y4_2)))), (4, .int (Int32.ofInt ((A_4 92) (y4_2 + 1)))), (5, .int (Int32.ofInt (y39_5)))], [.int (Int32.ofInt ((A_4 92) (y4_2 + 1))), .int (Int32.ofInt (y39_5 + 1)), .ref (B_39 92)], M108)) rfl ?_
                refine w_sr hR109 rfl (by decide) (show 0 ≤ y39_5 + 1 by omega) (show y39_5 + 1 < (C_39 92 : Int) by omega) (show w_in ((A_4 92) (y4_2 + 1)) from ⟨by omega, by omega⟩) (fun M111 hR112 => ?_)
                replace hR112 : w_Rep w_TM fr X u l I_39 (w_upF (w_upF A_39 92 (w_upA (A_39 92) (y39_5) ((A_4 92) (y4_2)))) 92 (w_upA (w_upA (A_39 92) (y39_5) ((A_4 92) (y4_2))) (y39_5 + 1) ((A_4 92) (y4_2 + 1)))) B_39 C_39 M111 := hR112
                have lc113 : (∀ i, 0 ≤ i → i < fm → (w_upA (w_upA (A_39 92) (y39_5) ((A_4 92) (y4_2))) (y39_5 + 1) ((A_4 92) (y4_2 + 1))) i = (A 92) i) := fun i q0 q1 => by show (w_upA (w_upA (A_39 92) (y39_5) ((A_4 92) (y4_2))) (y39_5 + 1) ((A_4 92) (y4_2 + 1))) i = _; unfold w_upA; rw [if_neg (show ¬ i = y39_5 + 1 by omega)]; exact lc110 i q0 q1
                refine w_inc (nL := 6) (a := y4_2) rfl rfl rfl (by decide) ?_
                refine w_adv (n := 1) (F' := (4, [(2, .int (Int32.ofInt (y4_2 + 2))), (0, .ref 43), (1, .int (Int32.ofInt (fm))), (3, .int (Int32.ofInt ((A_4 92) (y4_2)))), (4, .int (Int32.ofInt ((A_4 92) (y4_2 + 1)))), (5, .int (Int32.ofInt (y39_5)))], [], M111)) rfl ?_
                refine w_ls (ls := [(0, .ref 43), (1, .int (Int32.ofInt (fm))), (2, .int (Int32.ofInt (y4_2 + 2)))]) (show List.Nodup [0, 1, 2] by decide) (show List.Nodup [2, 0, 1, 3, 4, 5] by decide) (List.forall_mem_cons.mpr ⟨(List.Mem.tail _ (List.Mem.head _)), (List.forall_mem_cons.mpr ⟨(List.Mem.tail _ (List.Mem.tail _ (List.Mem.head _))), (List.forall_mem_cons.mpr ⟨(List.Mem.head _), (fun _ h => by cases h)⟩)⟩)⟩) ?_
                exact ih4  (y4_2 + 2) I_39 (w_upF (w_upF A_39 92 (w_upA (A_39 92) (y39_5) ((A_4 92) (y4_2)))) 92 (w_upA (w_upA (A_39 92) (y39_5) ((A_4 92) (y4_2))) (y39_5 + 1) ((A_4 92) (y4_2 + 1)))) B_39 C_39 M111 hR112 ⟨by omega, by omega⟩ (show m_gx I A I_39 (w_upF (w_upF A_39 92 (w_upA (A_39 92) (y39_5) ((A_4 92) (y4_2)))) 92 (w_upA (w_upA (A_39 92) (y39_5) ((A_4 92) (y4_2))) (y39_5 + 1) ((A_4 92) (y4_2 + 1)))) by exact (show m_gx I A I_39 (w_upF (w_upF A_39 92 (w_upA (A_39 92) (y39_5) ((A_4 92) (y4_2)))) 92 (w_upA (w_upA (A_39 92) (y39_5) ((A_4 92) (y4_2))) (y39_5 + 1) ((A_4 92) (y4_2 + 1)))) from (show m_gx I A I_39 (w_upF A_39 92 (w_upA (A_39 92) (y39_5) ((A_4 92) (y4_2)))) from hi39_0))) (show (((I_39 4737) = (I_39 4609) ∧ (I_39 4865) = (I_39 4609) ∧ (I_39 4993) = (I_39 4609) ∧ (I_39 5121) = (I_39 4609) ∧ (I_39 5249) = (I_39 4609) ∧ (I_39 5377) = (I_39 4609) ∧ (I_39 3393) = (I_39 3905) ∧ (I_39 3521) = (I_39 3905) ∧ (I_39 3649) = (I_39 3905) ∧ (I_39 3777) = (I_39 3905) ∧ (I_39 4161) = (I_39 4033)) ∧ (0 ≤ (I_39 4609) ∧ 0 ≤ (I_39 4481) ∧ 0 ≤ (I_39 5505) ∧ 0 ≤ (I_39 5633) ∧ 0 ≤ (I_39 5761) ∧ 0 ≤ (I_39 5889) ∧ 0 ≤ (I_39 6017) ∧ 0 ≤ (I_39 3905) ∧ 0 ≤ (I_39 4033))) ∧ ((I_39 3905) = (I 3905) ∧ (I_39 4033) = (I 4033) ∧ (I_39 4609) = (I 4609) ∧ (I_39 4481) = (I 4481) ∧ (I_39 5505) = (I 5505) ∧ (I_39 5633) = (I 5633) ∧ (I_39 5761) = (I 5761) ∧ (I_39 5889) = (I 5889) ∧ (I_39 6017) = (I 6017)) ∧ fm + 2 ≤ (y4_2 + 2) ∧ 2 ∣ ((y4_2 + 2) - fm) by (repeat' apply And.intro) <;> first | assumption | omega) (show m_BI I_39 (w_upF (w_upF A_39 92 (w_upA (A_39 92) (y39_5) ((A_4 92) (y4_2)))) 92 (w_upA (w_upA (A_39 92) (y39_5) ((A_4 92) (y4_2))) (y39_5 + 1) ((A_4 92) (y4_2 + 1)))) by exact (show m_BI I_39 (w_upF (w_upF A_39 92 (w_upA (A_39 92) (y39_5) ((A_4 92) (y4_2)))) 92 (w_upA (w_upA (A_39 92) (y39_5) ((A_4 92) (y4_2))) (y39_5 + 1) ((A_4 92) (y4_2 + 1)))) from (show m_BI I_39 (w_upF A_39 92 (w_upA (A_39 92) (y39_5) ((A_4 92) (y4_2)))) from hi39_2))) (show (∀ i, 0 ≤ i → i < fm → (w_upA (w_upA (A_39 92) (y39_5) ((A_4 92) (y4_2))) (y39_5 + 1) ((A_4 92) (y4_2 + 1))) i = (A 92) i) by exact lc113) (show (A_39 94) = (A 94) by exact (show (A_39 94) = (A 94) from (show (A_39 94) = (A 94) from hi39_4))) (show (if (y4_2 + 2) < (I 5889) then (I 5889) - (y4_2 + 2) else 0) < (fu4 : Int) by omega)
              · have h107 : ¬ (v101 = 0) := h107
                show w_W _ _ _ (64, [(0, .ref 43), (1, .int (Int32.ofInt (fm))), (2, .int (Int32.ofInt (y4_2))), (3, .int (Int32.ofInt ((A_4 92) (y4_2)))), (4, .int (Int32.ofInt ((A_4 92) (y4_2 + 1)))), (5, .int (Int32.ofInt (y39_5)))], [], M_39) _
                refine w_adv (n := 1) (F' := (65, [(0, .ref 43), (1, .int (Int32.ofInt (fm))), (2, .int (Int32.ofInt (y4_2))), (3, .int (Int32.ofInt ((A_4 92) (y4_2)))), (4, .int (Int32.ofInt ((A_4 92) (y4_2 + 1)))), (5, .int (Int32.ofInt (y39_5)))], [.ref 43], M_39)) rfl ?_
                refine w_gf (v := .ref 92) hR_39 rfl rfl rfl rfl ?_
                refine w_gf (v := .ref (B_39 92)) hR_39 rfl rfl rfl rfl ?_
                refine w_adv (n := 2) (F' := (74, [(0, .ref 43), (1, .int (Int32.ofInt (fm))), (2, .int (Int32.ofInt (y4_2))), (3, .int (Int32.ofInt ((A_4 92) (y4_2)))), (4, .int (Int32.ofInt ((A_4 92) (y4_2 + 1)))), (5, .int (Int32.ofInt (y39_5)))], [.ref 43, .int (Int32.ofInt (y39_5)), .ref (B_39 92)], M_39)) rfl ?_
                refine w_gf (v := .ref 92) hR_39 rfl rfl rfl rfl ?_
                refine w_adv (n := 2) (F' := (80, [(0, .ref 43), (1, .int (Int32.ofInt (fm))), (2, .int (Int32.ofInt (y4_2))), (3, .int (Int32.ofInt ((A_4 92) (y4_2)))), (4, .int (Int32.ofInt ((A_4 92) (y4_2 + 1)))), (5, .int (Int32.ofInt (y39_5)))], [.int (Int32.ofInt (2)), .int (Int32.ofInt (y39_5)), .ref 92, .int (Int32.ofInt (y39_5)), .ref (B_39 92)], M_39)) rfl ?_
                refine w_sub rfl ?_
                refine w_call (cm := 238) (as := [(0, .ref 92), (1, .int (Int32.ofInt (y39_5 - 2)))]) (rest := [.int (Int32.ofInt (y39_5)), .ref (B_39 92)]) (o := some (10, 92)) rfl (w_fitR hR_39 rfl) (m_get (y39_5 - 2) 92 (by decide) rfl hR_39 ⟨by omega, by omega⟩ (show 0 ≤ y39_5 - 2 by first | assumption | omega) (show y39_5 - 2 < (C_39 92 : Int) by first | assumption | omega)) (fun r114 M115 q116 => ?_)
                rcases q116 with ⟨e117, e118⟩
                rw [e117, e118]
                show w_W _ _ _ (84, [(0, .ref 43), (1, .int (Int32.ofInt (fm))), (2, .int (Int32.ofInt (y4_2))), (3, .int (Int32.ofInt ((A_4 92) (y4_2)))), (4, .int (Int32.ofInt ((A_4 92) (y4_2 + 1)))), (5, .int (Int32.ofInt (y39_5)))], [.int (Int32.ofInt ((A_39 92) (y39_5 - 2))), .int (Int32.ofInt (y39_5)), .ref (B_39 92)], M_39) _
                refine w_sr hR_39 rfl (by decide) (show 0 ≤ y39_5 by omega) (show y39_5 < (C_39 92 : Int) by omega) (show w_in ((A_39 92) (y39_5 - 2)) from ⟨by omega, by omega⟩) (fun M119 hR120 => ?_)
                replace hR120 : w_Rep w_TM fr X u l I_39 (w_upF A_39 92 (w_upA (A_39 92) (y39_5) ((A_39 92) (y39_5 - 2)))) B_39 C_39 M119 := hR120
                have lc121 : (∀ i, 0 ≤ i → i < fm → (w_upA (A_39 92) (y39_5) ((A_39 92) (y39_5 - 2))) i = (A 92) i) := fun i q0 q1 => by show (w_upA (A_39 92) (y39_5) ((A_39 92) (y39_5 - 2))) i = _; unfold w_upA; rw [if_neg (show ¬ i = y39_5 by omega)]; exact hi39_3 i q0 q1
                refine w_adv (n := 1) (F' := (86, [(0, .ref 43), (1, .int (Int32.ofInt (fm))), (2, .int (Int32.ofInt (y4_2))), (3, .int (Int32.ofInt ((A_4 92) (y4_2)))), (4, .int (Int32.ofInt ((A_4 92) (y4_2 + 1)))), (5, .int (Int32.ofInt (y39_5)))], [.ref 43], M119)) rfl ?_
                refine w_gf (v := .ref 92) hR120 rfl rfl rfl rfl ?_
                refine w_gf (v := .ref (B_39 92)) hR120 rfl rfl rfl rfl ?_
                refine w_adv (n := 2) (F' := (95, [(0, .ref 43), (1, .int (Int32.ofInt (fm))), (2, .int (Int32.ofInt (y4_2))), (3, .int (Int32.ofInt ((A_4 92) (y4_2)))), (4, .int (Int32.ofInt ((A_4 92) (y4_2 + 1)))), (5, .int (Int32.ofInt (y39_5)))], [.int (Int32.ofInt (1)), .int (Int32.ofInt (y39_5)), .ref (B_39 92)], M119)) rfl ?_
                refine w_add rfl ?_
                refine w_adv (n := 1) (F' := (97, [(0, .ref 43), (1, .int (Int32.ofInt (fm))), (2, .int (Int32.ofInt (y4_2))), (3, .int (Int32.ofInt ((A_4 92) (y4_2)))), (4, .int (Int32.ofInt ((A_4 92) (y4_2 + 1)))), (5, .int (Int32.ofInt (y39_5)))], [.ref 43, .int (Int32.ofInt (y39_5 + 1)), .ref (B_39 92)], M119)) rfl ?_
                refine w_gf (v := .ref 92) hR120 rfl rfl rfl rfl ?_
                refine w_adv (n := 2) (F' := (103, [(0, .ref 43), (1, .int (Int32.ofInt (fm))), (2, .int (Int32.ofInt (y4_2))), (3, .int (Int32.ofInt ((A_4 92) (y4_2)))), (4, .int (Int32.ofInt ((A_4 92) (y4_2 + 1)))), (5, .int (Int32.ofInt (y39_5)))], [.int (Int32.ofInt (1)), .int (Int32.ofInt (y39_5)), .ref 92, .int (Int32.ofInt (y39_5 + 1)), .ref (B_39 92)], M119)) rfl ?_
                refine w_sub rfl ?_
                refine w_call (cm := 238) (as := [(0, .ref 92), (1, .int (Int32.ofInt (y39_5 - 1)))]) (rest := [.int (Int32.ofInt (y39_5 + 1)), .ref (B_39 92)]) (o := some (10, 92)) rfl (w_fitR hR120 rfl) (m_get (y39_5 - 1) 92 (by decide) rfl hR120 ⟨by omega, by omega⟩ (show 0 ≤ y39_5 - 1 by first | assumption | omega) (show y39_5 - 1 < (C_39 92 : Int) by first | assumption | omega)) (fun r122 M123 q124 => ?_)
                rcases q124 with ⟨e125, e126⟩
                rw [e125, e126]
                obtain ⟨r127, r128⟩ : -2147483648 ≤ (w_upA (A_39 92) (y39_5) ((A_39 92) (y39_5 - 2))) (y39_5 - 1) ∧ (w_upA (A_39 92) (y39_5) ((A_39 92) (y39_5 - 2))) (y39_5 - 1) ≤ 2147483647 := hR120.ra 92 (y39_5 - 1)
                show w_W _ _ _ (107, [(0, .ref 43), (1, .int (Int32.ofInt (fm))), (2, .int (Int32.ofInt (y4_2))), (3, .int (Int32.ofInt ((A_4 92) (y4_2)))), (4, .int (Int32.ofInt ((A_4 92) (y4_2 + 1)))), (5, .int (Int32.ofInt (y39_5)))], [.int (Int32.ofInt ((w_upA (A_39 92) (y39_5) ((A_39 92) (y39_5 - 2))) (y39_5 - 1))), .int (Int32.ofInt (y39_5 + 1)), .ref (B_39 92)], M119) _
                refine w_sr hR120 rfl (by decide) (show 0 ≤ y39_5 + 1 by omega) (show y39_5 + 1 < (C_39 92 : Int) by omega) (show w_in ((w_upA (A_39 92) (y39_5) ((A_39 92) (y39_5 - 2))) (y39_5 - 1)) from ⟨by omega, by omega⟩) (fun M129 hR130 => ?_)
                replace hR130 : w_Rep w_TM fr X u l I_39 (w_upF (w_upF A_39 92 (w_upA (A_39 92) (y39_5) ((A_39 92) (y39_5 - 2)))) 92 (w_upA (w_upA (A_39 92) (y39_5) ((A_39 92) (y39_5 - 2))) (y39_5 + 1) ((w_upA (A_39 92) (y39_5) ((A_39 92) (y39_5 - 2))) (y39_5 - 1)))) B_39 C_39 M129 := hR130
                have lc131 : (∀ i, 0 ≤ i → i < fm → (w_upA (w_upA (A_39 92) (y39_5) ((A_39 92) (y39_5 - 2))) (y39_5 + 1) ((w_upA (A_39 92) (y39_5) ((A_39 92) (y39_5 - 2))) (y39_5 - 1))) i = (A 92) i) := fun i q0 q1 => by show (w_upA (w_upA (A_39 92) (y39_5) ((A_39 92) (y39_5 - 2))) (y39_5 + 1) ((w_upA (A_39 92) (y39_5) ((A_39 92) (y39_5 - 2))) (y39_5 - 1))) i = _; unfold w_upA; rw [if_neg (show ¬ i = y39_5 + 1 by omega)]; exact lc121 i q0 q1
                refine w_inc (nL := 6) (a := y39_5) rfl rfl rfl (by decide) ?_
                refine w_adv (n := 1) (F' := (39, [(5, .int (Int32.ofInt (y39_5 + (-2)))), (0, .ref 43), (1, .int (Int32.ofInt (fm))), (2, .int (Int32.ofInt (y4_2))), (3, .int (Int32.ofInt ((A_4 92) (y4_2)))), (4, .int (Int32.ofInt ((A_4 92) (y4_2 + 1))))], [], M129)) rfl ?_
                refine w_ls (ls := [(0, .ref 43), (1, .int (Int32.ofInt (fm))), (2, .int (Int32.ofInt (y4_2))), (3, .int (Int32.ofInt ((A_4 92) (y4_2)))), (4, .int (Int32.ofInt ((A_4 92) (y4_2 + 1)))), (5, .int (Int32.ofInt (y39_5 + (-2))))]) (show List.Nodup [0, 1, 2, 3, 4, 5] by decide) (show List.Nodup [5, 0, 1, 2, 3, 4] by decide) (List.forall_mem_cons.mpr ⟨(List.Mem.tail _ (List.Mem.head _)), (List.forall_mem_cons.mpr ⟨(List.Mem.tail _ (List.Mem.tail _ (List.Mem.head _))), (List.forall_mem_cons.mpr ⟨(List.Mem.tail _ (List.Mem.tail _ (List.Mem.tail _ (List.Mem.head _)))), (List.forall_mem_cons.mpr ⟨(List.Mem.tail _ (List.Mem.tail _ (List.Mem.tail _ (List.Mem.tail _ (List.Mem.head _))))), (List.forall_mem_cons.mpr ⟨(List.Mem.tail _ (List.Mem.tail _ (List.Mem.tail _ (List.Mem.tail _ (List.Mem.tail _ (List.Mem.head _)))))), (List.forall_mem_cons.mpr ⟨(List.Mem.head _), (fun _ h => by cases h)⟩)⟩)⟩)⟩)⟩)⟩) ?_
                exact ih39  (y39_5 + (-2)) I_39 (w_upF (w_upF A_39 92 (w_upA (A_39 92) (y39_5) ((A_39 92) (y39_5 - 2)))) 92 (w_upA (w_upA (A_39 92) (y39_5) ((A_39 92) (y39_5 - 2))) (y39_5 + 1) ((w_upA (A_39 92) (y39_5) ((A_39 92) (y39_5 - 2))) (y39_5 - 1)))) B_39 C_39 M129 hR130 ⟨by omega, by omega⟩ (show m_gx I A I_39 (w_upF (w_upF A_39 92 (w_upA (A_39 92) (y39_5) ((A_39 92) (y39_5 - 2)))) 92 (w_upA (w_upA (A_39 92) (y39_5) ((A_39 92) (y39_5 - 2))) (y39_5 + 1) ((w_upA (A_39 92) (y39_5) ((A_39 92) (y39_5 - 2))) (y39_5 - 1)))) by exact (show m_gx I A I_39 (w_upF (w_upF A_39 92 (w_upA (A_39 92) (y39_5) ((A_39 92) (y39_5 - 2)))) 92 (w_upA (w_upA (A_39 92) (y39_5) ((A_39 92) (y39_5 - 2))) (y39_5 + 1) ((w_upA (A_39 92) (y39_5) ((A_39 92) (y39_5 - 2))) (y39_5 - 1)))) from (show m_gx I A I_39 (w_upF A_39 92 (w_upA (A_39 92) (y39_5) ((A_39 92) (y39_5 - 2)))) from hi39_0))) (show (((I_39 4737) = (I_39 4609) ∧ (I_39 4865) = (I_39 4609) ∧ (I_39 4993) = (I_39 4609) ∧ (I_39 5121) = (I_39 4609) ∧ (I_39 5249) = (I_39 4609) ∧ (I_39 5377) = (I_39 4609) ∧ (I_39 3393) = (I_39 3905) ∧ (I_39 3521) = (I_39 3905) ∧ (I_39 3649) = (I_39 3905) ∧ (I_39 3777) = (I_39 3905) ∧ (I_39 4161) = (I_39 4033)) ∧ (0 ≤ (I_39 4609) ∧ 0 ≤ (I_39 4481) ∧ 0 ≤ (I_39 5505) ∧ 0 ≤ (I_39 5633) ∧ 0 ≤ (I_39 5761) ∧ 0 ≤ (I_39 5889) ∧ 0 ≤ (I_39 6017) ∧ 0 ≤ (I_39 3905) ∧ 0 ≤ (I_39 4033))) ∧ ((I_39 3905) = (I 3905) ∧ (I_39 4033) = (I 4033) ∧ (I_39 4609) = (I 4609) ∧ (I_39 4481) = (I 4481) ∧ (I_39 5505) = (I 5505) ∧ (I_39 5633) = (I 5633) ∧ (I_39 5761) = (I 5761) ∧ (I_39 5889) = (I 5889) ∧ (I_39 6017) = (I 6017)) ∧ fm ≤ (y39_5 + (-2)) ∧ (y39_5 + (-2)) ≤ y4_2 ∧ 2 ∣ ((y39_5 + (-2)) - fm) by (repeat' apply And.intro) <;> first | assumption | omega) (show m_BI I_39 (w_upF (w_upF A_39 92 (w_upA (A_39 92) (y39_5) ((A_39 92) (y39_5 - 2)))) 92 (w_upA (w_upA (A_39 92) (y39_5) ((A_39 92) (y39_5 - 2))) (y39_5 + 1) ((w_upA (A_39 92) (y39_5) ((A_39 92) (y39_5 - 2))) (y39_5 - 1)))) by exact (show m_BI I_39 (w_upF (w_upF A_39 92 (w_upA (A_39 92) (y39_5) ((A_39 92) (y39_5 - 2)))) 92 (w_upA (w_upA (A_39 92) (y39_5) ((A_39 92) (y39_5 - 2))) (y39_5 + 1) ((w_upA (A_39 92) (y39_5) ((A_39 92) (y39_5 - 2))) (y39_5 - 1)))) from (show m_BI I_39 (w_upF A_39 92 (w_upA (A_39 92) (y39_5) ((A_39 92) (y39_5 - 2)))) from hi39_2))) (show (∀ i, 0 ≤ i → i < fm → (w_upA (w_upA (A_39 92) (y39_5) ((A_39 92) (y39_5 - 2))) (y39_5 + 1) ((w_upA (A_39 92) (y39_5) ((A_39 92) (y39_5 - 2))) (y39_5 - 1))) i = (A 92) i) by exact lc131) (show (A_39 94) = (A 94) by exact (show (A_39 94) = (A 94) from (show (A_39 94) = (A 94) from hi39_4))) (show (y39_5 + (-2)) - fm < (fu39 : Int) by omega)
        refine w_ls (ls := [(0, .ref 43), (1, .int (Int32.ofInt (fm))), (2, .int (Int32.ofInt (y4_2))), (3, .int (Int32.ofInt ((A_4 92) (y4_2)))), (4, .int (Int32.ofInt ((A_4 92) (y4_2 + 1)))), (5, .int (Int32.ofInt (y4_2)))]) (show List.Nodup [0, 1, 2, 3, 4, 5] by decide) (show List.Nodup [5, 4, 3, 0, 1, 2] by decide) (List.forall_mem_cons.mpr ⟨(List.Mem.tail _ (List.Mem.tail _ (List.Mem.tail _ (List.Mem.head _)))), (List.forall_mem_cons.mpr ⟨(List.Mem.tail _ (List.Mem.tail _ (List.Mem.tail _ (List.Mem.tail _ (List.Mem.head _))))), (List.forall_mem_cons.mpr ⟨(List.Mem.tail _ (List.Mem.tail _ (List.Mem.tail _ (List.Mem.tail _ (List.Mem.tail _ (List.Mem.head _)))))), (List.forall_mem_cons.mpr ⟨(List.Mem.tail _ (List.Mem.tail _ (List.Mem.head _))), (List.forall_mem_cons.mpr ⟨(List.Mem.tail _ (List.Mem.head _)), (List.forall_mem_cons.mpr ⟨(List.Mem.head _), (fun _ h => by cases h)⟩)⟩)⟩)⟩)⟩)⟩) ?_
        exact lp39 ((y4_2 - fm : Int).toNat + 1)  (y4_2) I_4 A_4 B_4 C_4 M_4 hR_4 ⟨by omega, by omega⟩ (show m_gx I A I_4 A_4 by exact hi4_0) (show (((I_4 4737) = (I_4 4609) ∧ (I_4 4865) = (I_4 4609) ∧ (I_4 4993) = (I_4 4609) ∧ (I_4 5121) = (I_4 4609) ∧ (I_4 5249) = (I_4 4609) ∧ (I_4 5377) = (I_4 4609) ∧ (I_4 3393) = (I_4 3905) ∧ (I_4 3521) = (I_4 3905) ∧ (I_4 3649) = (I_4 3905) ∧ (I_4 3777) = (I_4 3905) ∧ (I_4 4161) = (I_4 4033)) ∧ (0 ≤ (I_4 4609) ∧ 0 ≤ (I_4 4481) ∧ 0 ≤ (I_4 5505) ∧ 0 ≤ (I_4 5633) ∧ 0 ≤ (I_4 5761) ∧ 0 ≤ (I_4 5889) ∧ 0 ≤ (I_4 6017) ∧ 0 ≤ (I_4 3905) ∧ 0 ≤ (I_4 4033))) ∧ ((I_4 3905) = (I 3905) ∧ (I_4 4033) = (I 4033) ∧ (I_4 4609) = (I 4609) ∧ (I_4 4481) = (I 4481) ∧ (I_4 5505) = (I 5505) ∧ (I_4 5633) = (I 5633) ∧ (I_4 5761) = (I 5761) ∧ (I_4 5889) = (I 5889) ∧ (I_4 6017) = (I 6017)) ∧ fm ≤ y4_2 ∧ y4_2 ≤ y4_2 ∧ 2 ∣ (y4_2 - fm) by (repeat' apply And.intro) <;> first | assumption | omega) (show m_BI I_4 A_4 by exact hi4_2) (show (∀ i, 0 ≤ i → i < fm → (A_4 92) i = (A 92) i) by exact hi4_3) (show (A_4 94) = (A 94) by exact hi4_4) (show y4_2 - fm < (((y4_2 - fm : Int).toNat + 1 : Nat) : Int) by omega)
  refine w_ls (ls := [(0, .ref 43), (1, .int (Int32.ofInt (fm))), (2, .int (Int32.ofInt (fm + 2)))]) (show List.Nodup [0, 1, 2] by decide) (show List.Nodup [2, 0, 1] by decide) (List.forall_mem_cons.mpr ⟨(List.Mem.tail _ (List.Mem.head _)), (List.forall_mem_cons.mpr ⟨(List.Mem.tail _ (List.Mem.tail _ (List.Mem.head _))), (List.forall_mem_cons.mpr ⟨(List.Mem.head _), (fun _ h => by cases h)⟩)⟩)⟩) ?_
  exact lp4 (((if (fm + 2) < (I 5889) then (I 5889) - (fm + 2) else 0) : Int).toNat + 1)  (fm + 2) I A B C M hR ⟨by omega, by omega⟩ (show m_gx I A I A by exact m_gx_refl) (show (((I 4737) = (I 4609) ∧ (I 4865) = (I 4609) ∧ (I 4993) = (I 4609) ∧ (I 5121) = (I 4609) ∧ (I 5249) = (I 4609) ∧ (I 5377) = (I 4609) ∧ (I 3393) = (I 3905) ∧ (I 3521) = (I 3905) ∧ (I 3649) = (I 3905) ∧ (I 3777) = (I 3905) ∧ (I 4161) = (I 4033)) ∧ (0 ≤ (I 4609) ∧ 0 ≤ (I 4481) ∧ 0 ≤ (I 5505) ∧ 0 ≤ (I 5633) ∧ 0 ≤ (I 5761) ∧ 0 ≤ (I 5889) ∧ 0 ≤ (I 6017) ∧ 0 ≤ (I 3905) ∧ 0 ≤ (I 4033))) ∧ ((I 3905) = (I 3905) ∧ (I 4033) = (I 4033) ∧ (I 4609) = (I 4609) ∧ (I 4481) = (I 4481) ∧ (I 5505) = (I 5505) ∧ (I 5633) = (I 5633) ∧ (I 5761) = (I 5761) ∧ (I 5889) = (I 5889) ∧ (I 6017) = (I 6017)) ∧ fm + 2 ≤ (fm + 2) ∧ 2 ∣ ((fm + 2) - fm) by (repeat' apply And.intro) <;> first | assumption | omega) (show m_BI I A by exact hBI) (show (∀ i, 0 ≤ i → i < fm → (A 92) i = (A 92) i) by exact (fun _ _ _ => rfl)) (show (A 94) = (A 94) by exact rfl) (show (if (fm + 2) < (I 5889) then (I 5889) - (fm + 2) else 0) < ((((if (fm + 2) < (I 5889) then (I 5889) - (fm + 2) else 0) : Int).toNat + 1 : Nat) : Int) by omega)
