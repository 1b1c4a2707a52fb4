/-! the scope's bind, the text's line, Tree.has. -/
def c_Scope_bind_Q (fr : Nat → Bool) (X : Nat → Option (q_C (Nat → Int32))) (u l : Nat) (I : Nat → Int) (A : Nat → Int → Int) (B C : Nat → Nat) (M : w_M) (n : Int) : w_X → w_M → Prop := fun r M' => ((r = .inl (some (-1))) ∧ (M' = M)) ∨ (∃ v : Int, ∃ (I' : Nat → Int) (A' : Nat → Int → Int) (B' C' : Nat → Nat), (r = .inl (some v)) ∧ (w_in v) ∧ (w_Rep w_TC fr X u l I' A' B' C' M') ∧ (0 ≤ (I' 2117)))
set_option maxHeartbeats 100000000 in
set_option maxRecDepth 100000 in
theorem c_Scope_bind {L : Nat} {xs : Nat → Int32} {d : Nat} {fr : Nat → Bool} {X : Nat → Option (q_C (Nat → Int32))} {u l : Nat} {I : Nat → Int} {A : Nat → Int → Int} {B C : Nat → Nat} {M : w_M} (n : Int) (hR : w_Rep w_TC fr X u l I A B C M) (hd : 2 ≤ d) (r_n : w_in n) (hs : 0 ≤ (I 2117)) : w_W (z_P L xs) d 78 (0, [(0, .ref 33), (1, .int (Int32.ofInt (n)))], [], M) (c_Scope_bind_Q fr X u l I A B C M n) := by
  obtain ⟨ra_n, rb_n⟩ := r_n
  obtain ⟨d, rfl⟩ : ∃ d0, d = d0 + 1 := ⟨d - 1, by omega⟩
  refine w_adv (n := 1) (F' := (1, [(0, .ref 33), (1, .int (Int32.ofInt (n)))], [.ref 33], M)) rfl ?_
  refine w_gf (v := .int (Int32.ofInt ((I 2117)))) hR rfl rfl rfl rfl ?_
  obtain ⟨r1, r2⟩ : -2147483648 ≤ (I 2117) ∧ (I 2117) ≤ 2147483647 := hR.ri 2117
  refine w_adv (n := 1) (F' := (7, [(0, .ref 33), (1, .int (Int32.ofInt (n)))], [.int (Int32.ofInt (1508)), .int (Int32.ofInt ((I 2117)))], M)) rfl ?_
  refine w_br2 (a := (I 2117)) (b := 1508) rfl rfl ⟨by omega, by omega⟩ ⟨by omega, by omega⟩ (fun h3 => ?_) (fun h3 => ?_)
  · have h3 : (I 2117) ≥ 1508 := h3
    show w_W _ _ _ (23, [(0, .ref 33), (1, .int (Int32.ofInt (n)))], [], M) _
    refine w_adv (n := 1) (F' := (24, [(0, .ref 33), (1, .int (Int32.ofInt (n)))], [.int (Int32.ofInt ((-1)))], M)) rfl ?_
    refine w_fin (r := .inl (some ((-1)))) (M' := M) rfl ?_
    first
      | exact Or.inl ⟨rfl, rfl⟩
      | exact Or.inr (⟨(-1), I, A, B, C, rfl, ⟨by omega, by omega⟩, hR, (show 0 ≤ (I 2117) by first | assumption | omega)⟩)
  · have h3 : ¬ ((I 2117) ≥ 1508) := h3
    show w_W _ _ _ (10, [(0, .ref 33), (1, .int (Int32.ofInt (n)))], [], M) _
    refine w_adv (n := 1) (F' := (11, [(0, .ref 33), (1, .int (Int32.ofInt (n)))], [.int (Int32.ofInt (n))], M)) rfl ?_
    refine w_br1 (a := n) rfl rfl ⟨by omega, by omega⟩ (fun h4 => ?_) (fun h4 => ?_)
    · have h4 : n < 0 := h4
      show w_W _ _ _ (23, [(0, .ref 33), (1, .int (Int32.ofInt (n)))], [], M) _
      refine w_adv (n := 1) (F' := (24, [(0, .ref 33), (1, .int (Int32.ofInt (n)))], [.int (Int32.ofInt ((-1)))], M)) rfl ?_
      refine w_fin (r := .inl (some ((-1)))) (M' := M) rfl ?_
      first
        | exact Or.inl ⟨rfl, rfl⟩
        | exact Or.inr (⟨(-1), I, A, B, C, rfl, ⟨by omega, by omega⟩, hR, (show 0 ≤ (I 2117) by first | assumption | omega)⟩)
    · have h4 : ¬ (n < 0) := h4
      show w_W _ _ _ (14, [(0, .ref 33), (1, .int (Int32.ofInt (n)))], [], M) _
      refine w_adv (n := 2) (F' := (16, [(0, .ref 33), (1, .int (Int32.ofInt (n)))], [.ref 33, .int (Int32.ofInt (n))], M)) rfl ?_
      refine w_gf (v := .ref 37) hR rfl rfl rfl rfl ?_
      refine w_lena (n := 420) hR rfl rfl rfl ?_
      show w_W _ _ _ (20, [(0, .ref 33), (1, .int (Int32.ofInt (n)))], [.int (Int32.ofInt (420)), .int (Int32.ofInt (n))], M) _
      refine w_br2 (a := n) (b := 420) rfl rfl ⟨by omega, by omega⟩ ⟨by omega, by omega⟩ (fun h5 => ?_) (fun h5 => ?_)
      · have h5 : n < 420 := h5
        show w_W _ _ _ (25, [(0, .ref 33), (1, .int (Int32.ofInt (n)))], [], M) _
        refine w_adv (n := 1) (F' := (26, [(0, .ref 33), (1, .int (Int32.ofInt (n)))], [.ref 33], M)) rfl ?_
        refine w_gf (v := .int (Int32.ofInt ((I 2117)))) hR rfl rfl rfl rfl ?_
        refine w_adv (n := 2) (F' := (31, [(2, .int (Int32.ofInt ((I 2117)))), (0, .ref 33), (1, .int (Int32.ofInt (n)))], [.ref 33], M)) rfl ?_
        refine w_gf (v := .ref 34) hR rfl rfl rfl rfl ?_
        refine w_adv (n := 2) (F' := (36, [(2, .int (Int32.ofInt ((I 2117)))), (0, .ref 33), (1, .int (Int32.ofInt (n)))], [.int (Int32.ofInt (n)), .int (Int32.ofInt ((I 2117))), .ref 34], M)) rfl ?_
        refine w_sai (n := 1508) hR rfl rfl (show 0 ≤ (I 2117) by omega) (show (I 2117) < (1508 : Int) by omega) (by decide) (show w_in (n) from ⟨by omega, by omega⟩) (fun M6 hR7 => ?_)
        replace hR7 : w_Rep w_TC fr X u l I (w_upF A 34 (w_upA (A 34) ((I 2117)) (n))) B C M6 := hR7
        refine w_adv (n := 1) (F' := (38, [(2, .int (Int32.ofInt ((I 2117)))), (0, .ref 33), (1, .int (Int32.ofInt (n)))], [.ref 33], M6)) rfl ?_
        refine w_gf (v := .ref 35) hR7 rfl rfl rfl rfl ?_
        refine w_adv (n := 2) (F' := (43, [(2, .int (Int32.ofInt ((I 2117)))), (0, .ref 33), (1, .int (Int32.ofInt (n)))], [.ref 33, .int (Int32.ofInt ((I 2117))), .ref 35], M6)) rfl ?_
        refine w_gf (v := .ref 37) hR7 rfl rfl rfl rfl ?_
        refine w_adv (n := 1) (F' := (47, [(2, .int (Int32.ofInt ((I 2117)))), (0, .ref 33), (1, .int (Int32.ofInt (n)))], [.int (Int32.ofInt (n)), .ref 37, .int (Int32.ofInt ((I 2117))), .ref 35], M6)) rfl ?_
        refine w_la (n := 420) hR7 rfl (Or.inl ⟨rfl, rfl⟩) rfl (show 0 ≤ n by omega) (show n < (420 : Int) by omega) (by decide) ?_
        obtain ⟨r8, r9⟩ : -2147483648 ≤ (A 37) (n) ∧ (A 37) (n) ≤ 2147483647 := hR7.ra 37 (n)
        show w_W _ _ _ (48, [(2, .int (Int32.ofInt ((I 2117)))), (0, .ref 33), (1, .int (Int32.ofInt (n)))], [.int (Int32.ofInt ((A 37) (n))), .int (Int32.ofInt ((I 2117))), .ref 35], M6) _
        refine w_sai (n := 1508) hR7 rfl rfl (show 0 ≤ (I 2117) by omega) (show (I 2117) < (1508 : Int) by omega) (by decide) (show w_in ((A 37) (n)) from ⟨by omega, by omega⟩) (fun M10 hR11 => ?_)
        replace hR11 : w_Rep w_TC fr X u l I (w_upF (w_upF A 34 (w_upA (A 34) ((I 2117)) (n))) 35 (w_upA (A 35) ((I 2117)) ((A 37) (n)))) B C M10 := hR11
        refine w_adv (n := 1) (F' := (50, [(2, .int (Int32.ofInt ((I 2117)))), (0, .ref 33), (1, .int (Int32.ofInt (n)))], [.ref 33], M10)) rfl ?_
        refine w_gf (v := .ref 36) hR11 rfl rfl rfl rfl ?_
        refine w_adv (n := 2) (F' := (55, [(2, .int (Int32.ofInt ((I 2117)))), (0, .ref 33), (1, .int (Int32.ofInt (n)))], [.int (Int32.ofInt ((-1))), .int (Int32.ofInt ((I 2117))), .ref 36], M10)) rfl ?_
        refine w_sai (n := 1508) hR11 rfl rfl (show 0 ≤ (I 2117) by omega) (show (I 2117) < (1508 : Int) by omega) (by decide) (show w_in ((-1)) from ⟨by omega, by omega⟩) (fun M12 hR13 => ?_)
        replace hR13 : w_Rep w_TC fr X u l I (w_upF (w_upF (w_upF A 34 (w_upA (A 34) ((I 2117)) (n))) 35 (w_upA (A 35) ((I 2117)) ((A 37) (n)))) 36 (w_upA (A 36) ((I 2117)) ((-1)))) B C M12 := hR13
        refine w_adv (n := 1) (F' := (57, [(2, .int (Int32.ofInt ((I 2117)))), (0, .ref 33), (1, .int (Int32.ofInt (n)))], [.ref 33], M12)) rfl ?_
        refine w_gf (v := .ref 37) hR13 rfl rfl rfl rfl ?_
        refine w_adv (n := 2) (F' := (62, [(2, .int (Int32.ofInt ((I 2117)))), (0, .ref 33), (1, .int (Int32.ofInt (n)))], [.int (Int32.ofInt ((I 2117))), .int (Int32.ofInt (n)), .ref 37], M12)) rfl ?_
        refine w_sai (n := 420) hR13 rfl rfl (show 0 ≤ n by omega) (show n < (420 : Int) by omega) (by decide) (show w_in ((I 2117)) from ⟨by omega, by omega⟩) (fun M14 hR15 => ?_)
        replace hR15 : w_Rep w_TC fr X u l I (w_upF (w_upF (w_upF (w_upF A 34 (w_upA (A 34) ((I 2117)) (n))) 35 (w_upA (A 35) ((I 2117)) ((A 37) (n)))) 36 (w_upA (A 36) ((I 2117)) ((-1)))) 37 (w_upA (A 37) (n) ((I 2117)))) B C M14 := hR15
        refine w_adv (n := 2) (F' := (65, [(2, .int (Int32.ofInt ((I 2117)))), (0, .ref 33), (1, .int (Int32.ofInt (n)))], [.ref 33, .ref 33], M14)) rfl ?_
        refine w_gf (v := .int (Int32.ofInt ((I 2117)))) hR15 rfl rfl rfl rfl ?_
        refine w_adv (n := 1) (F' := (69, [(2, .int (Int32.ofInt ((I 2117)))), (0, .ref 33), (1, .int (Int32.ofInt (n)))], [.int (Int32.ofInt (1)), .int (Int32.ofInt ((I 2117))), .ref 33], M14)) rfl ?_
        refine w_add rfl ?_
        refine w_pf hR15 rfl rfl rfl rfl (show w_in ((I 2117) + 1) from ⟨by omega, by omega⟩) (fun h => absurd h (by decide)) (fun M16 hR17 => ?_)
        replace hR17 : w_Rep w_TC fr X u l (w_up I 2117 ((I 2117) + 1)) (w_upF (w_upF (w_upF (w_upF A 34 (w_upA (A 34) ((I 2117)) (n))) 35 (w_upA (A 35) ((I 2117)) ((A 37) (n)))) 36 (w_upA (A 36) ((I 2117)) ((-1)))) 37 (w_upA (A 37) (n) ((I 2117)))) B C M16 := hR17
        refine w_adv (n := 1) (F' := (74, [(2, .int (Int32.ofInt ((I 2117)))), (0, .ref 33), (1, .int (Int32.ofInt (n)))], [.int (Int32.ofInt ((I 2117)))], M16)) rfl ?_
        refine w_fin (r := .inl (some ((I 2117)))) (M' := M16) rfl ?_
        exact Or.inr (⟨(I 2117), (w_up I 2117 ((I 2117) + 1)), (w_upF (w_upF (w_upF (w_upF A 34 (w_upA (A 34) ((I 2117)) (n))) 35 (w_upA (A 35) ((I 2117)) ((A 37) (n)))) 36 (w_upA (A 36) ((I 2117)) ((-1)))) 37 (w_upA (A 37) (n) ((I 2117)))), B, C, rfl, ⟨by omega, by omega⟩, hR17, (show 0 ≤ (I 2117) + 1 by first | assumption | omega)⟩)
      · have h5 : ¬ (n < 420) := h5
        show w_W _ _ _ (23, [(0, .ref 33), (1, .int (Int32.ofInt (n)))], [], M) _
        refine w_adv (n := 1) (F' := (24, [(0, .ref 33), (1, .int (Int32.ofInt (n)))], [.int (Int32.ofInt ((-1)))], M)) rfl ?_
        refine w_fin (r := .inl (some ((-1)))) (M' := M) rfl ?_
        first
          | exact Or.inl ⟨rfl, rfl⟩
          | exact Or.inr (⟨(-1), I, A, B, C, rfl, ⟨by omega, by omega⟩, hR, (show 0 ≤ (I 2117) by first | assumption | omega)⟩)
