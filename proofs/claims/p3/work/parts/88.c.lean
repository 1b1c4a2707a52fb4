/-! CALLS of the class: read and the others. -/
def c_forget_Q (fr : Nat → Bool) (X : Nat → Option (q_C (Nat → Int32))) (u l : Nat) (I : Nat → Int) (A : Nat → Int → Int) (B C : Nat → Nat) (M : w_M) : w_X → w_M → Prop := fun r M' => ((r = .inl none) ∧ (w_Rep w_TC fr X u l (w_up (w_up (w_up (w_up (w_up I 6 (0)) 7 ((-1))) 8 ((-1))) 9 ((-1))) 10 (0)) A B C M'))
set_option maxHeartbeats 100000000 in
set_option maxRecDepth 100000 in
theorem c_forget {L : Nat} {xs : Nat → Int32} {d : Nat} {fr : Nat → Bool} {X : Nat → Option (q_C (Nat → Int32))} {u l : Nat} {I : Nat → Int} {A : Nat → Int → Int} {B C : Nat → Nat} {M : w_M} (hR : w_Rep w_TC fr X u l I A B C M) : w_W (z_P L xs) d 36 (0, [(0, .ref 0)], [], M) (c_forget_Q fr X u l I A B C M) := by
  refine w_adv (n := 2) (F' := (2, [(0, .ref 0)], [.int (Int32.ofInt (0)), .ref 0], M)) rfl ?_
  refine w_pf hR rfl rfl rfl rfl (show w_in (0) from ⟨by omega, by omega⟩) (fun h => absurd h (by decide)) (fun M1 hR2 => ?_)
  replace hR2 : w_Rep w_TC fr X u l (w_up I 6 (0)) A B C M1 := hR2
  refine w_adv (n := 2) (F' := (7, [(0, .ref 0)], [.int (Int32.ofInt ((-1))), .ref 0], M1)) rfl ?_
  refine w_pf hR2 rfl rfl rfl rfl (show w_in ((-1)) from ⟨by omega, by omega⟩) (fun h => absurd h (by decide)) (fun M3 hR4 => ?_)
  replace hR4 : w_Rep w_TC fr X u l (w_up (w_up I 6 (0)) 7 ((-1))) A B C M3 := hR4
  refine w_adv (n := 2) (F' := (12, [(0, .ref 0)], [.int (Int32.ofInt ((-1))), .ref 0], M3)) rfl ?_
  refine w_pf hR4 rfl rfl rfl rfl (show w_in ((-1)) from ⟨by omega, by omega⟩) (fun h => absurd h (by decide)) (fun M5 hR6 => ?_)
  replace hR6 : w_Rep w_TC fr X u l (w_up (w_up (w_up I 6 (0)) 7 ((-1))) 8 ((-1))) A B C M5 := hR6
  refine w_adv (n := 2) (F' := (17, [(0, .ref 0)], [.int (Int32.ofInt ((-1))), .ref 0], M5)) rfl ?_
  refine w_pf hR6 rfl rfl rfl rfl (show w_in ((-1)) from ⟨by omega, by omega⟩) (fun h => absurd h (by decide)) (fun M7 hR8 => ?_)
  replace hR8 : w_Rep w_TC fr X u l (w_up (w_up (w_up (w_up I 6 (0)) 7 ((-1))) 8 ((-1))) 9 ((-1))) A B C M7 := hR8
  refine w_adv (n := 2) (F' := (22, [(0, .ref 0)], [.int (Int32.ofInt (0)), .ref 0], M7)) rfl ?_
  refine w_pf hR8 rfl rfl rfl rfl (show w_in (0) from ⟨by omega, by omega⟩) (fun h => absurd h (by decide)) (fun M9 hR10 => ?_)
  replace hR10 : w_Rep w_TC fr X u l (w_up (w_up (w_up (w_up (w_up I 6 (0)) 7 ((-1))) 8 ((-1))) 9 ((-1))) 10 (0)) A B C M9 := hR10
  refine w_fin (r := .inl none) (M' := M9) rfl ?_
  exact ⟨rfl, hR10⟩
def c_keepFault_Q (fr : Nat → Bool) (X : Nat → Option (q_C (Nat → Int32))) (u l : Nat) (I : Nat → Int) (A : Nat → Int → Int) (B C : Nat → Nat) (M : w_M) : w_X → w_M → Prop := fun r M' => (∃ z0 : Int, ∃ z1 : Int, ∃ z2 : Int, ∃ z3 : Int, (r = .inl none) ∧ (w_Rep w_TC fr X u l (w_up (w_up (w_up (w_up I 6 (z0)) 7 (z1)) 8 (z2)) 9 (z3)) A B C M'))
set_option maxHeartbeats 100000000 in
set_option maxRecDepth 100000 in
theorem c_keepFault {L : Nat} {xs : Nat → Int32} {d : Nat} {fr : Nat → Bool} {X : Nat → Option (q_C (Nat → Int32))} {u l : Nat} {I : Nat → Int} {A : Nat → Int → Int} {B C : Nat → Nat} {M : w_M} (hR : w_Rep w_TC fr X u l I A B C M) (hd : 5 ≤ d) (hL : 0 ≤ (I 65) ∧ (I 65) ≤ 8192) : w_W (z_P L xs) d 137 (0, [(0, .ref 0)], [], M) (c_keepFault_Q fr X u l I A B C M) := by
  obtain ⟨d, rfl⟩ : ∃ d0, d = d0 + 1 := ⟨d - 1, by omega⟩
  refine w_adv (n := 2) (F' := (2, [(0, .ref 0)], [.ref 0, .ref 0], M)) rfl ?_
  refine w_gf (v := .ref 38) hR rfl rfl rfl rfl ?_
  refine w_call (cm := 138) (as := [(0, .ref 38)]) (rest := [.ref 0]) (o := some (4, 38)) rfl (w_fitR hR rfl) (c_Parser_trouble hR (show 2 ≤ d by omega)) (fun r1 M2 q3 => ?_)
  rcases q3 with ⟨v4, e5, ⟨r6, r7⟩, e8⟩
  rw [e5, e8]
  show w_W _ _ _ (8, [(0, .ref 0)], [.int (Int32.ofInt (v4)), .ref 0], M) _
  refine w_pf hR rfl rfl rfl rfl (show w_in (v4) from ⟨by omega, by omega⟩) (fun h => absurd h (by decide)) (fun M9 hR10 => ?_)
  replace hR10 : w_Rep w_TC fr X u l (w_up I 6 (v4)) A B C M9 := hR10
  refine w_adv (n := 2) (F' := (13, [(0, .ref 0)], [.ref 0, .ref 0], M9)) rfl ?_
  refine w_gf (v := .ref 38) hR10 rfl rfl rfl rfl ?_
  refine w_call (cm := 139) (as := [(0, .ref 38)]) (rest := [.ref 0]) (o := some (4, 38)) rfl (w_fitR hR10 rfl) (c_Parser_place hR10 (show 3 ≤ d by omega)) (fun r11 M12 q13 => ?_)
  rcases q13 with ⟨v14, e15, ⟨r16, r17⟩, e18⟩
  rw [e15, e18]
  show w_W _ _ _ (19, [(0, .ref 0)], [.int (Int32.ofInt (v14)), .ref 0], M9) _
  refine w_pf hR10 rfl rfl rfl rfl (show w_in (v14) from ⟨by omega, by omega⟩) (fun h => absurd h (by decide)) (fun M19 hR20 => ?_)
  replace hR20 : w_Rep w_TC fr X u l (w_up (w_up I 6 (v4)) 7 (v14)) A B C M19 := hR20
  refine w_adv (n := 2) (F' := (24, [(0, .ref 0)], [.ref 0, .ref 0], M19)) rfl ?_
  refine w_gf (v := .ref 1) hR20 rfl rfl rfl rfl ?_
  refine w_adv (n := 1) (F' := (28, [(0, .ref 0)], [.ref 0, .ref 1, .ref 0], M19)) rfl ?_
  refine w_gf (v := .int (Int32.ofInt (v14))) hR20 rfl rfl rfl rfl ?_
  obtain ⟨r21, r22⟩ : -2147483648 ≤ v14 ∧ v14 ≤ 2147483647 := hR20.ri 7
  refine w_call (cm := 140) (as := [(0, .ref 1), (1, .int (Int32.ofInt (v14)))]) (rest := [.ref 0]) (o := some (6, 1)) rfl (w_fitR hR20 rfl) (c_line (v14) hR20 (show 2 ≤ d by omega) ⟨by omega, by omega⟩ (show 0 ≤ (I 65) ∧ (I 65) ≤ 8192 by first | assumption | omega)) (fun r23 M24 q25 => ?_)
  rcases q25 with ⟨v26, e27, ⟨r28, r29⟩, e30⟩
  rw [e27, e30]
  show w_W _ _ _ (34, [(0, .ref 0)], [.int (Int32.ofInt (v26)), .ref 0], M19) _
  refine w_pf hR20 rfl rfl rfl rfl (show w_in (v26) from ⟨by omega, by omega⟩) (fun h => absurd h (by decide)) (fun M31 hR32 => ?_)
  replace hR32 : w_Rep w_TC fr X u l (w_up (w_up (w_up I 6 (v4)) 7 (v14)) 8 (v26)) A B C M31 := hR32
  refine w_adv (n := 2) (F' := (39, [(0, .ref 0)], [.ref 0, .ref 0], M31)) rfl ?_
  refine w_gf (v := .ref 1) hR32 rfl rfl rfl rfl ?_
  refine w_adv (n := 1) (F' := (43, [(0, .ref 0)], [.ref 0, .ref 1, .ref 0], M31)) rfl ?_
  refine w_gf (v := .int (Int32.ofInt (v14))) hR32 rfl rfl rfl rfl ?_
  refine w_call (cm := 141) (as := [(0, .ref 1), (1, .int (Int32.ofInt (v14)))]) (rest := [.ref 0]) (o := some (6, 1)) rfl (w_fitR hR32 rfl) (c_column (v14) hR32 (show 2 ≤ d by omega) ⟨by omega, by omega⟩ (show 0 ≤ (I 65) ∧ (I 65) ≤ 8192 by first | assumption | omega)) (fun r33 M34 q35 => ?_)
  rcases q35 with ⟨v36, e37, ⟨r38, r39⟩, e40⟩
  rw [e37, e40]
  show w_W _ _ _ (49, [(0, .ref 0)], [.int (Int32.ofInt (v36)), .ref 0], M31) _
  refine w_pf hR32 rfl rfl rfl rfl (show w_in (v36) from ⟨by omega, by omega⟩) (fun h => absurd h (by decide)) (fun M41 hR42 => ?_)
  replace hR42 : w_Rep w_TC fr X u l (w_up (w_up (w_up (w_up I 6 (v4)) 7 (v14)) 8 (v26)) 9 (v36)) A B C M41 := hR42
  refine w_fin (r := .inl none) (M' := M41) rfl ?_
  exact ⟨v4, v14, v26, v36, rfl, hR42⟩
def c_read_Q (fr : Nat → Bool) (X : Nat → Option (q_C (Nat → Int32))) (u l : Nat) (I : Nat → Int) (A : Nat → Int → Int) (B C : Nat → Nat) (M : w_M) : w_X → w_M → Prop := fun r M' => (∃ v : Int, ∃ (I' : Nat → Int) (A' : Nat → Int → Int) (B' C' : Nat → Nat), (r = .inl (some v)) ∧ (w_in v) ∧ (w_Rep w_TC fr X u l I' A' B' C' M') ∧ ((0 ≤ (I' 65) ∧ (I' 65) ≤ 8192) ∧ (36 ≤ (I' 200) ∧ (I' 200) ≤ 419 ∧ 0 ≤ (I' 202) ∧ (I' 202) ≤ 24) ∧ 0 ≤ (I' 1035) ∧ (I' 1035) ≤ 10000) ∧ (∀ i, (A' 5) i ≤ 24) ∧ (c_ks A') ∧ ((I' 65) = (I 65))) ∨ (∃ (I' : Nat → Int) (A' : Nat → Int → Int) (B' C' : Nat → Nat), (r = .inl (some (-1))) ∧ (w_Rep w_TC fr X (u + 6) (l + 64) I' A' B' C' M') ∧ ((0 ≤ (I' 65) ∧ (I' 65) ≤ 8192) ∧ (36 ≤ (I' 200) ∧ (I' 200) ≤ 419 ∧ 0 ≤ (I' 202) ∧ (I' 202) ≤ 24) ∧ 0 ≤ (I' 1035) ∧ (I' 1035) ≤ 10000) ∧ (∀ i, (A' 5) i ≤ 24) ∧ (c_ks A') ∧ ((I' 65) = (I 65)))
set_option maxHeartbeats 100000000 in
set_option maxRecDepth 100000 in
theorem c_read {L : Nat} {xs : Nat → Int32} {d : Nat} {fr : Nat → Bool} {X : Nat → Option (q_C (Nat → Int32))} {u l : Nat} {I : Nat → Int} {A : Nat → Int → Int} {B C : Nat → Nat} {M : w_M} (hR : w_Rep w_TC fr X u l I A B C M) (hd : 900 ≤ d) (hl : l ≤ 7000000) (hCI : (0 ≤ (I 65) ∧ (I 65) ≤ 8192) ∧ (36 ≤ (I 200) ∧ (I 200) ≤ 419 ∧ 0 ≤ (I 202) ∧ (I 202) ≤ 24) ∧ 0 ≤ (I 1035) ∧ (I 1035) ≤ 10000) (hLN : ∀ i, (A 5) i ≤ 24) (hKS : c_ks A) : w_W (z_P L xs) d 311 (0, [(0, .ref 0)], [], M) (c_read_Q fr X u l I A B C M) := by
  obtain ⟨d, rfl⟩ : ∃ d0, d = d0 + 1 := ⟨d - 1, by omega⟩
  refine w_adv (n := 1) (F' := (1, [(0, .ref 0)], [.ref 0], M)) rfl ?_
  refine w_call (cm := 36) (as := [(0, .ref 0)]) (rest := []) (o := some (0, 0)) rfl (w_fitR hR rfl) (c_forget hR) (fun r1 M2 q3 => ?_)
  rcases q3 with ⟨e4, hR3a⟩
  rw [e4]
  replace hR3a : w_Rep w_TC fr X u l (w_up (w_up (w_up (w_up (w_up I 6 (0)) 7 ((-1))) 8 ((-1))) 9 ((-1))) 10 (0)) A B C M2 := hR3a
  show w_W _ _ _ (4, [(0, .ref 0)], [], M2) _
  refine w_adv (n := 1) (F' := (5, [(0, .ref 0)], [.ref 0], M2)) rfl ?_
  refine w_gf (v := .ref 16) hR3a rfl rfl rfl rfl ?_
  refine w_call (cm := 29) (as := [(0, .ref 16)]) (rest := []) (o := some (2, 16)) rfl (w_fitR hR3a rfl) (c_Kernel_clear hR3a (show 3 ≤ d by omega)) (fun r5 M6 q7 => ?_)
  rcases q7 with ⟨gv8, zv9, e10, hR7a⟩
  rw [e10]
  replace hR7a : w_Rep w_TC fr X u l (w_up (w_up (w_up (w_up (w_up (w_up (w_up (w_up I 6 (0)) 7 ((-1))) 8 ((-1))) 9 ((-1))) 10 (0)) 1034 (0)) 1035 (0)) 1036 (zv9)) (w_upF A 25 gv8) B C M6 := hR7a
  show w_W _ _ _ (11, [(0, .ref 0)], [], M6) _
  refine w_adv (n := 1) (F' := (12, [(0, .ref 0)], [.ref 0], M6)) rfl ?_
  refine w_gf (v := .ref 12) hR7a rfl rfl rfl rfl ?_
  refine w_call (cm := 42) (as := [(0, .ref 12)]) (rest := []) (o := some (7, 12)) rfl (w_fitR hR7a rfl) (c_scan hR7a (show 8 ≤ d by omega) (show 36 ≤ (I 200) ∧ (I 200) ≤ 419 ∧ 0 ≤ (I 202) ∧ (I 202) ≤ 24 by (repeat' apply And.intro) <;> first | assumption | omega) (show ∀ i, (A 5) i ≤ 24 by exact hLN)) (fun r11 M12 q13 => ?_)
  rcases q13 with ⟨I13a, A13a, B13a, C13a, e14, hR13a, f15, f16, f17, f18⟩
  rw [e14]
  replace hR13a : w_Rep w_TC fr X u l I13a A13a B13a C13a M12 := hR13a
  replace f15 : c_fr c_ts c_ta (w_up (w_up (w_up (w_up (w_up (w_up (w_up (w_up I 6 (0)) 7 ((-1))) 8 ((-1))) 9 ((-1))) 10 (0)) 1034 (0)) 1035 (0)) 1036 (zv9)) (w_upF A 25 gv8) I13a A13a := f15
  replace f16 : 36 ≤ (I13a 200) ∧ (I13a 200) ≤ 419 ∧ 0 ≤ (I13a 202) ∧ (I13a 202) ≤ 24 := f16
  obtain ⟨n19, n20, n21, n22⟩ := id f16
  clear f16
  replace f17 : ∀ i, (A13a 5) i ≤ 24 := f17
  replace f18 : 1 ≤ (I13a 773) ∧ (I13a 773) ≤ 1501 ∧ (I13a 65) = (I 65) := f18
  obtain ⟨n23, n24, n25⟩ := id f18
  clear f18
  have q15_1035 : (I13a 1035) = 0 := f15.1 1035 rfl
  have q15_65 : (I13a 65) = (I 65) := f15.1 65 rfl
  have ks15 : c_ks A13a := fun i => by rw [f15.2 22 rfl]; exact hKS i
  skip
  show w_W _ _ _ (18, [(0, .ref 0)], [], M12) _
  refine w_adv (n := 1) (F' := (19, [(0, .ref 0)], [.ref 0], M12)) rfl ?_
  refine w_gf (v := .ref 38) hR13a rfl rfl rfl rfl ?_
  refine w_call (cm := 75) (as := [(0, .ref 38)]) (rest := []) (o := some (4, 38)) rfl (w_fitR hR13a rfl) (c_pprog hR13a (show 300 ≤ d by omega) (show l ≤ 7000000 by first | assumption | omega) (show 1 ≤ (I13a 773) ∧ (I13a 773) ≤ 1501 by (repeat' apply And.intro) <;> first | assumption | omega)) (fun r26 M27 q28 => ?_)
  rcases q28 with ⟨v29, I28a, A28a, B28a, C28a, e30, ⟨r31, r32⟩, hR28a, f33, f34, f35, f36⟩ | ⟨t37, I28b, A28b, B28b, C28b, e38, hR28b, f39, f40, f41⟩
  · rw [e30]
    replace hR28a : w_Rep w_TC fr X u l I28a A28a B28a C28a M27 := hR28a
    replace f33 : c_fi c_ps I13a I28a := f33
    replace f34 : c_fa c_pa A13a A28a := f34
    replace f35 : (I28a 1670) ≤ 3002 := f35
    replace f36 : c_Bd A28a (c_W A28a 100) v29 0 (I28a 1670) := f36
    have q22_1035 : (I28a 1035) = (I13a 1035) := f33 1035 rfl
    have q22_200 : (I28a 200) = (I13a 200) := f33 200 rfl
    have q22_202 : (I28a 202) = (I13a 202) := f33 202 rfl
    have q22_65 : (I28a 65) = (I13a 65) := f33 65 rfl
    have ks22 : c_ks A28a := fun i => by rw [f34 22 rfl]; exact ks15 i
    have ln22 : ∀ i, (A28a 5) i ≤ 24 := fun i => by rw [f34 5 rfl]; exact f17 i
    skip
    show w_W _ _ _ (25, [(0, .ref 0)], [.int (Int32.ofInt (v29))], M27) _
    refine w_adv (n := 4) (F' := (45, [(1, .int (Int32.ofInt (v29))), (0, .ref 0)], [.ref 0, .ref 0], M27)) rfl ?_
    refine w_gf (v := .ref 38) hR28a rfl rfl rfl rfl ?_
    refine w_call (cm := 142) (as := [(0, .ref 38)]) (rest := [.ref 0]) (o := some (4, 38)) rfl (w_fitR hR28a rfl) (c_Parser_marks hR28a (show 2 ≤ d by omega)) (fun r42 M43 q44 => ?_)
    rcases q44 with ⟨v45, e46, ⟨r47, r48⟩, e49⟩
    rw [e46, e49]
    show w_W _ _ _ (51, [(1, .int (Int32.ofInt (v29))), (0, .ref 0)], [.int (Int32.ofInt (v45)), .ref 0], M27) _
    refine w_pf hR28a rfl rfl rfl rfl (show w_in (v45) from ⟨by omega, by omega⟩) (fun h => absurd h (by decide)) (fun M50 hR51 => ?_)
    replace hR51 : w_Rep w_TC fr X u l (w_up I28a 10 (v45)) A28a B28a C28a M50 := hR51
    refine w_adv (n := 1) (F' := (55, [(1, .int (Int32.ofInt (v29))), (0, .ref 0)], [.ref 0], M50)) rfl ?_
    refine w_gf (v := .ref 39) hR51 rfl rfl rfl rfl ?_
    refine w_adv (n := 1) (F' := (59, [(1, .int (Int32.ofInt (v29))), (0, .ref 0)], [.int (Int32.ofInt (v29)), .ref 39], M50)) rfl ?_
    refine w_call (cm := 143) (as := [(0, .ref 39), (1, .int (Int32.ofInt (v29)))]) (rest := []) (o := some (1, 39)) rfl (w_fitR hR51 rfl) (c_bprog (v29) (100) (0) ((I28a 1670)) hR51 (show 8 * 100 + 8 ≤ d by omega) ⟨by omega, by omega⟩ (show 0 ≤ (I28a 1035) ∧ (I28a 1035) ≤ 10000 by (repeat' apply And.intro) <;> first | assumption | omega) (show c_ks A28a by exact ks22) (show 36 ≤ (I28a 200) ∧ (I28a 200) ≤ 419 ∧ 0 ≤ (I28a 202) ∧ (I28a 202) ≤ 24 by (repeat' apply And.intro) <;> first | assumption | omega) (show ∀ i, (A28a 5) i ≤ 24 by exact ln22) (show c_Bd A28a (c_W A28a 100) v29 0 (I28a 1670) by exact f36) (show 0 ≤ 0 ∧ (I28a 1670) ≤ 3002 by omega) (show (100 : Int) ≤ 120 by omega)) (fun r52 M53 q54 => ?_)
    rcases q54 with ⟨v55, I54a, A54a, B54a, C54a, e56, ⟨r57, r58⟩, hR54a, f59, f60⟩
    rw [e56]
    replace hR54a : w_Rep w_TC fr X u l I54a A54a B54a C54a M53 := hR54a
    replace f59 : c_bz (w_up I28a 10 (v45)) A28a I54a A54a 0 (I28a 1670) 0 := f59
    replace f60 : (0 ≤ (I54a 1035) ∧ (I54a 1035) ≤ 10000) ∧ (I54a 200) = (I28a 200) ∧ (I54a 202) = (I28a 202) := f60
    obtain ⟨⟨n61, n62⟩, n63, n64⟩ := id f60
    clear f60
    have q59_65 : (I54a 65) = (I28a 65) := f59.1 65 rfl
    have ks59 : c_ks A54a := f59.2.2.2.2 ks22
    have ln59 : ∀ i, (A54a 5) i ≤ 24 := fun i => by rw [f59.2.1 5 rfl]; exact ln22 i
    show w_W _ _ _ (62, [(1, .int (Int32.ofInt (v29))), (0, .ref 0)], [.int (Int32.ofInt (v55))], M53) _
    refine w_fin (r := .inl (some (v55))) (M' := M53) rfl ?_
    first
      | exact Or.inl ⟨v55, I54a, A54a, B54a, C54a, rfl, ⟨by omega, by omega⟩, hR54a, (show (0 ≤ (I54a 65) ∧ (I54a 65) ≤ 8192) ∧ (36 ≤ (I54a 200) ∧ (I54a 200) ≤ 419 ∧ 0 ≤ (I54a 202) ∧ (I54a 202) ≤ 24) ∧ 0 ≤ (I54a 1035) ∧ (I54a 1035) ≤ 10000 by (repeat' apply And.intro) <;> first | assumption | omega), (show ∀ i, (A54a 5) i ≤ 24 by exact ln59), (show c_ks A54a by exact ks59), (show (I54a 65) = (I 65) by omega)⟩
      | exact Or.inr (⟨I54a, A54a, B54a, C54a, rfl, hR54a, (show (0 ≤ (I54a 65) ∧ (I54a 65) ≤ 8192) ∧ (36 ≤ (I54a 200) ∧ (I54a 200) ≤ 419 ∧ 0 ≤ (I54a 202) ∧ (I54a 202) ≤ 24) ∧ 0 ≤ (I54a 1035) ∧ (I54a 1035) ≤ 10000 by (repeat' apply And.intro) <;> first | assumption | omega), (show ∀ i, (A54a 5) i ≤ 24 by exact ln59), (show c_ks A54a by exact ks59), (show (I54a 65) = (I 65) by omega)⟩)
  · rw [e38]
    replace hR28b : w_Rep w_TC fr X (u + 6) (l + 64) I28b A28b B28b C28b M27 := hR28b
    replace f39 : c_fi c_ps I13a I28b := f39
    replace f40 : c_fa c_pa A13a A28b := f40
    replace f41 : M27.1[t37]? = some (.inr (11, [])) := f41
    have q22_1035 : (I28b 1035) = (I13a 1035) := f39 1035 rfl
    have q22_200 : (I28b 200) = (I13a 200) := f39 200 rfl
    have q22_202 : (I28b 202) = (I13a 202) := f39 202 rfl
    have q22_65 : (I28b 65) = (I13a 65) := f39 65 rfl
    have ks22 : c_ks A28b := fun i => by rw [f40 22 rfl]; exact ks15 i
    have ln22 : ∀ i, (A28b 5) i ≤ 24 := fun i => by rw [f40 5 rfl]; exact f17 i
    skip
    refine ⟨⟨_, f41⟩, ?_⟩
    refine w_adv (n := 2) (F' := (31, [(2, .ref t37), (0, .ref 0)], [.ref 0], M27)) rfl ?_
    refine w_call (cm := 137) (as := [(0, .ref 0)]) (rest := []) (o := some (0, 0)) rfl (w_fitR hR28b rfl) (c_keepFault hR28b (show 5 ≤ d by omega) (show 0 ≤ (I28b 65) ∧ (I28b 65) ≤ 8192 by omega)) (fun r65 M66 q67 => ?_)
    rcases q67 with ⟨z068, z169, z270, z371, e72, hR67a⟩
    rw [e72]
    replace hR67a : w_Rep w_TC fr X (u + 6) (l + 64) (w_up (w_up (w_up (w_up I28b 6 (z068)) 7 (z169)) 8 (z270)) 9 (z371)) A28b B28b C28b M66 := hR67a
    show w_W _ _ _ (34, [(2, .ref t37), (0, .ref 0)], [], M66) _
    refine w_adv (n := 1) (F' := (35, [(2, .ref t37), (0, .ref 0)], [.ref 0], M66)) rfl ?_
    refine w_gf (v := .ref 3) hR67a rfl rfl rfl rfl ?_
    refine w_call (cm := 43) (as := [(0, .ref 3)]) (rest := []) (o := some (3, 3)) rfl (w_fitR hR67a rfl) (c_Names_reset hR67a (show 1 ≤ d by omega) (show 36 ≤ (I28b 200) ∧ (I28b 200) ≤ 419 ∧ 0 ≤ (I28b 202) ∧ (I28b 202) ≤ 24 by (repeat' apply And.intro) <;> first | assumption | omega) (show ∀ i, (A28b 5) i ≤ 24 by exact ln22)) (fun r73 M74 q75 => ?_)
    rcases q75 with ⟨I75a, A75a, B75a, C75a, e76, hR75a, f77, f78, f79, f80⟩
    rw [e76]
    replace hR75a : w_Rep w_TC fr X (u + 6) (l + 64) I75a A75a B75a C75a M74 := hR75a
    replace f77 : c_fr c_ts c_ta (w_up (w_up (w_up (w_up I28b 6 (z068)) 7 (z169)) 8 (z270)) 9 (z371)) A28b I75a A75a := f77
    replace f78 : 36 ≤ (I75a 200) ∧ (I75a 200) ≤ 419 ∧ 0 ≤ (I75a 202) ∧ (I75a 202) ≤ 24 := f78
    obtain ⟨n81, n82, n83, n84⟩ := id f78
    clear f78
    replace f79 : ∀ i, (A75a 5) i ≤ 24 := f79
    replace f80 : (I75a 773) = (I28b 773) ∧ (I75a 65) = (I28b 65) := f80
    obtain ⟨n85, n86⟩ := id f80
    clear f80
    have q38_1035 : (I75a 1035) = (I28b 1035) := f77.1 1035 rfl
    have q38_65 : (I75a 65) = (I28b 65) := f77.1 65 rfl
    have ks38 : c_ks A75a := fun i => by rw [f77.2 22 rfl]; exact ks22 i
    skip
    show w_W _ _ _ (41, [(2, .ref t37), (0, .ref 0)], [], M74) _
    refine w_adv (n := 1) (F' := (42, [(2, .ref t37), (0, .ref 0)], [.int (Int32.ofInt ((-1)))], M74)) rfl ?_
    refine w_fin (r := .inl (some ((-1)))) (M' := M74) rfl ?_
    first
      | exact Or.inl ⟨(-1), I75a, A75a, B75a, C75a, rfl, ⟨by omega, by omega⟩, hR75a, (show (0 ≤ (I75a 65) ∧ (I75a 65) ≤ 8192) ∧ (36 ≤ (I75a 200) ∧ (I75a 200) ≤ 419 ∧ 0 ≤ (I75a 202) ∧ (I75a 202) ≤ 24) ∧ 0 ≤ (I75a 1035) ∧ (I75a 1035) ≤ 10000 by (repeat' apply And.intro) <;> first | assumption | omega), (show ∀ i, (A75a 5) i ≤ 24 by exact f79), (show c_ks A75a by exact ks38), (show (I75a 65) = (I 65) by omega)⟩
      | exact Or.inr (⟨I75a, A75a, B75a, C75a, rfl, hR75a, (show (0 ≤ (I75a 65) ∧ (I75a 65) ≤ 8192) ∧ (36 ≤ (I75a 200) ∧ (I75a 200) ≤ 419 ∧ 0 ≤ (I75a 202) ∧ (I75a 202) ≤ 24) ∧ 0 ≤ (I75a 1035) ∧ (I75a 1035) ≤ 10000 by (repeat' apply And.intro) <;> first | assumption | omega), (show ∀ i, (A75a 5) i ≤ 24 by exact f79), (show c_ks A75a by exact ks38), (show (I75a 65) = (I 65) by omega)⟩)
