/-! BEGIN of the reference. -/
def m_cF (k : Int) : Int := (((m_txF.take k.toNat).filter (fun c => c == 32)).length : Int)
set_option maxRecDepth 100000 in
theorem m_cF_ok {k : Int} (h0 : 0 ≤ k) (h1 : k < 57) : (m_txF.getD k.toNat 0 = 32 ∧ m_cF (k + 1) = m_cF k + 1 ∧ k ≤ 24 * (m_cF k + 1)) ∨ (¬ m_txF.getD k.toNat 0 = 32 ∧ m_cF (k + 1) = m_cF k) := by
  rcases (show k = 0 ∨ k = 1 ∨ k = 2 ∨ k = 3 ∨ k = 4 ∨ k = 5 ∨ k = 6 ∨ k = 7 ∨ k = 8 ∨ k = 9 ∨ k = 10 ∨ k = 11 ∨ k = 12 ∨ k = 13 ∨ k = 14 ∨ k = 15 ∨ k = 16 ∨ k = 17 ∨ k = 18 ∨ k = 19 ∨ k = 20 ∨ k = 21 ∨ k = 22 ∨ k = 23 ∨ k = 24 ∨ k = 25 ∨ k = 26 ∨ k = 27 ∨ k = 28 ∨ k = 29 ∨ k = 30 ∨ k = 31 ∨ k = 32 ∨ k = 33 ∨ k = 34 ∨ k = 35 ∨ k = 36 ∨ k = 37 ∨ k = 38 ∨ k = 39 ∨ k = 40 ∨ k = 41 ∨ k = 42 ∨ k = 43 ∨ k = 44 ∨ k = 45 ∨ k = 46 ∨ k = 47 ∨ k = 48 ∨ k = 49 ∨ k = 50 ∨ k = 51 ∨ k = 52 ∨ k = 53 ∨ k = 54 ∨ k = 55 ∨ k = 56 by omega) with rfl | rfl | rfl | rfl | rfl | rfl | rfl | rfl | rfl | rfl | rfl | rfl | rfl | rfl | rfl | rfl | rfl | rfl | rfl | rfl | rfl | rfl | rfl | rfl | rfl | rfl | rfl | rfl | rfl | rfl | rfl | rfl | rfl | rfl | rfl | rfl | rfl | rfl | rfl | rfl | rfl | rfl | rfl | rfl | rfl | rfl | rfl | rfl | rfl | rfl | rfl | rfl | rfl | rfl | rfl | rfl | rfl <;> decide
def m_cB (k : Int) : Int := (((m_txB.take k.toNat).filter (fun c => c == 32)).length : Int)
set_option maxRecDepth 100000 in
theorem m_cB_ok {k : Int} (h0 : 0 ≤ k) (h1 : k < 49) : (m_txB.getD k.toNat 0 = 32 ∧ m_cB (k + 1) = m_cB k + 1 ∧ k ≤ 24 * (m_cB k + 1)) ∨ (¬ m_txB.getD k.toNat 0 = 32 ∧ m_cB (k + 1) = m_cB k) := by
  rcases (show k = 0 ∨ k = 1 ∨ k = 2 ∨ k = 3 ∨ k = 4 ∨ k = 5 ∨ k = 6 ∨ k = 7 ∨ k = 8 ∨ k = 9 ∨ k = 10 ∨ k = 11 ∨ k = 12 ∨ k = 13 ∨ k = 14 ∨ k = 15 ∨ k = 16 ∨ k = 17 ∨ k = 18 ∨ k = 19 ∨ k = 20 ∨ k = 21 ∨ k = 22 ∨ k = 23 ∨ k = 24 ∨ k = 25 ∨ k = 26 ∨ k = 27 ∨ k = 28 ∨ k = 29 ∨ k = 30 ∨ k = 31 ∨ k = 32 ∨ k = 33 ∨ k = 34 ∨ k = 35 ∨ k = 36 ∨ k = 37 ∨ k = 38 ∨ k = 39 ∨ k = 40 ∨ k = 41 ∨ k = 42 ∨ k = 43 ∨ k = 44 ∨ k = 45 ∨ k = 46 ∨ k = 47 ∨ k = 48 by omega) with rfl | rfl | rfl | rfl | rfl | rfl | rfl | rfl | rfl | rfl | rfl | rfl | rfl | rfl | rfl | rfl | rfl | rfl | rfl | rfl | rfl | rfl | rfl | rfl | rfl | rfl | rfl | rfl | rfl | rfl | rfl | rfl | rfl | rfl | rfl | rfl | rfl | rfl | rfl | rfl | rfl | rfl | rfl | rfl | rfl | rfl | rfl | rfl | rfl <;> decide
def m_N1 (g : Int → Int) : Prop := ∀ i, 0 ≤ i → i ≤ 401 → 0 ≤ g i ∧ g i ≤ 24 * i
theorem m_N1_up {g : Int → Int} {j v : Int} (h : m_N1 g) (hv : 0 ≤ v ∧ v ≤ 24 * j) : m_N1 (w_upA g j v) := fun i a b => by
  unfold w_upA
  by_cases e : i = j
  · rw [if_pos e]; omega
  · rw [if_neg e]; exact h i a b
/-- the basis: names, scope, numbers -/
def m_BG (A : Nat → Int → Int) (n : Int) : Prop := ∀ i, 0 ≤ i → i < n → (0 ≤ A 63 i ∧ A 63 i < 400) ∧ (0 ≤ A 67 i ∧ A 67 i < n) ∧ (-1 ≤ A 70 i ∧ A 70 i < 400)
theorem m_BG_up {A A' : Nat → Int → Int} {n a b c : Int} (h : m_BG A n) (hn : 0 ≤ n ∧ n < 400) (h63 : ∀ i, 0 ≤ i → i < n → A' 63 i = A 63 i) (h67 : ∀ i, 0 ≤ i → i < n → A' 67 i = A 67 i) (h70 : ∀ i, 0 ≤ i → i < n → A' 70 i = A 70 i) (e63 : A' 63 n = a) (e67 : A' 67 n = b) (e70 : A' 70 n = c) (ha : 0 ≤ a ∧ a < 400) (hb : 0 ≤ b ∧ b ≤ n) (hc : -1 ≤ c ∧ c < 400) : m_BG A' (n + 1) := fun i p q => by
  by_cases e : i = n
  · rw [e, e63, e67, e70]; exact ⟨ha, by omega, hc⟩
  · obtain ⟨g1, g2, g3⟩ := h i p (by omega)
    rw [h63 i p (by omega), h67 i p (by omega), h70 i p (by omega)]
    exact ⟨g1, by omega, g3⟩
def m_begin_Q (fr : Nat → Bool) (X : Nat → Option (q_C (Nat → Int32))) (u l : Nat) (I : Nat → Int) (A : Nat → Int → Int) (B C : Nat → Nat) (M : w_M) : w_X → w_M → Prop := fun r M' => (∃ (I' : Nat → Int) (A' : Nat → Int → Int) (B' C' : Nat → Nat), (r = .inl none) ∧ (w_Rep w_TM fr X u l I' A' B' C' M') ∧ (((I' 4481) = 7 ∧ (I' 4033) = 7 ∧ (I' 4161) = 7 ∧ (I' 4289) = 7) ∧ ((I' 4609) = 0 ∧ (I' 4737) = 0 ∧ (I' 4865) = 0 ∧ (I' 4993) = 0 ∧ (I' 5121) = 0 ∧ (I' 5249) = 0 ∧ (I' 5377) = 0 ∧ (I' 5505) = 0) ∧ ((I' 2753) = (I 2753) ∧ (I' 3393) = (I 3393) ∧ (I' 3521) = (I 3521) ∧ (I' 3649) = (I 3649) ∧ (I' 3777) = (I 3777) ∧ (I' 3905) = (I 3905) ∧ (I' 5633) = (I 5633) ∧ (I' 5761) = (I 5761) ∧ (I' 5889) = (I 5889) ∧ (I' 6017) = (I 6017))) ∧ (m_NA I' A') ∧ (m_BG A' 7))
set_option maxHeartbeats 100000000 in
set_option maxRecDepth 100000 in
theorem m_begin {L : Nat} {xs : Nat → Int32} {d : Nat} {fr : Nat → Bool} {X : Nat → Option (q_C (Nat → Int32))} {u l : Nat} {I : Nat → Int} {A : Nat → Int → Int} {B C : Nat → Nat} {M : w_M} (hR : w_Rep w_TM fr X u l I A B C M) (hd : 5 ≤ d) (hNA : m_NA I A) : w_W (z_P L xs) d 206 (0, [(0, .ref 43)], [], M) (m_begin_Q fr X u l I A B C M) := by
  obtain ⟨d, rfl⟩ : ∃ d0, d = d0 + 1 := ⟨d - 1, by omega⟩
  have na0 := hNA.2 0 (by omega) (by omega)
  have cF0 : m_cF 0 = 0 := rfl
  have cB0 : m_cB 0 = 0 := rfl
  have cB49 : m_cB 49 = 7 := rfl
  refine w_adv (n := 2) (F' := (2, [(0, .ref 43)], [.int (Int32.ofInt (0)), .ref 43], M)) rfl ?_
  refine w_pf hR rfl rfl rfl rfl (show w_in (0) from ⟨by omega, by omega⟩) (fun h => absurd h (by decide)) (fun M1 hR2 => ?_)
  replace hR2 : w_Rep w_TM fr X u l (w_up I 2760 (0)) A B C M1 := hR2
  refine w_adv (n := 2) (F' := (7, [(0, .ref 43)], [.int (Int32.ofInt (0)), .ref 43], M1)) rfl ?_
  refine w_pf hR2 rfl rfl rfl rfl (show w_in (0) from ⟨by omega, by omega⟩) (fun h => absurd h (by decide)) (fun M3 hR4 => ?_)
  replace hR4 : w_Rep w_TM fr X u l (w_up (w_up I 2760 (0)) 2763 (0)) A B C M3 := hR4
  refine w_adv (n := 1) (F' := (11, [(0, .ref 43)], [.ref 43], M3)) rfl ?_
  refine w_gf (v := .ref 70) hR4 rfl rfl rfl rfl ?_
  refine w_adv (n := 1) (F' := (15, [(0, .ref 43)], [.int (Int32.ofInt (0)), .ref 70], M3)) rfl ?_
  obtain ⟨r5a, r5b, r5c⟩ : 0 ≤ (I 4481) ∧ (I 4481) ≤ (C 70 : Int) ∧ (C 70 : Int) ≤ 131072 := hR4.sz (show 70 ∈ w_TM.2.2 by decide)
  refine w_pf hR4 rfl rfl rfl rfl (show w_in (0) from ⟨by omega, by omega⟩) (fun _ _ => (show 0 ≤ 0 ∧ 0 ≤ (C 70 : Int) by omega)) (fun M6 hR7 => ?_)
  replace hR7 : w_Rep w_TM fr X u l (w_up (w_up (w_up I 2760 (0)) 2763 (0)) 4481 (0)) A B C M6 := hR7
  refine w_adv (n := 1) (F' := (19, [(0, .ref 43)], [.ref 43], M6)) rfl ?_
  refine w_gf (v := .ref 63) hR7 rfl rfl rfl rfl ?_
  refine w_adv (n := 1) (F' := (23, [(0, .ref 43)], [.int (Int32.ofInt (0)), .ref 63], M6)) rfl ?_
  obtain ⟨r8a, r8b, r8c⟩ : 0 ≤ (I 4033) ∧ (I 4033) ≤ (C 63 : Int) ∧ (C 63 : Int) ≤ 131072 := hR7.sz (show 63 ∈ w_TM.2.2 by decide)
  refine w_pf hR7 rfl rfl rfl rfl (show w_in (0) from ⟨by omega, by omega⟩) (fun _ _ => (show 0 ≤ 0 ∧ 0 ≤ (C 63 : Int) by omega)) (fun M9 hR10 => ?_)
  replace hR10 : w_Rep w_TM fr X u l (w_up (w_up (w_up (w_up I 2760 (0)) 2763 (0)) 4481 (0)) 4033 (0)) A B C M9 := hR10
  refine w_adv (n := 1) (F' := (27, [(0, .ref 43)], [.ref 43], M9)) rfl ?_
  refine w_gf (v := .ref 65) hR10 rfl rfl rfl rfl ?_
  refine w_adv (n := 1) (F' := (31, [(0, .ref 43)], [.int (Int32.ofInt (0)), .ref 65], M9)) rfl ?_
  obtain ⟨r11a, r11b, r11c⟩ : 0 ≤ (I 4161) ∧ (I 4161) ≤ (C 65 : Int) ∧ (C 65 : Int) ≤ 131072 := hR10.sz (show 65 ∈ w_TM.2.2 by decide)
  refine w_pf hR10 rfl rfl rfl rfl (show w_in (0) from ⟨by omega, by omega⟩) (fun _ _ => (show 0 ≤ 0 ∧ 0 ≤ (C 65 : Int) by omega)) (fun M12 hR13 => ?_)
  replace hR13 : w_Rep w_TM fr X u l (w_up (w_up (w_up (w_up (w_up I 2760 (0)) 2763 (0)) 4481 (0)) 4033 (0)) 4161 (0)) A B C M12 := hR13
  refine w_adv (n := 1) (F' := (35, [(0, .ref 43)], [.ref 43], M12)) rfl ?_
  refine w_gf (v := .ref 67) hR13 rfl rfl rfl rfl ?_
  refine w_adv (n := 1) (F' := (39, [(0, .ref 43)], [.int (Int32.ofInt (0)), .ref 67], M12)) rfl ?_
  obtain ⟨r14a, r14b, r14c⟩ : 0 ≤ (I 4289) ∧ (I 4289) ≤ (C 67 : Int) ∧ (C 67 : Int) ≤ 131072 := hR13.sz (show 67 ∈ w_TM.2.2 by decide)
  refine w_pf hR13 rfl rfl rfl rfl (show w_in (0) from ⟨by omega, by omega⟩) (fun _ _ => (show 0 ≤ 0 ∧ 0 ≤ (C 67 : Int) by omega)) (fun M15 hR16 => ?_)
  replace hR16 : w_Rep w_TM fr X u l (w_up (w_up (w_up (w_up (w_up (w_up I 2760 (0)) 2763 (0)) 4481 (0)) 4033 (0)) 4161 (0)) 4289 (0)) A B C M15 := hR16
  refine w_adv (n := 1) (F' := (43, [(0, .ref 43)], [.ref 43], M15)) rfl ?_
  refine w_gf (v := .ref 72) hR16 rfl rfl rfl rfl ?_
  refine w_adv (n := 1) (F' := (47, [(0, .ref 43)], [.int (Int32.ofInt (0)), .ref 72], M15)) rfl ?_
  obtain ⟨r17a, r17b, r17c⟩ : 0 ≤ (I 4609) ∧ (I 4609) ≤ (C 72 : Int) ∧ (C 72 : Int) ≤ 131072 := hR16.sz (show 72 ∈ w_TM.2.2 by decide)
  refine w_pf hR16 rfl rfl rfl rfl (show w_in (0) from ⟨by omega, by omega⟩) (fun _ _ => (show 0 ≤ 0 ∧ 0 ≤ (C 72 : Int) by omega)) (fun M18 hR19 => ?_)
  replace hR19 : w_Rep w_TM fr X u l (w_up (w_up (w_up (w_up (w_up (w_up (w_up I 2760 (0)) 2763 (0)) 4481 (0)) 4033 (0)) 4161 (0)) 4289 (0)) 4609 (0)) A B C M18 := hR19
  refine w_adv (n := 1) (F' := (51, [(0, .ref 43)], [.ref 43], M18)) rfl ?_
  refine w_gf (v := .ref 74) hR19 rfl rfl rfl rfl ?_
  refine w_adv (n := 1) (F' := (55, [(0, .ref 43)], [.int (Int32.ofInt (0)), .ref 74], M18)) rfl ?_
  obtain ⟨r20a, r20b, r20c⟩ : 0 ≤ (I 4737) ∧ (I 4737) ≤ (C 74 : Int) ∧ (C 74 : Int) ≤ 131072 := hR19.sz (show 74 ∈ w_TM.2.2 by decide)
  refine w_pf hR19 rfl rfl rfl rfl (show w_in (0) from ⟨by omega, by omega⟩) (fun _ _ => (show 0 ≤ 0 ∧ 0 ≤ (C 74 : Int) by omega)) (fun M21 hR22 => ?_)
  replace hR22 : w_Rep w_TM fr X u l (w_up (w_up (w_up (w_up (w_up (w_up (w_up (w_up I 2760 (0)) 2763 (0)) 4481 (0)) 4033 (0)) 4161 (0)) 4289 (0)) 4609 (0)) 4737 (0)) A B C M21 := hR22
  refine w_adv (n := 1) (F' := (59, [(0, .ref 43)], [.ref 43], M21)) rfl ?_
  refine w_gf (v := .ref 76) hR22 rfl rfl rfl rfl ?_
  refine w_adv (n := 1) (F' := (63, [(0, .ref 43)], [.int (Int32.ofInt (0)), .ref 76], M21)) rfl ?_
  obtain ⟨r23a, r23b, r23c⟩ : 0 ≤ (I 4865) ∧ (I 4865) ≤ (C 76 : Int) ∧ (C 76 : Int) ≤ 131072 := hR22.sz (show 76 ∈ w_TM.2.2 by decide)
  refine w_pf hR22 rfl rfl rfl rfl (show w_in (0) from ⟨by omega, by omega⟩) (fun _ _ => (show 0 ≤ 0 ∧ 0 ≤ (C 76 : Int) by omega)) (fun M24 hR25 => ?_)
  replace hR25 : w_Rep w_TM fr X u l (w_up (w_up (w_up (w_up (w_up (w_up (w_up (w_up (w_up I 2760 (0)) 2763 (0)) 4481 (0)) 4033 (0)) 4161 (0)) 4289 (0)) 4609 (0)) 4737 (0)) 4865 (0)) A B C M24 := hR25
  refine w_adv (n := 1) (F' := (67, [(0, .ref 43)], [.ref 43], M24)) rfl ?_
  refine w_gf (v := .ref 78) hR25 rfl rfl rfl rfl ?_
  refine w_adv (n := 1) (F' := (71, [(0, .ref 43)], [.int (Int32.ofInt (0)), .ref 78], M24)) rfl ?_
  obtain ⟨r26a, r26b, r26c⟩ : 0 ≤ (I 4993) ∧ (I 4993) ≤ (C 78 : Int) ∧ (C 78 : Int) ≤ 131072 := hR25.sz (show 78 ∈ w_TM.2.2 by decide)
  refine w_pf hR25 rfl rfl rfl rfl (show w_in (0) from ⟨by omega, by omega⟩) (fun _ _ => (show 0 ≤ 0 ∧ 0 ≤ (C 78 : Int) by omega)) (fun M27 hR28 => ?_)
  replace hR28 : w_Rep w_TM fr X u l (w_up (w_up (w_up (w_up (w_up (w_up (w_up (w_up (w_up (w_up I 2760 (0)) 2763 (0)) 4481 (0)) 4033 (0)) 4161 (0)) 4289 (0)) 4609 (0)) 4737 (0)) 4865 (0)) 4993 (0)) A B C M27 := hR28
  refine w_adv (n := 1) (F' := (75, [(0, .ref 43)], [.ref 43], M27)) rfl ?_
  refine w_gf (v := .ref 80) hR28 rfl rfl rfl rfl ?_
  refine w_adv (n := 1) (F' := (79, [(0, .ref 43)], [.int (Int32.ofInt (0)), .ref 80], M27)) rfl ?_
  obtain ⟨r29a, r29b, r29c⟩ : 0 ≤ (I 5121) ∧ (I 5121) ≤ (C 80 : Int) ∧ (C 80 : Int) ≤ 131072 := hR28.sz (show 80 ∈ w_TM.2.2 by decide)
  refine w_pf hR28 rfl rfl rfl rfl (show w_in (0) from ⟨by omega, by omega⟩) (fun _ _ => (show 0 ≤ 0 ∧ 0 ≤ (C 80 : Int) by omega)) (fun M30 hR31 => ?_)
  replace hR31 : w_Rep w_TM fr X u l (w_up (w_up (w_up (w_up (w_up (w_up (w_up (w_up (w_up (w_up (w_up I 2760 (0)) 2763 (0)) 4481 (0)) 4033 (0)) 4161 (0)) 4289 (0)) 4609 (0)) 4737 (0)) 4865 (0)) 4993 (0)) 5121 (0)) A B C M30 := hR31
  refine w_adv (n := 1) (F' := (83, [(0, .ref 43)], [.ref 43], M30)) rfl ?_
  refine w_gf (v := .ref 82) hR31 rfl rfl rfl rfl ?_
  refine w_adv (n := 1) (F' := (87, [(0, .ref 43)], [.int (Int32.ofInt (0)), .ref 82], M30)) rfl ?_
  obtain ⟨r32a, r32b, r32c⟩ : 0 ≤ (I 5249) ∧ (I 5249) ≤ (C 82 : Int) ∧ (C 82 : Int) ≤ 131072 := hR31.sz (show 82 ∈ w_TM.2.2 by decide)
  refine w_pf hR31 rfl rfl rfl rfl (show w_in (0) from ⟨by omega, by omega⟩) (fun _ _ => (show 0 ≤ 0 ∧ 0 ≤ (C 82 : Int) by omega)) (fun M33 hR34 => ?_)
  replace hR34 : w_Rep w_TM fr X u l (w_up (w_up (w_up (w_up (w_up (w_up (w_up (w_up (w_up (w_up (w_up (w_up I 2760 (0)) 2763 (0)) 4481 (0)) 4033 (0)) 4161 (0)) 4289 (0)) 4609 (0)) 4737 (0)) 4865 (0)) 4993 (0)) 5121 (0)) 5249 (0)) A B C M33 := hR34
  refine w_adv (n := 1) (F' := (91, [(0, .ref 43)], [.ref 43], M33)) rfl ?_
  refine w_gf (v := .ref 84) hR34 rfl rfl rfl rfl ?_
  refine w_adv (n := 1) (F' := (95, [(0, .ref 43)], [.int (Int32.ofInt (0)), .ref 84], M33)) rfl ?_
  obtain ⟨r35a, r35b, r35c⟩ : 0 ≤ (I 5377) ∧ (I 5377) ≤ (C 84 : Int) ∧ (C 84 : Int) ≤ 131072 := hR34.sz (show 84 ∈ w_TM.2.2 by decide)
  refine w_pf hR34 rfl rfl rfl rfl (show w_in (0) from ⟨by omega, by omega⟩) (fun _ _ => (show 0 ≤ 0 ∧ 0 ≤ (C 84 : Int) by omega)) (fun M36 hR37 => ?_)
  replace hR37 : w_Rep w_TM fr X u l (w_up (w_up (w_up (w_up (w_up (w_up (w_up (w_up (w_up (w_up (w_up (w_up (w_up I 2760 (0)) 2763 (0)) 4481 (0)) 4033 (0)) 4161 (0)) 4289 (0)) 4609 (0)) 4737 (0)) 4865 (0)) 4993 (0)) 5121 (0)) 5249 (0)) 5377 (0)) A B C M36 := hR37
  refine w_adv (n := 1) (F' := (99, [(0, .ref 43)], [.ref 43], M36)) rfl ?_
  refine w_gf (v := .ref 86) hR37 rfl rfl rfl rfl ?_
  refine w_adv (n := 1) (F' := (103, [(0, .ref 43)], [.int (Int32.ofInt (0)), .ref 86], M36)) rfl ?_
  obtain ⟨r38a, r38b, r38c⟩ : 0 ≤ (I 5505) ∧ (I 5505) ≤ (C 86 : Int) ∧ (C 86 : Int) ≤ 131072 := hR37.sz (show 86 ∈ w_TM.2.2 by decide)
  refine w_pf hR37 rfl rfl rfl rfl (show w_in (0) from ⟨by omega, by omega⟩) (fun _ _ => (show 0 ≤ 0 ∧ 0 ≤ (C 86 : Int) by omega)) (fun M39 hR40 => ?_)
  replace hR40 : w_Rep w_TM fr X u l (w_up (w_up (w_up (w_up (w_up (w_up (w_up (w_up (w_up (w_up (w_up (w_up (w_up (w_up I 2760 (0)) 2763 (0)) 4481 (0)) 4033 (0)) 4161 (0)) 4289 (0)) 4609 (0)) 4737 (0)) 4865 (0)) 4993 (0)) 5121 (0)) 5249 (0)) 5377 (0)) 5505 (0)) A B C M39 := hR40
  refine w_adv (n := 2) (F' := (108, [(0, .ref 43)], [.int (Int32.ofInt (0)), .ref 43], M39)) rfl ?_
  refine w_pf hR40 rfl rfl rfl rfl (show w_in (0) from ⟨by omega, by omega⟩) (fun h => absurd h (by decide)) (fun M41 hR42 => ?_)
  replace hR42 : w_Rep w_TM fr X u l (w_up (w_up (w_up (w_up (w_up (w_up (w_up (w_up (w_up (w_up (w_up (w_up (w_up (w_up (w_up I 2760 (0)) 2763 (0)) 4481 (0)) 4033 (0)) 4161 (0)) 4289 (0)) 4609 (0)) 4737 (0)) 4865 (0)) 4993 (0)) 5121 (0)) 5249 (0)) 5377 (0)) 5505 (0)) 2776 (0)) A B C M41 := hR42
  refine w_adv (n := 4) (F' := (115, [(2, .int (Int32.ofInt (0))), (1, .int (Int32.ofInt (0))), (0, .ref 43)], [], M41)) rfl ?_
  have lp115 : ∀ fu115 : Nat, ∀ (y115_1 : Int) (y115_2 : Int) (ga115_49 : Int → Int) (ga115_50 : Int → Int) (gi115_2760 : Int) (M_115 : w_M) (hR_115 : w_Rep w_TM fr X u l (w_up (w_up (w_up (w_up (w_up (w_up (w_up (w_up (w_up (w_up (w_up (w_up (w_up (w_up (w_up I 2763 (0)) 4481 (0)) 4033 (0)) 4161 (0)) 4289 (0)) 4609 (0)) 4737 (0)) 4865 (0)) 4993 (0)) 5121 (0)) 5249 (0)) 5377 (0)) 5505 (0)) 2776 (0)) 2760 (gi115_2760)) (w_upF (w_upF A 49 ga115_49) 50 ga115_50) B C M_115), w_in y115_1 → w_in y115_2 → 0 ≤ y115_1 ∧ y115_1 ≤ y115_2 ∧ y115_2 ≤ 57 ∧ (0 ≤ gi115_2760 ∧ gi115_2760 ≤ y115_2) ∧ gi115_2760 ≤ 100 ∧ gi115_2760 = m_cF y115_2 ∧ ga115_49 (gi115_2760) = y115_1 - gi115_2760 → m_N1 ga115_49 → 57 - y115_2 < (fu115 : Int) → w_W (z_P L xs) (d + 1) 206 (115, [(0, .ref 43), (1, .int (Int32.ofInt (y115_1))), (2, .int (Int32.ofInt (y115_2)))], [], M_115) (m_begin_Q fr X u l I A B C M) := by
    intro fu115
    induction fu115 with
    | zero =>
      intro y115_1 y115_2 ga115_49 ga115_50 gi115_2760 M_115 hR_115 ⟨ra_y115_1, rb_y115_1⟩ ⟨ra_y115_2, rb_y115_2⟩ hi115_0 hi115_1 hn115
      exfalso
      omega
    | succ fu115 ih115 =>
      intro y115_1 y115_2 ga115_49 ga115_50 gi115_2760 M_115 hR_115 ⟨ra_y115_1, rb_y115_1⟩ ⟨ra_y115_2, rb_y115_2⟩ hi115_0 hi115_1 hn115
      refine w_adv (n := 2) (F' := (118, [(0, .ref 43), (1, .int (Int32.ofInt (y115_1))), (2, .int (Int32.ofInt (y115_2)))], [.ref 1000008, .int (Int32.ofInt (y115_2))], M_115)) rfl ?_
      refine w_callT (cm := 8) (as := [(0, .ref 1000008)]) (rest := [.int (Int32.ofInt (y115_2))]) rfl (m_lenF (by omega)) (fun r43 M44 q45 => ?_)
      obtain ⟨e47, e48⟩ := q45
      rw [e47, e48]
      show w_W _ _ _ (121, [(0, .ref 43), (1, .int (Int32.ofInt (y115_1))), (2, .int (Int32.ofInt (y115_2)))], [.int (Int32.ofInt (57)), .int (Int32.ofInt (y115_2))], M_115) _
      refine w_br2 (a := y115_2) (b := 57) rfl rfl ⟨by omega, by omega⟩ ⟨by omega, by omega⟩ (fun h52 => ?_) (fun h52 => ?_)
      · have h52 : y115_2 ≥ 57 := h52
        show w_W _ _ _ (217, [(0, .ref 43), (1, .int (Int32.ofInt (y115_1))), (2, .int (Int32.ofInt (y115_2)))], [], M_115) _
        refine w_adv (n := 4) (F' := (221, [(2, .int (Int32.ofInt (0))), (1, .int (Int32.ofInt (0))), (0, .ref 43)], [], M_115)) rfl ?_
        have lp221 : ∀ fu221 : Nat, ∀ (y221_1 : Int) (y221_2 : Int) (I_221 : Nat → Int) (A_221 : Nat → Int → Int) (B_221 C_221 : Nat → Nat) (M_221 : w_M) (hR_221 : w_Rep w_TM fr X u l I_221 A_221 B_221 C_221 M_221), w_in y221_1 → w_in y221_2 → 0 ≤ y221_1 ∧ y221_1 ≤ y221_2 ∧ y221_2 ≤ 49 ∧ (0 ≤ (I_221 2763) ∧ (I_221 2763) ≤ y221_2) ∧ (I_221 2763) ≤ 100 ∧ (I_221 2763) = m_cB y221_2 ∧ (A_221 51) ((I_221 2763)) = y221_1 - (I_221 2763) → ((I_221 4481) = (I_221 2763) ∧ (I_221 4033) = (I_221 2763) ∧ (I_221 4161) = (I_221 2763) ∧ (I_221 4289) = (I_221 2763)) ∧ ((I_221 4609) = 0 ∧ (I_221 4737) = 0 ∧ (I_221 4865) = 0 ∧ (I_221 4993) = 0 ∧ (I_221 5121) = 0 ∧ (I_221 5249) = 0 ∧ (I_221 5377) = 0 ∧ (I_221 5505) = 0) ∧ ((I_221 2753) = (I 2753) ∧ (I_221 3393) = (I 3393) ∧ (I_221 3521) = (I 3521) ∧ (I_221 3649) = (I 3649) ∧ (I_221 3777) = (I 3777) ∧ (I_221 3905) = (I 3905) ∧ (I_221 5633) = (I 5633) ∧ (I_221 5761) = (I 5761) ∧ (I_221 5889) = (I 5889) ∧ (I_221 6017) = (I 6017)) ∧ 0 ≤ (I_221 2760) ∧ (I_221 2760) ≤ 100 → m_N1 (A_221 49) → m_N1 (A_221 51) → m_BG A_221 (I_221 4033) → 49 - y221_2 < (fu221 : Int) → w_W (z_P L xs) (d + 1) 206 (221, [(0, .ref 43), (1, .int (Int32.ofInt (y221_1))), (2, .int (Int32.ofInt (y221_2)))], [], M_221) (m_begin_Q fr X u l I A B C M) := by
          intro fu221
          induction fu221 with
          | zero =>
            intro y221_1 y221_2 I_221 A_221 B_221 C_221 M_221 hR_221 ⟨ra_y221_1, rb_y221_1⟩ ⟨ra_y221_2, rb_y221_2⟩ hi221_0 hi221_1 hi221_2 hi221_3 hi221_4 hn221
            exfalso
            omega
          | succ fu221 ih221 =>
            intro y221_1 y221_2 I_221 A_221 B_221 C_221 M_221 hR_221 ⟨ra_y221_1, rb_y221_1⟩ ⟨ra_y221_2, rb_y221_2⟩ hi221_0 hi221_1 hi221_2 hi221_3 hi221_4 hn221
            refine w_adv (n := 2) (F' := (224, [(0, .ref 43), (1, .int (Int32.ofInt (y221_1))), (2, .int (Int32.ofInt (y221_2)))], [.ref 1000010, .int (Int32.ofInt (y221_2))], M_221)) rfl ?_
            refine w_callT (cm := 8) (as := [(0, .ref 1000010)]) (rest := [.int (Int32.ofInt (y221_2))]) rfl (m_lenB (by omega)) (fun r53 M54 q55 => ?_)
            obtain ⟨e57, e58⟩ := q55
            rw [e57, e58]
            show w_W _ _ _ (227, [(0, .ref 43), (1, .int (Int32.ofInt (y221_1))), (2, .int (Int32.ofInt (y221_2)))], [.int (Int32.ofInt (49)), .int (Int32.ofInt (y221_2))], M_221) _
            refine w_br2 (a := y221_2) (b := 49) rfl rfl ⟨by omega, by omega⟩ ⟨by omega, by omega⟩ (fun h62 => ?_) (fun h62 => ?_)
            · have h62 : y221_2 ≥ 49 := h62
              show w_W _ _ _ (373, [(0, .ref 43), (1, .int (Int32.ofInt (y221_1))), (2, .int (Int32.ofInt (y221_2)))], [], M_221) _
              have ye : y221_2 = 49 := by omega
              rw [ye] at hi221_0
              refine w_fin (r := .inl none) (M' := M_221) rfl ?_
              exact ⟨I_221, A_221, B_221, C_221, rfl, hR_221, (show ((I_221 4481) = 7 ∧ (I_221 4033) = 7 ∧ (I_221 4161) = 7 ∧ (I_221 4289) = 7) ∧ ((I_221 4609) = 0 ∧ (I_221 4737) = 0 ∧ (I_221 4865) = 0 ∧ (I_221 4993) = 0 ∧ (I_221 5121) = 0 ∧ (I_221 5249) = 0 ∧ (I_221 5377) = 0 ∧ (I_221 5505) = 0) ∧ ((I_221 2753) = (I 2753) ∧ (I_221 3393) = (I 3393) ∧ (I_221 3521) = (I 3521) ∧ (I_221 3649) = (I 3649) ∧ (I_221 3777) = (I 3777) ∧ (I_221 3905) = (I 3905) ∧ (I_221 5633) = (I 5633) ∧ (I_221 5761) = (I 5761) ∧ (I_221 5889) = (I 5889) ∧ (I_221 6017) = (I 6017)) by (repeat' apply And.intro) <;> first | assumption | omega), (show m_NA I_221 A_221 by exact ⟨⟨by omega, by omega, by omega⟩, fun i q0 q1 => ⟨hi221_2 i q0 q1, hi221_3 i q0 q1⟩⟩), (show m_BG A_221 7 by have bgq := hi221_4; rw [show (I_221 4033) = 7 by omega] at bgq; exact bgq)⟩
            · have h62 : ¬ (y221_2 ≥ 49) := h62
              show w_W _ _ _ (230, [(0, .ref 43), (1, .int (Int32.ofInt (y221_1))), (2, .int (Int32.ofInt (y221_2)))], [], M_221) _
              refine w_adv (n := 2) (F' := (233, [(0, .ref 43), (1, .int (Int32.ofInt (y221_1))), (2, .int (Int32.ofInt (y221_2)))], [.int (Int32.ofInt (y221_2)), .ref 1000010], M_221)) rfl ?_
              refine w_callT (cm := 10) (as := [(0, .ref 1000010), (1, .int (Int32.ofInt (y221_2)))]) (rest := []) rfl (m_chB (by omega) (y221_2) (show 0 ≤ y221_2 by omega) (show y221_2 < 49 by omega)) (fun r63 M64 q65 => ?_)
              obtain ⟨v66, e67, e68, ⟨r69, r70⟩, f71⟩ := q65
              rw [e67, e68]
              show w_W _ _ _ (236, [(0, .ref 43), (1, .int (Int32.ofInt (y221_1))), (2, .int (Int32.ofInt (y221_2)))], [.int (Int32.ofInt (v66))], M_221) _
              have ck236 := m_cB_ok (k := y221_2) (by omega) (by omega)
              rw [← f71] at ck236
              refine w_adv (n := 1) (F' := (238, [(0, .ref 43), (1, .int (Int32.ofInt (y221_1))), (2, .int (Int32.ofInt (y221_2)))], [.int (Int32.ofInt (32)), .int (Int32.ofInt (v66))], M_221)) rfl ?_
              refine w_br2 (a := v66) (b := 32) rfl rfl ⟨by omega, by omega⟩ ⟨by omega, by omega⟩ (fun h72 => ?_) (fun h72 => ?_)
              · have h72 : ¬ v66 = 32 := h72
                show w_W _ _ _ (367, [(0, .ref 43), (1, .int (Int32.ofInt (y221_1))), (2, .int (Int32.ofInt (y221_2)))], [], M_221) _
                refine w_inc (nL := 5) (a := y221_2) rfl rfl rfl (by decide) ?_
                refine w_adv (n := 1) (F' := (221, [(2, .int (Int32.ofInt (y221_2 + 1))), (0, .ref 43), (1, .int (Int32.ofInt (y221_1)))], [], M_221)) rfl ?_
                refine w_ls (ls := [(0, .ref 43), (1, .int (Int32.ofInt (y221_1))), (2, .int (Int32.ofInt (y221_2 + 1)))]) (show List.Nodup [0, 1, 2] by decide) (show List.Nodup [2, 0, 1] by decide) (List.forall_mem_cons.mpr ⟨(List.Mem.tail _ (List.Mem.head _)), (List.forall_mem_cons.mpr ⟨(List.Mem.tail _ (List.Mem.tail _ (List.Mem.head _))), (List.forall_mem_cons.mpr ⟨(List.Mem.head _), (fun _ h => by cases h)⟩)⟩)⟩) ?_
                exact ih221  (y221_1) (y221_2 + 1) I_221 A_221 B_221 C_221 M_221 hR_221 ⟨by omega, by omega⟩ ⟨by omega, by omega⟩ (show 0 ≤ y221_1 ∧ y221_1 ≤ (y221_2 + 1) ∧ (y221_2 + 1) ≤ 49 ∧ (0 ≤ (I_221 2763) ∧ (I_221 2763) ≤ (y221_2 + 1)) ∧ (I_221 2763) ≤ 100 ∧ (I_221 2763) = m_cB (y221_2 + 1) ∧ (A_221 51) ((I_221 2763)) = y221_1 - (I_221 2763) by first | omega | (refine ⟨by omega, by omega, by omega, by omega, by omega, by omega, ?_⟩; unfold w_upA; rw [if_pos (by omega)]; omega)) (show ((I_221 4481) = (I_221 2763) ∧ (I_221 4033) = (I_221 2763) ∧ (I_221 4161) = (I_221 2763) ∧ (I_221 4289) = (I_221 2763)) ∧ ((I_221 4609) = 0 ∧ (I_221 4737) = 0 ∧ (I_221 4865) = 0 ∧ (I_221 4993) = 0 ∧ (I_221 5121) = 0 ∧ (I_221 5249) = 0 ∧ (I_221 5377) = 0 ∧ (I_221 5505) = 0) ∧ ((I_221 2753) = (I 2753) ∧ (I_221 3393) = (I 3393) ∧ (I_221 3521) = (I 3521) ∧ (I_221 3649) = (I 3649) ∧ (I_221 3777) = (I 3777) ∧ (I_221 3905) = (I 3905) ∧ (I_221 5633) = (I 5633) ∧ (I_221 5761) = (I 5761) ∧ (I_221 5889) = (I 5889) ∧ (I_221 6017) = (I 6017)) ∧ 0 ≤ (I_221 2760) ∧ (I_221 2760) ≤ 100 by (repeat' apply And.intro) <;> first | assumption | omega) (show m_N1 (A_221 49) by first | exact hi221_2 | first | exact hi115_1 | exact m_N1_up hi115_1 ⟨by omega, by omega⟩ | exact (fun i q0 q1 => (hNA.2 i q0 q1).1)) (show m_N1 (A_221 51) by first | exact hi221_3 | exact m_N1_up hi221_3 ⟨by omega, by omega⟩ | exact (fun i q0 q1 => (hNA.2 i q0 q1).2)) (show m_BG A_221 (I_221 4033) by first | exact hi221_4 | exact (fun i q0 q1 => by omega)) (show 49 - (y221_2 + 1) < (fu221 : Int) by omega)
              · have h72 : ¬ (¬ v66 = 32) := h72
                show w_W _ _ _ (241, [(0, .ref 43), (1, .int (Int32.ofInt (y221_1))), (2, .int (Int32.ofInt (y221_2)))], [], M_221) _
                have n1 := hi221_3 ((I_221 2763)) (by omega) (by omega)
                refine w_adv (n := 2) (F' := (243, [(3, .int (Int32.ofInt (y221_1))), (0, .ref 43), (1, .int (Int32.ofInt (y221_1))), (2, .int (Int32.ofInt (y221_2)))], [], M_221)) rfl ?_
                have lp243 : ∀ fu243 : Nat, ∀ (y243_3 : Int) (ga243_52 : Int → Int) (M_243 : w_M) (hR_243 : w_Rep w_TM fr X u l I_221 (w_upF A_221 52 ga243_52) B_221 C_221 M_243), w_in y243_3 → y221_1 ≤ y243_3 ∧ y243_3 ≤ y221_2 → y221_2 - y243_3 < (fu243 : Int) → w_W (z_P L xs) (d + 1) 206 (243, [(0, .ref 43), (1, .int (Int32.ofInt (y221_1))), (2, .int (Int32.ofInt (y221_2))), (3, .int (Int32.ofInt (y243_3)))], [], M_243) (m_begin_Q fr X u l I A B C M) := by
                  intro fu243
                  induction fu243 with
                  | zero =>
                    intro y243_3 ga243_52 M_243 hR_243 ⟨ra_y243_3, rb_y243_3⟩ hi243_0 hn243
                    exfalso
                    omega
                  | succ fu243 ih243 =>
                    intro y243_3 ga243_52 M_243 hR_243 ⟨ra_y243_3, rb_y243_3⟩ hi243_0 hn243
                    refine w_adv (n := 2) (F' := (245, [(0, .ref 43), (1, .int (Int32.ofInt (y221_1))), (2, .int (Int32.ofInt (y221_2))), (3, .int (Int32.ofInt (y243_3)))], [.int (Int32.ofInt (y221_2)), .int (Int32.ofInt (y243_3))], M_243)) rfl ?_
                    refine w_br2 (a := y243_3) (b := y221_2) rfl rfl ⟨by omega, by omega⟩ ⟨by omega, by omega⟩ (fun h73 => ?_) (fun h73 => ?_)
                    · have h73 : y243_3 ≥ y221_2 := h73
                      show w_W _ _ _ (279, [(0, .ref 43), (1, .int (Int32.ofInt (y221_1))), (2, .int (Int32.ofInt (y221_2))), (3, .int (Int32.ofInt (y243_3)))], [], M_243) _
                      refine w_adv (n := 1) (F' := (280, [(0, .ref 43), (1, .int (Int32.ofInt (y221_1))), (2, .int (Int32.ofInt (y221_2))), (3, .int (Int32.ofInt (y243_3)))], [.ref 43], M_243)) rfl ?_
                      refine w_gf (v := .ref 51) hR_243 rfl rfl rfl rfl ?_
                      refine w_adv (n := 1) (F' := (284, [(0, .ref 43), (1, .int (Int32.ofInt (y221_1))), (2, .int (Int32.ofInt (y221_2))), (3, .int (Int32.ofInt (y243_3)))], [.ref 43, .ref 51], M_243)) rfl ?_
                      refine w_gf (v := .int (Int32.ofInt ((I_221 2763)))) hR_243 rfl rfl rfl rfl ?_
                      obtain ⟨r74, r75⟩ : -2147483648 ≤ (I_221 2763) ∧ (I_221 2763) ≤ 2147483647 := hR_243.ri 2763
                      refine w_adv (n := 1) (F' := (288, [(0, .ref 43), (1, .int (Int32.ofInt (y221_1))), (2, .int (Int32.ofInt (y221_2))), (3, .int (Int32.ofInt (y243_3)))], [.int (Int32.ofInt (1)), .int (Int32.ofInt ((I_221 2763))), .ref 51], M_243)) rfl ?_
                      refine w_add rfl ?_
                      refine w_adv (n := 1) (F' := (290, [(0, .ref 43), (1, .int (Int32.ofInt (y221_1))), (2, .int (Int32.ofInt (y221_2))), (3, .int (Int32.ofInt (y243_3)))], [.ref 43, .int (Int32.ofInt ((I_221 2763) + 1)), .ref 51], M_243)) rfl ?_
                      refine w_gf (v := .ref 51) hR_243 rfl rfl rfl rfl ?_
                      refine w_adv (n := 1) (F' := (294, [(0, .ref 43), (1, .int (Int32.ofInt (y221_1))), (2, .int (Int32.ofInt (y221_2))), (3, .int (Int32.ofInt (y243_3)))], [.ref 43, .ref 51, .int (Int32.ofInt ((I_221 2763) + 1)), .ref 51], M_243)) rfl ?_
                      refine w_gf (v := .int (Int32.ofInt ((I_221 2763)))) hR_243 rfl rfl rfl rfl ?_
                      refine w_la (n := 402) hR_243 rfl (Or.inl ⟨rfl, rfl⟩) rfl (show 0 ≤ (I_221 2763) by omega) (show (I_221 2763) < (402 : Int) by omega) (by decide) ?_
                      obtain ⟨r76, r77⟩ : -2147483648 ≤ (A_221 51) ((I_221 2763)) ∧ (A_221 51) ((I_221 2763)) ≤ 2147483647 := hR_243.ra 51 ((I_221 2763))
                      show w_W _ _ _ (298, [(0, .ref 43), (1, .int (Int32.ofInt (y221_1))), (2, .int (Int32.ofInt (y221_2))), (3, .int (Int32.ofInt (y243_3)))], [.int (Int32.ofInt ((A_221 51) ((I_221 2763)))), .int (Int32.ofInt ((I_221 2763) + 1)), .ref 51], M_243) _
                      refine w_adv (n := 1) (F' := (299, [(0, .ref 43), (1, .int (Int32.ofInt (y221_1))), (2, .int (Int32.ofInt (y221_2))), (3, .int (Int32.ofInt (y243_3)))], [.int (Int32.ofInt (y221_2)), .int (Int32.ofInt ((A_221 51) ((I_221 2763)))), .int (Int32.ofInt ((I_221 2763) + 1)), .ref 51], M_243)) rfl ?_
                      refine w_add rfl ?_
                      refine w_adv (n := 1) (F' := (301, [(0, .ref 43), (1, .int (Int32.ofInt (y221_1))), (2, .int (Int32.ofInt (y221_2))), (3, .int (Int32.ofInt (y243_3)))], [.int (Int32.ofInt (y221_1)), .int (Int32.ofInt (((A_221 51) ((I_221 2763))) + y221_2)), .int (Int32.ofInt ((I_221 2763) + 1)), .ref 51], M_243)) rfl ?_
                      refine w_sub rfl ?_
                      refine w_sai (n := 402) hR_243 rfl rfl (show 0 ≤ (I_221 2763) + 1 by omega) (show (I_221 2763) + 1 < (402 : Int) by omega) (by decide) (show w_in ((((A_221 51) ((I_221 2763))) + y221_2) - y221_1) from ⟨by omega, by omega⟩) (fun M78 hR79 => ?_)
                      replace hR79 : w_Rep w_TM fr X u l I_221 (w_upF (w_upF A_221 52 ga243_52) 51 (w_upA (A_221 51) ((I_221 2763) + 1) ((((A_221 51) ((I_221 2763))) + y221_2) - y221_1))) B_221 C_221 M78 := hR79
                      refine w_adv (n := 2) (F' := (305, [(0, .ref 43), (1, .int (Int32.ofInt (y221_1))), (2, .int (Int32.ofInt (y221_2))), (3, .int (Int32.ofInt (y243_3)))], [.ref 43, .ref 43], M78)) rfl ?_
                      refine w_gf (v := .int (Int32.ofInt ((I_221 2763)))) hR79 rfl rfl rfl rfl ?_
                      refine w_adv (n := 1) (F' := (309, [(0, .ref 43), (1, .int (Int32.ofInt (y221_1))), (2, .int (Int32.ofInt (y221_2))), (3, .int (Int32.ofInt (y243_3)))], [.int (Int32.ofInt (1)), .int (Int32.ofInt ((I_221 2763))), .ref 43], M78)) rfl ?_
                      refine w_add rfl ?_
                      refine w_pf hR79 rfl rfl rfl rfl (show w_in ((I_221 2763) + 1) from ⟨by omega, by omega⟩) (fun h => absurd h (by decide)) (fun M80 hR81 => ?_)
                      replace hR81 : w_Rep w_TM fr X u l (w_up I_221 2763 ((I_221 2763) + 1)) (w_upF (w_upF A_221 52 ga243_52) 51 (w_upA (A_221 51) ((I_221 2763) + 1) ((((A_221 51) ((I_221 2763))) + y221_2) - y221_1))) B_221 C_221 M80 := hR81
                      refine w_adv (n := 2) (F' := (315, [(0, .ref 43), (1, .int (Int32.ofInt (y221_1))), (2, .int (Int32.ofInt (y221_2))), (3, .int (Int32.ofInt (y243_3)))], [.int (Int32.ofInt (1)), .int (Int32.ofInt (y221_2))], M80)) rfl ?_
                      refine w_add rfl ?_
                      refine w_adv (n := 2) (F' := (318, [(1, .int (Int32.ofInt (y221_2 + 1))), (0, .ref 43), (2, .int (Int32.ofInt (y221_2))), (3, .int (Int32.ofInt (y243_3)))], [.ref 43], M80)) rfl ?_
                      refine w_gf (v := .ref 70) hR81 rfl rfl rfl rfl ?_
                      refine w_adv (n := 1) (F' := (322, [(1, .int (Int32.ofInt (y221_2 + 1))), (0, .ref 43), (2, .int (Int32.ofInt (y221_2))), (3, .int (Int32.ofInt (y243_3)))], [.ref 43, .ref 70], M80)) rfl ?_
                      refine w_gf (v := .int (Int32.ofInt ((I_221 2763) + 1))) hR81 rfl rfl rfl rfl ?_
                      refine w_adv (n := 1) (F' := (326, [(1, .int (Int32.ofInt (y221_2 + 1))), (0, .ref 43), (2, .int (Int32.ofInt (y221_2))), (3, .int (Int32.ofInt (y243_3)))], [.int (Int32.ofInt (1)), .int (Int32.ofInt ((I_221 2763) + 1)), .ref 70], M80)) rfl ?_
                      refine w_sub rfl ?_
                      obtain ⟨r82a, r82b, r82c⟩ : 0 ≤ (I_221 4481) ∧ (I_221 4481) ≤ (C_221 70 : Int) ∧ (C_221 70 : Int) ≤ 131072 := hR81.sz (show 70 ∈ w_TM.2.2 by decide)
                      refine w_call (cm := 207) (as := [(0, .ref 70), (1, .int (Int32.ofInt (((I_221 2763) + 1) - 1)))]) (rest := []) (o := some (10, 70)) rfl (w_fitR hR81 rfl) (m_add (((I_221 2763) + 1) - 1) 70 (by decide) rfl hR81 ⟨by omega, by omega⟩ (show (I_221 4481) < 65536 by first | assumption | omega)) (fun r83 M84 q85 => ?_)
                      rcases q85 with ⟨g85a, b85a, c85a, e86, hR85a, f87, f88⟩
                      rw [e86]
                      replace hR85a : w_Rep w_TM fr X u l (w_up (w_up I_221 2763 ((I_221 2763) + 1)) 4481 ((I_221 4481) + 1)) (w_upF (w_upF (w_upF A_221 52 ga243_52) 51 (w_upA (A_221 51) ((I_221 2763) + 1) ((((A_221 51) ((I_221 2763))) + y221_2) - y221_1))) 70 g85a) (w_upN B_221 70 b85a) (w_upN C_221 70 c85a) M84 := hR85a
                      replace f87 : ∀ i, 0 ≤ i → i < (I_221 4481) → g85a i = (A_221 70) i := f87
                      replace f88 : g85a ((I_221 4481)) = ((I_221 2763) + 1) - 1 := f88
                      skip
                      show w_W _ _ _ (330, [(1, .int (Int32.ofInt (y221_2 + 1))), (0, .ref 43), (2, .int (Int32.ofInt (y221_2))), (3, .int (Int32.ofInt (y243_3)))], [.int (Int32.ofInt ((I_221 4481)))], M84) _
                      refine w_adv (n := 2) (F' := (332, [(3, .int (Int32.ofInt ((I_221 4481)))), (1, .int (Int32.ofInt (y221_2 + 1))), (0, .ref 43), (2, .int (Int32.ofInt (y221_2)))], [.ref 43], M84)) rfl ?_
                      refine w_gf (v := .ref 63) hR85a rfl rfl rfl rfl ?_
                      refine w_adv (n := 1) (F' := (336, [(3, .int (Int32.ofInt ((I_221 4481)))), (1, .int (Int32.ofInt (y221_2 + 1))), (0, .ref 43), (2, .int (Int32.ofInt (y221_2)))], [.ref 43, .ref 63], M84)) rfl ?_
                      refine w_gf (v := .int (Int32.ofInt ((I_221 2763) + 1))) hR85a rfl rfl rfl rfl ?_
                      refine w_adv (n := 1) (F' := (340, [(3, .int (Int32.ofInt ((I_221 4481)))), (1, .int (Int32.ofInt (y221_2 + 1))), (0, .ref 43), (2, .int (Int32.ofInt (y221_2)))], [.int (Int32.ofInt (1)), .int (Int32.ofInt ((I_221 2763) + 1)), .ref 63], M84)) rfl ?_
                      refine w_sub rfl ?_
                      obtain ⟨r89a, r89b, r89c⟩ : 0 ≤ (I_221 4033) ∧ (I_221 4033) ≤ (C_221 63 : Int) ∧ (C_221 63 : Int) ≤ 131072 := hR85a.sz (show 63 ∈ w_TM.2.2 by decide)
                      refine w_call (cm := 207) (as := [(0, .ref 63), (1, .int (Int32.ofInt (((I_221 2763) + 1) - 1)))]) (rest := []) (o := some (10, 63)) rfl (w_fitR hR85a rfl) (m_add (((I_221 2763) + 1) - 1) 63 (by decide) rfl hR85a ⟨by omega, by omega⟩ (show (I_221 4033) < 65536 by first | assumption | omega)) (fun r90 M91 q92 => ?_)
                      rcases q92 with ⟨g92a, b92a, c92a, e93, hR92a, f94, f95⟩
                      rw [e93]
                      replace hR92a : w_Rep w_TM fr X u l (w_up (w_up (w_up I_221 2763 ((I_221 2763) + 1)) 4481 ((I_221 4481) + 1)) 4033 ((I_221 4033) + 1)) (w_upF (w_upF (w_upF (w_upF A_221 52 ga243_52) 51 (w_upA (A_221 51) ((I_221 2763) + 1) ((((A_221 51) ((I_221 2763))) + y221_2) - y221_1))) 70 g85a) 63 g92a) (w_upN (w_upN B_221 70 b85a) 63 b92a) (w_upN (w_upN C_221 70 c85a) 63 c92a) M91 := hR92a
                      replace f94 : ∀ i, 0 ≤ i → i < (I_221 4033) → g92a i = (A_221 63) i := f94
                      replace f95 : g92a ((I_221 4033)) = ((I_221 2763) + 1) - 1 := f95
                      skip
                      show w_W _ _ _ (344, [(3, .int (Int32.ofInt ((I_221 4481)))), (1, .int (Int32.ofInt (y221_2 + 1))), (0, .ref 43), (2, .int (Int32.ofInt (y221_2)))], [.int (Int32.ofInt ((I_221 4033)))], M91) _
                      refine w_adv (n := 2) (F' := (347, [(4, .int (Int32.ofInt ((I_221 4033)))), (3, .int (Int32.ofInt ((I_221 4481)))), (1, .int (Int32.ofInt (y221_2 + 1))), (0, .ref 43), (2, .int (Int32.ofInt (y221_2)))], [.ref 43], M91)) rfl ?_
                      refine w_gf (v := .ref 65) hR92a rfl rfl rfl rfl ?_
                      refine w_adv (n := 1) (F' := (351, [(4, .int (Int32.ofInt ((I_221 4033)))), (3, .int (Int32.ofInt ((I_221 4481)))), (1, .int (Int32.ofInt (y221_2 + 1))), (0, .ref 43), (2, .int (Int32.ofInt (y221_2)))], [.int (Int32.ofInt ((I_221 4481))), .ref 65], M91)) rfl ?_
                      obtain ⟨r96a, r96b, r96c⟩ : 0 ≤ (I_221 4161) ∧ (I_221 4161) ≤ (C_221 65 : Int) ∧ (C_221 65 : Int) ≤ 131072 := hR92a.sz (show 65 ∈ w_TM.2.2 by decide)
                      refine w_call (cm := 207) (as := [(0, .ref 65), (1, .int (Int32.ofInt ((I_221 4481))))]) (rest := []) (o := some (10, 65)) rfl (w_fitR hR92a rfl) (m_add ((I_221 4481)) 65 (by decide) rfl hR92a ⟨by omega, by omega⟩ (show (I_221 4161) < 65536 by first | assumption | omega)) (fun r97 M98 q99 => ?_)
                      rcases q99 with ⟨g99a, b99a, c99a, e100, hR99a, f101, f102⟩
                      rw [e100]
                      replace hR99a : w_Rep w_TM fr X u l (w_up (w_up (w_up (w_up I_221 2763 ((I_221 2763) + 1)) 4481 ((I_221 4481) + 1)) 4033 ((I_221 4033) + 1)) 4161 ((I_221 4161) + 1)) (w_upF (w_upF (w_upF (w_upF (w_upF A_221 52 ga243_52) 51 (w_upA (A_221 51) ((I_221 2763) + 1) ((((A_221 51) ((I_221 2763))) + y221_2) - y221_1))) 70 g85a) 63 g92a) 65 g99a) (w_upN (w_upN (w_upN B_221 70 b85a) 63 b92a) 65 b99a) (w_upN (w_upN (w_upN C_221 70 c85a) 63 c92a) 65 c99a) M98 := hR99a
                      replace f101 : ∀ i, 0 ≤ i → i < (I_221 4161) → g99a i = (A_221 65) i := f101
                      replace f102 : g99a ((I_221 4161)) = (I_221 4481) := f102
                      skip
                      show w_W _ _ _ (354, [(4, .int (Int32.ofInt ((I_221 4033)))), (3, .int (Int32.ofInt ((I_221 4481)))), (1, .int (Int32.ofInt (y221_2 + 1))), (0, .ref 43), (2, .int (Int32.ofInt (y221_2)))], [.int (Int32.ofInt ((I_221 4161)))], M98) _
                      refine w_adv (n := 2) (F' := (357, [(4, .int (Int32.ofInt ((I_221 4161)))), (3, .int (Int32.ofInt ((I_221 4481)))), (1, .int (Int32.ofInt (y221_2 + 1))), (0, .ref 43), (2, .int (Int32.ofInt (y221_2)))], [.ref 43], M98)) rfl ?_
                      refine w_gf (v := .ref 67) hR99a rfl rfl rfl rfl ?_
                      refine w_adv (n := 1) (F' := (362, [(4, .int (Int32.ofInt ((I_221 4161)))), (3, .int (Int32.ofInt ((I_221 4481)))), (1, .int (Int32.ofInt (y221_2 + 1))), (0, .ref 43), (2, .int (Int32.ofInt (y221_2)))], [.int (Int32.ofInt ((I_221 4161))), .ref 67], M98)) rfl ?_
                      obtain ⟨r103a, r103b, r103c⟩ : 0 ≤ (I_221 4289) ∧ (I_221 4289) ≤ (C_221 67 : Int) ∧ (C_221 67 : Int) ≤ 131072 := hR99a.sz (show 67 ∈ w_TM.2.2 by decide)
                      refine w_call (cm := 207) (as := [(0, .ref 67), (1, .int (Int32.ofInt ((I_221 4161))))]) (rest := []) (o := some (10, 67)) rfl (w_fitR hR99a rfl) (m_add ((I_221 4161)) 67 (by decide) rfl hR99a ⟨by omega, by omega⟩ (show (I_221 4289) < 65536 by first | assumption | omega)) (fun r104 M105 q106 => ?_)
                      rcases q106 with ⟨g106a, b106a, c106a, e107, hR106a, f108, f109⟩
                      rw [e107]
                      replace hR106a : w_Rep w_TM fr X u l (w_up (w_up (w_up (w_up (w_up I_221 2763 ((I_221 2763) + 1)) 4481 ((I_221 4481) + 1)) 4033 ((I_221 4033) + 1)) 4161 ((I_221 4161) + 1)) 4289 ((I_221 4289) + 1)) (w_upF (w_upF (w_upF (w_upF (w_upF (w_upF A_221 52 ga243_52) 51 (w_upA (A_221 51) ((I_221 2763) + 1) ((((A_221 51) ((I_221 2763))) + y221_2) - y221_1))) 70 g85a) 63 g92a) 65 g99a) 67 g106a) (w_upN (w_upN (w_upN (w_upN B_221 70 b85a) 63 b92a) 65 b99a) 67 b106a) (w_upN (w_upN (w_upN (w_upN C_221 70 c85a) 63 c92a) 65 c99a) 67 c106a) M105 := hR106a
                      replace f108 : ∀ i, 0 ≤ i → i < (I_221 4289) → g106a i = (A_221 67) i := f108
                      replace f109 : g106a ((I_221 4289)) = (I_221 4161) := f109
                      skip
                      show w_W _ _ _ (365, [(4, .int (Int32.ofInt ((I_221 4161)))), (3, .int (Int32.ofInt ((I_221 4481)))), (1, .int (Int32.ofInt (y221_2 + 1))), (0, .ref 43), (2, .int (Int32.ofInt (y221_2)))], [.int (Int32.ofInt ((I_221 4289)))], M105) _
                      refine w_adv (n := 1) (F' := (367, [(4, .int (Int32.ofInt ((I_221 4289)))), (3, .int (Int32.ofInt ((I_221 4481)))), (1, .int (Int32.ofInt (y221_2 + 1))), (0, .ref 43), (2, .int (Int32.ofInt (y221_2)))], [], M105)) rfl ?_
                      refine w_inc (nL := 5) (a := y221_2) rfl rfl rfl (by decide) ?_
                      refine w_adv (n := 1) (F' := (221, [(2, .int (Int32.ofInt (y221_2 + 1))), (4, .int (Int32.ofInt ((I_221 4289)))), (3, .int (Int32.ofInt ((I_221 4481)))), (1, .int (Int32.ofInt (y221_2 + 1))), (0, .ref 43)], [], M105)) rfl ?_
                      refine w_ls (ls := [(0, .ref 43), (1, .int (Int32.ofInt (y221_2 + 1))), (2, .int (Int32.ofInt (y221_2 + 1)))]) (show List.Nodup [0, 1, 2] by decide) (show List.Nodup [2, 4, 3, 1, 0] by decide) (List.forall_mem_cons.mpr ⟨(List.Mem.tail _ (List.Mem.tail _ (List.Mem.tail _ (List.Mem.tail _ (List.Mem.head _))))), (List.forall_mem_cons.mpr ⟨(List.Mem.tail _ (List.Mem.tail _ (List.Mem.tail _ (List.Mem.head _)))), (List.forall_mem_cons.mpr ⟨(List.Mem.head _), (fun _ h => by cases h)⟩)⟩)⟩) ?_
                      exact ih221  (y221_2 + 1) (y221_2 + 1) (w_up (w_up (w_up (w_up (w_up I_221 2763 ((I_221 2763) + 1)) 4481 ((I_221 4481) + 1)) 4033 ((I_221 4033) + 1)) 4161 ((I_221 4161) + 1)) 4289 ((I_221 4289) + 1)) (w_upF (w_upF (w_upF (w_upF (w_upF (w_upF A_221 52 ga243_52) 51 (w_upA (A_221 51) ((I_221 2763) + 1) ((((A_221 51) ((I_221 2763))) + y221_2) - y221_1))) 70 g85a) 63 g92a) 65 g99a) 67 g106a) (w_upN (w_upN (w_upN (w_upN B_221 70 b85a) 63 b92a) 65 b99a) 67 b106a) (w_upN (w_upN (w_upN (w_upN C_221 70 c85a) 63 c92a) 65 c99a) 67 c106a) M105 hR106a ⟨by omega, by omega⟩ ⟨by omega, by omega⟩ (show 0 ≤ (y221_2 + 1) ∧ (y221_2 + 1) ≤ (y221_2 + 1) ∧ (y221_2 + 1) ≤ 49 ∧ (0 ≤ (I_221 2763) + 1 ∧ (I_221 2763) + 1 ≤ (y221_2 + 1)) ∧ (I_221 2763) + 1 ≤ 100 ∧ (I_221 2763) + 1 = m_cB (y221_2 + 1) ∧ (w_upA (A_221 51) ((I_221 2763) + 1) ((((A_221 51) ((I_221 2763))) + y221_2) - y221_1)) ((I_221 2763) + 1) = (y221_2 + 1) - ((I_221 2763) + 1) by first | omega | (refine ⟨by omega, by omega, by omega, by omega, by omega, by omega, ?_⟩; unfold w_upA; rw [if_pos (by omega)]; omega)) (show ((I_221 4481) + 1 = (I_221 2763) + 1 ∧ (I_221 4033) + 1 = (I_221 2763) + 1 ∧ (I_221 4161) + 1 = (I_221 2763) + 1 ∧ (I_221 4289) + 1 = (I_221 2763) + 1) ∧ ((I_221 4609) = 0 ∧ (I_221 4737) = 0 ∧ (I_221 4865) = 0 ∧ (I_221 4993) = 0 ∧ (I_221 5121) = 0 ∧ (I_221 5249) = 0 ∧ (I_221 5377) = 0 ∧ (I_221 5505) = 0) ∧ ((I_221 2753) = (I 2753) ∧ (I_221 3393) = (I 3393) ∧ (I_221 3521) = (I 3521) ∧ (I_221 3649) = (I 3649) ∧ (I_221 3777) = (I 3777) ∧ (I_221 3905) = (I 3905) ∧ (I_221 5633) = (I 5633) ∧ (I_221 5761) = (I 5761) ∧ (I_221 5889) = (I 5889) ∧ (I_221 6017) = (I 6017)) ∧ 0 ≤ (I_221 2760) ∧ (I_221 2760) ≤ 100 by (repeat' apply And.intro) <;> first | assumption | omega) (show m_N1 (A_221 49) by first | exact hi221_2 | first | exact hi115_1 | exact m_N1_up hi115_1 ⟨by omega, by omega⟩ | exact (fun i q0 q1 => (hNA.2 i q0 q1).1)) (show m_N1 (w_upA (A_221 51) ((I_221 2763) + 1) ((((A_221 51) ((I_221 2763))) + y221_2) - y221_1)) by first | exact hi221_3 | exact m_N1_up hi221_3 ⟨by omega, by omega⟩ | exact (fun i q0 q1 => (hNA.2 i q0 q1).2)) (show m_BG (w_upF (w_upF (w_upF (w_upF (w_upF (w_upF A_221 52 ga243_52) 51 (w_upA (A_221 51) ((I_221 2763) + 1) ((((A_221 51) ((I_221 2763))) + y221_2) - y221_1))) 70 g85a) 63 g92a) 65 g99a) 67 g106a) ((I_221 4033) + 1) by exact m_BG_up (a := ((I_221 2763) + 1) - 1) (b := (I_221 4161)) (c := ((I_221 2763) + 1) - 1) hi221_4 ⟨by omega, by omega⟩ (fun i a b => f94 i a (by omega)) (fun i a b => f108 i a (by omega)) (fun i a b => f87 i a (by omega)) (by have q := f95; first | exact q | (rw [show (I_221 4033) = (I_221 4033) by omega] at q; exact q)) (by have q := f109; first | exact q | (rw [show (I_221 4289) = (I_221 4033) by omega] at q; exact q)) (by have q := f88; first | exact q | (rw [show (I_221 4481) = (I_221 4033) by omega] at q; exact q)) ⟨by omega, by omega⟩ ⟨by omega, by omega⟩ ⟨by omega, by omega⟩) (show 49 - (y221_2 + 1) < (fu221 : Int) by omega)
                    · have h73 : ¬ (y243_3 ≥ y221_2) := h73
                      show w_W _ _ _ (248, [(0, .ref 43), (1, .int (Int32.ofInt (y221_1))), (2, .int (Int32.ofInt (y221_2))), (3, .int (Int32.ofInt (y243_3)))], [], M_243) _
                      refine w_adv (n := 1) (F' := (249, [(0, .ref 43), (1, .int (Int32.ofInt (y221_1))), (2, .int (Int32.ofInt (y221_2))), (3, .int (Int32.ofInt (y243_3)))], [.ref 43], M_243)) rfl ?_
                      refine w_gf (v := .ref 52) hR_243 rfl rfl rfl rfl ?_
                      refine w_adv (n := 1) (F' := (253, [(0, .ref 43), (1, .int (Int32.ofInt (y221_1))), (2, .int (Int32.ofInt (y221_2))), (3, .int (Int32.ofInt (y243_3)))], [.ref 43, .ref 52], M_243)) rfl ?_
                      refine w_gf (v := .ref 51) hR_243 rfl rfl rfl rfl ?_
                      refine w_adv (n := 1) (F' := (257, [(0, .ref 43), (1, .int (Int32.ofInt (y221_1))), (2, .int (Int32.ofInt (y221_2))), (3, .int (Int32.ofInt (y243_3)))], [.ref 43, .ref 51, .ref 52], M_243)) rfl ?_
                      refine w_gf (v := .int (Int32.ofInt ((I_221 2763)))) hR_243 rfl rfl rfl rfl ?_
                      obtain ⟨r110, r111⟩ : -2147483648 ≤ (I_221 2763) ∧ (I_221 2763) ≤ 2147483647 := hR_243.ri 2763
                      refine w_la (n := 402) hR_243 rfl (Or.inl ⟨rfl, rfl⟩) rfl (show 0 ≤ (I_221 2763) by omega) (show (I_221 2763) < (402 : Int) by omega) (by decide) ?_
                      obtain ⟨r112, r113⟩ : -2147483648 ≤ (A_221 51) ((I_221 2763)) ∧ (A_221 51) ((I_221 2763)) ≤ 2147483647 := hR_243.ra 51 ((I_221 2763))
                      show w_W _ _ _ (261, [(0, .ref 43), (1, .int (Int32.ofInt (y221_1))), (2, .int (Int32.ofInt (y221_2))), (3, .int (Int32.ofInt (y243_3)))], [.int (Int32.ofInt ((A_221 51) ((I_221 2763)))), .ref 52], M_243) _
                      refine w_adv (n := 1) (F' := (262, [(0, .ref 43), (1, .int (Int32.ofInt (y221_1))), (2, .int (Int32.ofInt (y221_2))), (3, .int (Int32.ofInt (y243_3)))], [.int (Int32.ofInt (y243_3)), .int (Int32.ofInt ((A_221 51) ((I_221 2763)))), .ref 52], M_243)) rfl ?_
                      refine w_add rfl ?_
                      refine w_adv (n := 1) (F' := (264, [(0, .ref 43), (1, .int (Int32.ofInt (y221_1))), (2, .int (Int32.ofInt (y221_2))), (3, .int (Int32.ofInt (y243_3)))], [.int (Int32.ofInt (y221_1)), .int (Int32.ofInt (((A_221 51) ((I_221 2763))) + y243_3)), .ref 52], M_243)) rfl ?_
                      refine w_sub rfl ?_
                      refine w_adv (n := 2) (F' := (268, [(0, .ref 43), (1, .int (Int32.ofInt (y221_1))), (2, .int (Int32.ofInt (y221_2))), (3, .int (Int32.ofInt (y243_3)))], [.int (Int32.ofInt (y243_3)), .ref 1000010, .int (Int32.ofInt ((((A_221 51) ((I_221 2763))) + y243_3) - y221_1)), .ref 52], M_243)) rfl ?_
                      refine w_callT (cm := 10) (as := [(0, .ref 1000010), (1, .int (Int32.ofInt (y243_3)))]) (rest := [.int (Int32.ofInt ((((A_221 51) ((I_221 2763))) + y243_3) - y221_1)), .ref 52]) rfl (m_chB (by omega) (y243_3) (show 0 ≤ y243_3 by omega) (show y243_3 < 49 by omega)) (fun r114 M115 q116 => ?_)
                      obtain ⟨v117, e118, e119, ⟨r120, r121⟩, f122⟩ := q116
                      rw [e118, e119]
                      show w_W _ _ _ (271, [(0, .ref 43), (1, .int (Int32.ofInt (y221_1))), (2, .int (Int32.ofInt (y221_2))), (3, .int (Int32.ofInt (y243_3)))], [.int (Int32.ofInt (v117)), .int (Int32.ofInt ((((A_221 51) ((I_221 2763))) + y243_3) - y221_1)), .ref 52], M_243) _
                      refine w_adv (n := 1) (F' := (272, [(0, .ref 43), (1, .int (Int32.ofInt (y221_1))), (2, .int (Int32.ofInt (y221_2))), (3, .int (Int32.ofInt (y243_3)))], [.int ((Int32.ofInt (v117)).toInt8.toInt32), .int (Int32.ofInt ((((A_221 51) ((I_221 2763))) + y243_3) - y221_1)), .ref 52], M_243)) rfl ?_
                      refine w_int (fun x123 r124 e125 => ?_)
                      obtain ⟨r124a, r124b⟩ := r124
                      refine w_sab (n := 9648) hR_243 rfl rfl (show 0 ≤ (((A_221 51) ((I_221 2763))) + y243_3) - y221_1 by omega) (show (((A_221 51) ((I_221 2763))) + y243_3) - y221_1 < (9648 : Int) by omega) (by decide) (fun M126 hR127 => ?_)
                      replace hR127 : w_Rep w_TM fr X u l I_221 (w_upF (w_upF A_221 52 ga243_52) 52 (w_upA ga243_52 ((((A_221 51) ((I_221 2763))) + y243_3) - y221_1) (w_nb (x123)))) B_221 C_221 M126 := hR127
                      refine w_inc (nL := 5) (a := y243_3) rfl rfl rfl (by decide) ?_
                      refine w_adv (n := 1) (F' := (243, [(3, .int (Int32.ofInt (y243_3 + 1))), (0, .ref 43), (1, .int (Int32.ofInt (y221_1))), (2, .int (Int32.ofInt (y221_2)))], [], M126)) rfl ?_
                      refine w_ls (ls := [(0, .ref 43), (1, .int (Int32.ofInt (y221_1))), (2, .int (Int32.ofInt (y221_2))), (3, .int (Int32.ofInt (y243_3 + 1)))]) (show List.Nodup [0, 1, 2, 3] by decide) (show List.Nodup [3, 0, 1, 2] by decide) (List.forall_mem_cons.mpr ⟨(List.Mem.tail _ (List.Mem.head _)), (List.forall_mem_cons.mpr ⟨(List.Mem.tail _ (List.Mem.tail _ (List.Mem.head _))), (List.forall_mem_cons.mpr ⟨(List.Mem.tail _ (List.Mem.tail _ (List.Mem.tail _ (List.Mem.head _)))), (List.forall_mem_cons.mpr ⟨(List.Mem.head _), (fun _ h => by cases h)⟩)⟩)⟩)⟩) ?_
                      exact ih243  (y243_3 + 1) ((w_upA ga243_52 ((((A_221 51) ((I_221 2763))) + y243_3) - y221_1) (w_nb (x123)))) M126 (w_Rep.up hR127 (show I_221 = I_221 from rfl) (show (w_upF A_221 52 (w_upA ga243_52 ((((A_221 51) ((I_221 2763))) + y243_3) - y221_1) (w_nb (x123)))) = (w_upF (w_upF A_221 52 ga243_52) 52 (w_upA ga243_52 ((((A_221 51) ((I_221 2763))) + y243_3) - y221_1) (w_nb (x123)))) from (funext fun s => if e0 : s = 52 then (by subst e0; rfl) else (by simp only [w_upF_ne e0])))) ⟨by omega, by omega⟩ (show y221_1 ≤ (y243_3 + 1) ∧ (y243_3 + 1) ≤ y221_2 by omega) (show y221_2 - (y243_3 + 1) < (fu243 : Int) by omega)
                refine w_ls (ls := [(0, .ref 43), (1, .int (Int32.ofInt (y221_1))), (2, .int (Int32.ofInt (y221_2))), (3, .int (Int32.ofInt (y221_1)))]) (show List.Nodup [0, 1, 2, 3] by decide) (show List.Nodup [3, 0, 1, 2] by decide) (List.forall_mem_cons.mpr ⟨(List.Mem.tail _ (List.Mem.head _)), (List.forall_mem_cons.mpr ⟨(List.Mem.tail _ (List.Mem.tail _ (List.Mem.head _))), (List.forall_mem_cons.mpr ⟨(List.Mem.tail _ (List.Mem.tail _ (List.Mem.tail _ (List.Mem.head _)))), (List.forall_mem_cons.mpr ⟨(List.Mem.head _), (fun _ h => by cases h)⟩)⟩)⟩)⟩) ?_
                exact lp243 ((y221_2 - y221_1 : Int).toNat + 1)  (y221_1) ((A_221 52)) M_221 (w_Rep.up hR_221 (show I_221 = I_221 from rfl) (show (w_upF A_221 52 (A_221 52)) = A_221 from (funext fun s => if e0 : s = 52 then (by subst e0; rfl) else (by simp only [w_upF_ne e0])))) ⟨by omega, by omega⟩ (show y221_1 ≤ y221_1 ∧ y221_1 ≤ y221_2 by omega) (show y221_2 - y221_1 < (((y221_2 - y221_1 : Int).toNat + 1 : Nat) : Int) by omega)
        refine w_ls (ls := [(0, .ref 43), (1, .int (Int32.ofInt (0))), (2, .int (Int32.ofInt (0)))]) (show List.Nodup [0, 1, 2] by decide) (show List.Nodup [2, 1, 0] by decide) (List.forall_mem_cons.mpr ⟨(List.Mem.tail _ (List.Mem.tail _ (List.Mem.head _))), (List.forall_mem_cons.mpr ⟨(List.Mem.tail _ (List.Mem.head _)), (List.forall_mem_cons.mpr ⟨(List.Mem.head _), (fun _ h => by cases h)⟩)⟩)⟩) ?_
        exact lp221 ((49 - 0 : Int).toNat + 1)  (0) (0) (w_up (w_up (w_up (w_up (w_up (w_up (w_up (w_up (w_up (w_up (w_up (w_up (w_up (w_up (w_up I 2763 (0)) 4481 (0)) 4033 (0)) 4161 (0)) 4289 (0)) 4609 (0)) 4737 (0)) 4865 (0)) 4993 (0)) 5121 (0)) 5249 (0)) 5377 (0)) 5505 (0)) 2776 (0)) 2760 (gi115_2760)) (w_upF (w_upF A 49 ga115_49) 50 ga115_50) B C M_115 hR_115 ⟨by omega, by omega⟩ ⟨by omega, by omega⟩ (show 0 ≤ (0 : Int) ∧ (0 : Int) ≤ (0 : Int) ∧ (0 : Int) ≤ 49 ∧ (0 ≤ 0 ∧ 0 ≤ (0 : Int)) ∧ 0 ≤ 100 ∧ 0 = m_cB (0 : Int) ∧ (A 51) (0) = (0 : Int) - 0 by first | omega | (refine ⟨by omega, by omega, by omega, by omega, by omega, by omega, ?_⟩; unfold w_upA; rw [if_pos (by omega)]; omega)) (show (0 = 0 ∧ 0 = 0 ∧ 0 = 0 ∧ 0 = 0) ∧ (0 = 0 ∧ 0 = 0 ∧ 0 = 0 ∧ 0 = 0 ∧ 0 = 0 ∧ 0 = 0 ∧ 0 = 0 ∧ 0 = 0) ∧ ((I 2753) = (I 2753) ∧ (I 3393) = (I 3393) ∧ (I 3521) = (I 3521) ∧ (I 3649) = (I 3649) ∧ (I 3777) = (I 3777) ∧ (I 3905) = (I 3905) ∧ (I 5633) = (I 5633) ∧ (I 5761) = (I 5761) ∧ (I 5889) = (I 5889) ∧ (I 6017) = (I 6017)) ∧ 0 ≤ gi115_2760 ∧ gi115_2760 ≤ 100 by (repeat' apply And.intro) <;> first | assumption | omega) (show m_N1 ga115_49 by first | exact hi221_2 | first | exact hi115_1 | exact m_N1_up hi115_1 ⟨by omega, by omega⟩ | exact (fun i q0 q1 => (hNA.2 i q0 q1).1)) (show m_N1 (A 51) by first | exact hi221_3 | exact m_N1_up hi221_3 ⟨by omega, by omega⟩ | exact (fun i q0 q1 => (hNA.2 i q0 q1).2)) (show m_BG (w_upF (w_upF A 49 ga115_49) 50 ga115_50) 0 by first | exact hi221_4 | exact (fun i q0 q1 => by omega)) (show 49 - 0 < (((49 - 0 : Int).toNat + 1 : Nat) : Int) by omega)
      · have h52 : ¬ (y115_2 ≥ 57) := h52
        show w_W _ _ _ (124, [(0, .ref 43), (1, .int (Int32.ofInt (y115_1))), (2, .int (Int32.ofInt (y115_2)))], [], M_115) _
        refine w_adv (n := 2) (F' := (127, [(0, .ref 43), (1, .int (Int32.ofInt (y115_1))), (2, .int (Int32.ofInt (y115_2)))], [.int (Int32.ofInt (y115_2)), .ref 1000008], M_115)) rfl ?_
        refine w_callT (cm := 10) (as := [(0, .ref 1000008), (1, .int (Int32.ofInt (y115_2)))]) (rest := []) rfl (m_chF (by omega) (y115_2) (show 0 ≤ y115_2 by omega) (show y115_2 < 57 by omega)) (fun r128 M129 q130 => ?_)
        obtain ⟨v131, e132, e133, ⟨r134, r135⟩, f136⟩ := q130
        rw [e132, e133]
        show w_W _ _ _ (130, [(0, .ref 43), (1, .int (Int32.ofInt (y115_1))), (2, .int (Int32.ofInt (y115_2)))], [.int (Int32.ofInt (v131))], M_115) _
        have ck130 := m_cF_ok (k := y115_2) (by omega) (by omega)
        rw [← f136] at ck130
        refine w_adv (n := 1) (F' := (132, [(0, .ref 43), (1, .int (Int32.ofInt (y115_1))), (2, .int (Int32.ofInt (y115_2)))], [.int (Int32.ofInt (32)), .int (Int32.ofInt (v131))], M_115)) rfl ?_
        refine w_br2 (a := v131) (b := 32) rfl rfl ⟨by omega, by omega⟩ ⟨by omega, by omega⟩ (fun h137 => ?_) (fun h137 => ?_)
        · have h137 : ¬ v131 = 32 := h137
          show w_W _ _ _ (211, [(0, .ref 43), (1, .int (Int32.ofInt (y115_1))), (2, .int (Int32.ofInt (y115_2)))], [], M_115) _
          refine w_inc (nL := 5) (a := y115_2) rfl rfl rfl (by decide) ?_
          refine w_adv (n := 1) (F' := (115, [(2, .int (Int32.ofInt (y115_2 + 1))), (0, .ref 43), (1, .int (Int32.ofInt (y115_1)))], [], M_115)) rfl ?_
          refine w_ls (ls := [(0, .ref 43), (1, .int (Int32.ofInt (y115_1))), (2, .int (Int32.ofInt (y115_2 + 1)))]) (show List.Nodup [0, 1, 2] by decide) (show List.Nodup [2, 0, 1] by decide) (List.forall_mem_cons.mpr ⟨(List.Mem.tail _ (List.Mem.head _)), (List.forall_mem_cons.mpr ⟨(List.Mem.tail _ (List.Mem.tail _ (List.Mem.head _))), (List.forall_mem_cons.mpr ⟨(List.Mem.head _), (fun _ h => by cases h)⟩)⟩)⟩) ?_
          exact ih115  (y115_1) (y115_2 + 1) (ga115_49) (ga115_50) (gi115_2760) M_115 hR_115 ⟨by omega, by omega⟩ ⟨by omega, by omega⟩ (show 0 ≤ y115_1 ∧ y115_1 ≤ (y115_2 + 1) ∧ (y115_2 + 1) ≤ 57 ∧ (0 ≤ gi115_2760 ∧ gi115_2760 ≤ (y115_2 + 1)) ∧ gi115_2760 ≤ 100 ∧ gi115_2760 = m_cF (y115_2 + 1) ∧ ga115_49 (gi115_2760) = y115_1 - gi115_2760 by first | omega | (refine ⟨by omega, by omega, by omega, by omega, by omega, by omega, ?_⟩; unfold w_upA; rw [if_pos (by omega)]; omega)) (show m_N1 ga115_49 by first | exact hi115_1 | exact m_N1_up hi115_1 ⟨by omega, by omega⟩ | exact (fun i q0 q1 => (hNA.2 i q0 q1).1)) (show 57 - (y115_2 + 1) < (fu115 : Int) by omega)
        · have h137 : ¬ (¬ v131 = 32) := h137
          show w_W _ _ _ (135, [(0, .ref 43), (1, .int (Int32.ofInt (y115_1))), (2, .int (Int32.ofInt (y115_2)))], [], M_115) _
          have n1 := hi115_1 (gi115_2760) (by omega) (by omega)
          refine w_adv (n := 2) (F' := (137, [(3, .int (Int32.ofInt (y115_1))), (0, .ref 43), (1, .int (Int32.ofInt (y115_1))), (2, .int (Int32.ofInt (y115_2)))], [], M_115)) rfl ?_
          have lp137 : ∀ fu137 : Nat, ∀ (y137_3 : Int) (ga137_50 : Int → Int) (M_137 : w_M) (hR_137 : w_Rep w_TM fr X u l (w_up (w_up (w_up (w_up (w_up (w_up (w_up (w_up (w_up (w_up (w_up (w_up (w_up (w_up (w_up I 2763 (0)) 4481 (0)) 4033 (0)) 4161 (0)) 4289 (0)) 4609 (0)) 4737 (0)) 4865 (0)) 4993 (0)) 5121 (0)) 5249 (0)) 5377 (0)) 5505 (0)) 2776 (0)) 2760 (gi115_2760)) (w_upF (w_upF A 49 ga115_49) 50 ga137_50) B C M_137), w_in y137_3 → y115_1 ≤ y137_3 ∧ y137_3 ≤ y115_2 → y115_2 - y137_3 < (fu137 : Int) → w_W (z_P L xs) (d + 1) 206 (137, [(0, .ref 43), (1, .int (Int32.ofInt (y115_1))), (2, .int (Int32.ofInt (y115_2))), (3, .int (Int32.ofInt (y137_3)))], [], M_137) (m_begin_Q fr X u l I A B C M) := by
            intro fu137
            induction fu137 with
            | zero =>
              intro y137_3 ga137_50 M_137 hR_137 ⟨ra_y137_3, rb_y137_3⟩ hi137_0 hn137
              exfalso
              omega
            | succ fu137 ih137 =>
              intro y137_3 ga137_50 M_137 hR_137 ⟨ra_y137_3, rb_y137_3⟩ hi137_0 hn137
              refine w_adv (n := 2) (F' := (139, [(0, .ref 43), (1, .int (Int32.ofInt (y115_1))), (2, .int (Int32.ofInt (y115_2))), (3, .int (Int32.ofInt (y137_3)))], [.int (Int32.ofInt (y115_2)), .int (Int32.ofInt (y137_3))], M_137)) rfl ?_
              refine w_br2 (a := y137_3) (b := y115_2) rfl rfl ⟨by omega, by omega⟩ ⟨by omega, by omega⟩ (fun h138 => ?_) (fun h138 => ?_)
              · have h138 : y137_3 ≥ y115_2 := h138
                show w_W _ _ _ (173, [(0, .ref 43), (1, .int (Int32.ofInt (y115_1))), (2, .int (Int32.ofInt (y115_2))), (3, .int (Int32.ofInt (y137_3)))], [], M_137) _
                refine w_adv (n := 1) (F' := (174, [(0, .ref 43), (1, .int (Int32.ofInt (y115_1))), (2, .int (Int32.ofInt (y115_2))), (3, .int (Int32.ofInt (y137_3)))], [.ref 43], M_137)) rfl ?_
                refine w_gf (v := .ref 49) hR_137 rfl rfl rfl rfl ?_
                refine w_adv (n := 1) (F' := (178, [(0, .ref 43), (1, .int (Int32.ofInt (y115_1))), (2, .int (Int32.ofInt (y115_2))), (3, .int (Int32.ofInt (y137_3)))], [.ref 43, .ref 49], M_137)) rfl ?_
                refine w_gf (v := .int (Int32.ofInt (gi115_2760))) hR_137 rfl rfl rfl rfl ?_
                obtain ⟨r139, r140⟩ : -2147483648 ≤ gi115_2760 ∧ gi115_2760 ≤ 2147483647 := hR_137.ri 2760
                refine w_adv (n := 1) (F' := (182, [(0, .ref 43), (1, .int (Int32.ofInt (y115_1))), (2, .int (Int32.ofInt (y115_2))), (3, .int (Int32.ofInt (y137_3)))], [.int (Int32.ofInt (1)), .int (Int32.ofInt (gi115_2760)), .ref 49], M_137)) rfl ?_
                refine w_add rfl ?_
                refine w_adv (n := 1) (F' := (184, [(0, .ref 43), (1, .int (Int32.ofInt (y115_1))), (2, .int (Int32.ofInt (y115_2))), (3, .int (Int32.ofInt (y137_3)))], [.ref 43, .int (Int32.ofInt (gi115_2760 + 1)), .ref 49], M_137)) rfl ?_
                refine w_gf (v := .ref 49) hR_137 rfl rfl rfl rfl ?_
                refine w_adv (n := 1) (F' := (188, [(0, .ref 43), (1, .int (Int32.ofInt (y115_1))), (2, .int (Int32.ofInt (y115_2))), (3, .int (Int32.ofInt (y137_3)))], [.ref 43, .ref 49, .int (Int32.ofInt (gi115_2760 + 1)), .ref 49], M_137)) rfl ?_
                refine w_gf (v := .int (Int32.ofInt (gi115_2760))) hR_137 rfl rfl rfl rfl ?_
                refine w_la (n := 402) hR_137 rfl (Or.inl ⟨rfl, rfl⟩) rfl (show 0 ≤ gi115_2760 by omega) (show gi115_2760 < (402 : Int) by omega) (by decide) ?_
                obtain ⟨r141, r142⟩ : -2147483648 ≤ ga115_49 (gi115_2760) ∧ ga115_49 (gi115_2760) ≤ 2147483647 := hR_137.ra 49 (gi115_2760)
                show w_W _ _ _ (192, [(0, .ref 43), (1, .int (Int32.ofInt (y115_1))), (2, .int (Int32.ofInt (y115_2))), (3, .int (Int32.ofInt (y137_3)))], [.int (Int32.ofInt (ga115_49 (gi115_2760))), .int (Int32.ofInt (gi115_2760 + 1)), .ref 49], M_137) _
                refine w_adv (n := 1) (F' := (193, [(0, .ref 43), (1, .int (Int32.ofInt (y115_1))), (2, .int (Int32.ofInt (y115_2))), (3, .int (Int32.ofInt (y137_3)))], [.int (Int32.ofInt (y115_2)), .int (Int32.ofInt (ga115_49 (gi115_2760))), .int (Int32.ofInt (gi115_2760 + 1)), .ref 49], M_137)) rfl ?_
                refine w_add rfl ?_
                refine w_adv (n := 1) (F' := (195, [(0, .ref 43), (1, .int (Int32.ofInt (y115_1))), (2, .int (Int32.ofInt (y115_2))), (3, .int (Int32.ofInt (y137_3)))], [.int (Int32.ofInt (y115_1)), .int (Int32.ofInt ((ga115_49 (gi115_2760)) + y115_2)), .int (Int32.ofInt (gi115_2760 + 1)), .ref 49], M_137)) rfl ?_
                refine w_sub rfl ?_
                refine w_sai (n := 402) hR_137 rfl rfl (show 0 ≤ gi115_2760 + 1 by omega) (show gi115_2760 + 1 < (402 : Int) by omega) (by decide) (show w_in (((ga115_49 (gi115_2760)) + y115_2) - y115_1) from ⟨by omega, by omega⟩) (fun M143 hR144 => ?_)
                replace hR144 : w_Rep w_TM fr X u l (w_up (w_up (w_up (w_up (w_up (w_up (w_up (w_up (w_up (w_up (w_up (w_up (w_up (w_up (w_up I 2763 (0)) 4481 (0)) 4033 (0)) 4161 (0)) 4289 (0)) 4609 (0)) 4737 (0)) 4865 (0)) 4993 (0)) 5121 (0)) 5249 (0)) 5377 (0)) 5505 (0)) 2776 (0)) 2760 (gi115_2760)) (w_upF (w_upF (w_upF A 49 ga115_49) 50 ga137_50) 49 (w_upA ga115_49 (gi115_2760 + 1) (((ga115_49 (gi115_2760)) + y115_2) - y115_1))) B C M143 := hR144
                refine w_adv (n := 2) (F' := (199, [(0, .ref 43), (1, .int (Int32.ofInt (y115_1))), (2, .int (Int32.ofInt (y115_2))), (3, .int (Int32.ofInt (y137_3)))], [.ref 43, .ref 43], M143)) rfl ?_
                refine w_gf (v := .int (Int32.ofInt (gi115_2760))) hR144 rfl rfl rfl rfl ?_
                refine w_adv (n := 1) (F' := (203, [(0, .ref 43), (1, .int (Int32.ofInt (y115_1))), (2, .int (Int32.ofInt (y115_2))), (3, .int (Int32.ofInt (y137_3)))], [.int (Int32.ofInt (1)), .int (Int32.ofInt (gi115_2760)), .ref 43], M143)) rfl ?_
                refine w_add rfl ?_
                refine w_pf hR144 rfl rfl rfl rfl (show w_in (gi115_2760 + 1) from ⟨by omega, by omega⟩) (fun h => absurd h (by decide)) (fun M145 hR146 => ?_)
                replace hR146 : w_Rep w_TM fr X u l (w_up (w_up (w_up (w_up (w_up (w_up (w_up (w_up (w_up (w_up (w_up (w_up (w_up (w_up (w_up I 2763 (0)) 4481 (0)) 4033 (0)) 4161 (0)) 4289 (0)) 4609 (0)) 4737 (0)) 4865 (0)) 4993 (0)) 5121 (0)) 5249 (0)) 5377 (0)) 5505 (0)) 2776 (0)) 2760 (gi115_2760 + 1)) (w_upF (w_upF (w_upF A 49 ga115_49) 50 ga137_50) 49 (w_upA ga115_49 (gi115_2760 + 1) (((ga115_49 (gi115_2760)) + y115_2) - y115_1))) B C M145 := w_Rep.up hR146 (show (w_up (w_up (w_up (w_up (w_up (w_up (w_up (w_up (w_up (w_up (w_up (w_up (w_up (w_up (w_up I 2763 (0)) 4481 (0)) 4033 (0)) 4161 (0)) 4289 (0)) 4609 (0)) 4737 (0)) 4865 (0)) 4993 (0)) 5121 (0)) 5249 (0)) 5377 (0)) 5505 (0)) 2776 (0)) 2760 (gi115_2760 + 1)) = _ from (funext fun s => if e0 : s = 2760 then (by subst e0; rfl) else if e1 : s = 2763 then (by subst e1; rfl) else if e2 : s = 2776 then (by subst e2; rfl) else if e3 : s = 4033 then (by subst e3; rfl) else if e4 : s = 4161 then (by subst e4; rfl) else if e5 : s = 4289 then (by subst e5; rfl) else if e6 : s = 4481 then (by subst e6; rfl) else if e7 : s = 4609 then (by subst e7; rfl) else if e8 : s = 4737 then (by subst e8; rfl) else if e9 : s = 4865 then (by subst e9; rfl) else if e10 : s = 4993 then (by subst e10; rfl) else if e11 : s = 5121 then (by subst e11; rfl) else if e12 : s = 5249 then (by subst e12; rfl) else if e13 : s = 5377 then (by subst e13; rfl) else if e14 : s = 5505 then (by subst e14; rfl) else (by simp only [w_up_ne e0, w_up_ne e1, w_up_ne e2, w_up_ne e3, w_up_ne e4, w_up_ne e5, w_up_ne e6, w_up_ne e7, w_up_ne e8, w_up_ne e9, w_up_ne e10, w_up_ne e11, w_up_ne e12, w_up_ne e13, w_up_ne e14]))) rfl
                refine w_adv (n := 2) (F' := (209, [(0, .ref 43), (1, .int (Int32.ofInt (y115_1))), (2, .int (Int32.ofInt (y115_2))), (3, .int (Int32.ofInt (y137_3)))], [.int (Int32.ofInt (1)), .int (Int32.ofInt (y115_2))], M145)) rfl ?_
                refine w_add rfl ?_
                refine w_adv (n := 1) (F' := (211, [(1, .int (Int32.ofInt (y115_2 + 1))), (0, .ref 43), (2, .int (Int32.ofInt (y115_2))), (3, .int (Int32.ofInt (y137_3)))], [], M145)) rfl ?_
                refine w_inc (nL := 5) (a := y115_2) rfl rfl rfl (by decide) ?_
                refine w_adv (n := 1) (F' := (115, [(2, .int (Int32.ofInt (y115_2 + 1))), (1, .int (Int32.ofInt (y115_2 + 1))), (0, .ref 43), (3, .int (Int32.ofInt (y137_3)))], [], M145)) rfl ?_
                refine w_ls (ls := [(0, .ref 43), (1, .int (Int32.ofInt (y115_2 + 1))), (2, .int (Int32.ofInt (y115_2 + 1)))]) (show List.Nodup [0, 1, 2] by decide) (show List.Nodup [2, 1, 0, 3] by decide) (List.forall_mem_cons.mpr ⟨(List.Mem.tail _ (List.Mem.tail _ (List.Mem.head _))), (List.forall_mem_cons.mpr ⟨(List.Mem.tail _ (List.Mem.head _)), (List.forall_mem_cons.mpr ⟨(List.Mem.head _), (fun _ h => by cases h)⟩)⟩)⟩) ?_
                exact ih115  (y115_2 + 1) (y115_2 + 1) ((w_upA ga115_49 (gi115_2760 + 1) (((ga115_49 (gi115_2760)) + y115_2) - y115_1))) (ga137_50) (gi115_2760 + 1) M145 (w_Rep.up hR146 (show (w_up (w_up (w_up (w_up (w_up (w_up (w_up (w_up (w_up (w_up (w_up (w_up (w_up (w_up (w_up I 2763 (0)) 4481 (0)) 4033 (0)) 4161 (0)) 4289 (0)) 4609 (0)) 4737 (0)) 4865 (0)) 4993 (0)) 5121 (0)) 5249 (0)) 5377 (0)) 5505 (0)) 2776 (0)) 2760 (gi115_2760 + 1)) = (w_up (w_up (w_up (w_up (w_up (w_up (w_up (w_up (w_up (w_up (w_up (w_up (w_up (w_up (w_up I 2763 (0)) 4481 (0)) 4033 (0)) 4161 (0)) 4289 (0)) 4609 (0)) 4737 (0)) 4865 (0)) 4993 (0)) 5121 (0)) 5249 (0)) 5377 (0)) 5505 (0)) 2776 (0)) 2760 (gi115_2760 + 1)) from rfl) (show (w_upF (w_upF A 49 (w_upA ga115_49 (gi115_2760 + 1) (((ga115_49 (gi115_2760)) + y115_2) - y115_1))) 50 ga137_50) = (w_upF (w_upF (w_upF A 49 ga115_49) 50 ga137_50) 49 (w_upA ga115_49 (gi115_2760 + 1) (((ga115_49 (gi115_2760)) + y115_2) - y115_1))) from (funext fun s => if e0 : s = 49 then (by subst e0; rfl) else if e1 : s = 50 then (by subst e1; rfl) else (by simp only [w_upF_ne e0, w_upF_ne e1])))) ⟨by omega, by omega⟩ ⟨by omega, by omega⟩ (show 0 ≤ (y115_2 + 1) ∧ (y115_2 + 1) ≤ (y115_2 + 1) ∧ (y115_2 + 1) ≤ 57 ∧ (0 ≤ gi115_2760 + 1 ∧ gi115_2760 + 1 ≤ (y115_2 + 1)) ∧ gi115_2760 + 1 ≤ 100 ∧ gi115_2760 + 1 = m_cF (y115_2 + 1) ∧ (w_upA ga115_49 (gi115_2760 + 1) (((ga115_49 (gi115_2760)) + y115_2) - y115_1)) (gi115_2760 + 1) = (y115_2 + 1) - (gi115_2760 + 1) by first | omega | (refine ⟨by omega, by omega, by omega, by omega, by omega, by omega, ?_⟩; unfold w_upA; rw [if_pos (by omega)]; omega)) (show m_N1 (w_upA ga115_49 (gi115_2760 + 1) (((ga115_49 (gi115_2760)) + y115_2) - y115_1)) by first | exact hi115_1 | exact m_N1_up hi115_1 ⟨by omega, by omega⟩ | exact (fun i q0 q1 => (hNA.2 i q0 q1).1)) (show 57 - (y115_2 + 1) < (fu115 : Int) by omega)
              · have h138 : ¬ (y137_3 ≥ y115_2) := h138
                show w_W _ _ _ (142, [(0, .ref 43), (1, .int (Int32.ofInt (y115_1))), (2, .int (Int32.ofInt (y115_2))), (3, .int (Int32.ofInt (y137_3)))], [], M_137) _
                refine w_adv (n := 1) (F' := (143, [(0, .ref 43), (1, .int (Int32.ofInt (y115_1))), (2, .int (Int32.ofInt (y115_2))), (3, .int (Int32.ofInt (y137_3)))], [.ref 43], M_137)) rfl ?_
                refine w_gf (v := .ref 50) hR_137 rfl rfl rfl rfl ?_
                refine w_adv (n := 1) (F' := (147, [(0, .ref 43), (1, .int (Int32.ofInt (y115_1))), (2, .int (Int32.ofInt (y115_2))), (3, .int (Int32.ofInt (y137_3)))], [.ref 43, .ref 50], M_137)) rfl ?_
                refine w_gf (v := .ref 49) hR_137 rfl rfl rfl rfl ?_
                refine w_adv (n := 1) (F' := (151, [(0, .ref 43), (1, .int (Int32.ofInt (y115_1))), (2, .int (Int32.ofInt (y115_2))), (3, .int (Int32.ofInt (y137_3)))], [.ref 43, .ref 49, .ref 50], M_137)) rfl ?_
                refine w_gf (v := .int (Int32.ofInt (gi115_2760))) hR_137 rfl rfl rfl rfl ?_
                obtain ⟨r147, r148⟩ : -2147483648 ≤ gi115_2760 ∧ gi115_2760 ≤ 2147483647 := hR_137.ri 2760
                refine w_la (n := 402) hR_137 rfl (Or.inl ⟨rfl, rfl⟩) rfl (show 0 ≤ gi115_2760 by omega) (show gi115_2760 < (402 : Int) by omega) (by decide) ?_
                obtain ⟨r149, r150⟩ : -2147483648 ≤ ga115_49 (gi115_2760) ∧ ga115_49 (gi115_2760) ≤ 2147483647 := hR_137.ra 49 (gi115_2760)
                show w_W _ _ _ (155, [(0, .ref 43), (1, .int (Int32.ofInt (y115_1))), (2, .int (Int32.ofInt (y115_2))), (3, .int (Int32.ofInt (y137_3)))], [.int (Int32.ofInt (ga115_49 (gi115_2760))), .ref 50], M_137) _
                refine w_adv (n := 1) (F' := (156, [(0, .ref 43), (1, .int (Int32.ofInt (y115_1))), (2, .int (Int32.ofInt (y115_2))), (3, .int (Int32.ofInt (y137_3)))], [.int (Int32.ofInt (y137_3)), .int (Int32.ofInt (ga115_49 (gi115_2760))), .ref 50], M_137)) rfl ?_
                refine w_add rfl ?_
                refine w_adv (n := 1) (F' := (158, [(0, .ref 43), (1, .int (Int32.ofInt (y115_1))), (2, .int (Int32.ofInt (y115_2))), (3, .int (Int32.ofInt (y137_3)))], [.int (Int32.ofInt (y115_1)), .int (Int32.ofInt ((ga115_49 (gi115_2760)) + y137_3)), .ref 50], M_137)) rfl ?_
                refine w_sub rfl ?_
                refine w_adv (n := 2) (F' := (162, [(0, .ref 43), (1, .int (Int32.ofInt (y115_1))), (2, .int (Int32.ofInt (y115_2))), (3, .int (Int32.ofInt (y137_3)))], [.int (Int32.ofInt (y137_3)), .ref 1000008, .int (Int32.ofInt (((ga115_49 (gi115_2760)) + y137_3) - y115_1)), .ref 50], M_137)) rfl ?_
                refine w_callT (cm := 10) (as := [(0, .ref 1000008), (1, .int (Int32.ofInt (y137_3)))]) (rest := [.int (Int32.ofInt (((ga115_49 (gi115_2760)) + y137_3) - y115_1)), .ref 50]) rfl (m_chF (by omega) (y137_3) (show 0 ≤ y137_3 by omega) (show y137_3 < 57 by omega)) (fun r151 M152 q153 => ?_)
                obtain ⟨v154, e155, e156, ⟨r157, r158⟩, f159⟩ := q153
                rw [e155, e156]
                show w_W _ _ _ (165, [(0, .ref 43), (1, .int (Int32.ofInt (y115_1))), (2, .int (Int32.ofInt (y115_2))), (3, .int (Int32.ofInt (y137_3)))], [.int (Int32.ofInt (v154)), .int (Int32.ofInt (((ga115_49 (gi115_2760)) + y137_3) - y115_1)), .ref 50], M_137) _
                refine w_adv (n := 1) (F' := (166, [(0, .ref 43), (1, .int (Int32.ofInt (y115_1))), (2, .int (Int32.ofInt (y115_2))), (3, .int (Int32.ofInt (y137_3)))], [.int ((Int32.ofInt (v154)).toInt8.toInt32), .int (Int32.ofInt (((ga115_49 (gi115_2760)) + y137_3) - y115_1)), .ref 50], M_137)) rfl ?_
                refine w_int (fun x160 r161 e162 => ?_)
                obtain ⟨r161a, r161b⟩ := r161
                refine w_sab (n := 9648) hR_137 rfl rfl (show 0 ≤ ((ga115_49 (gi115_2760)) + y137_3) - y115_1 by omega) (show ((ga115_49 (gi115_2760)) + y137_3) - y115_1 < (9648 : Int) by omega) (by decide) (fun M163 hR164 => ?_)
                replace hR164 : w_Rep w_TM fr X u l (w_up (w_up (w_up (w_up (w_up (w_up (w_up (w_up (w_up (w_up (w_up (w_up (w_up (w_up (w_up I 2763 (0)) 4481 (0)) 4033 (0)) 4161 (0)) 4289 (0)) 4609 (0)) 4737 (0)) 4865 (0)) 4993 (0)) 5121 (0)) 5249 (0)) 5377 (0)) 5505 (0)) 2776 (0)) 2760 (gi115_2760)) (w_upF (w_upF (w_upF A 49 ga115_49) 50 ga137_50) 50 (w_upA ga137_50 (((ga115_49 (gi115_2760)) + y137_3) - y115_1) (w_nb (x160)))) B C M163 := hR164
                refine w_inc (nL := 5) (a := y137_3) rfl rfl rfl (by decide) ?_
                refine w_adv (n := 1) (F' := (137, [(3, .int (Int32.ofInt (y137_3 + 1))), (0, .ref 43), (1, .int (Int32.ofInt (y115_1))), (2, .int (Int32.ofInt (y115_2)))], [], M163)) rfl ?_
                refine w_ls (ls := [(0, .ref 43), (1, .int (Int32.ofInt (y115_1))), (2, .int (Int32.ofInt (y115_2))), (3, .int (Int32.ofInt (y137_3 + 1)))]) (show List.Nodup [0, 1, 2, 3] by decide) (show List.Nodup [3, 0, 1, 2] by decide) (List.forall_mem_cons.mpr ⟨(List.Mem.tail _ (List.Mem.head _)), (List.forall_mem_cons.mpr ⟨(List.Mem.tail _ (List.Mem.tail _ (List.Mem.head _))), (List.forall_mem_cons.mpr ⟨(List.Mem.tail _ (List.Mem.tail _ (List.Mem.tail _ (List.Mem.head _)))), (List.forall_mem_cons.mpr ⟨(List.Mem.head _), (fun _ h => by cases h)⟩)⟩)⟩)⟩) ?_
                exact ih137  (y137_3 + 1) ((w_upA ga137_50 (((ga115_49 (gi115_2760)) + y137_3) - y115_1) (w_nb (x160)))) M163 (w_Rep.up hR164 (show (w_up (w_up (w_up (w_up (w_up (w_up (w_up (w_up (w_up (w_up (w_up (w_up (w_up (w_up (w_up I 2763 (0)) 4481 (0)) 4033 (0)) 4161 (0)) 4289 (0)) 4609 (0)) 4737 (0)) 4865 (0)) 4993 (0)) 5121 (0)) 5249 (0)) 5377 (0)) 5505 (0)) 2776 (0)) 2760 (gi115_2760)) = (w_up (w_up (w_up (w_up (w_up (w_up (w_up (w_up (w_up (w_up (w_up (w_up (w_up (w_up (w_up I 2763 (0)) 4481 (0)) 4033 (0)) 4161 (0)) 4289 (0)) 4609 (0)) 4737 (0)) 4865 (0)) 4993 (0)) 5121 (0)) 5249 (0)) 5377 (0)) 5505 (0)) 2776 (0)) 2760 (gi115_2760)) from rfl) (show (w_upF (w_upF A 49 ga115_49) 50 (w_upA ga137_50 (((ga115_49 (gi115_2760)) + y137_3) - y115_1) (w_nb (x160)))) = (w_upF (w_upF (w_upF A 49 ga115_49) 50 ga137_50) 50 (w_upA ga137_50 (((ga115_49 (gi115_2760)) + y137_3) - y115_1) (w_nb (x160)))) from (funext fun s => if e0 : s = 49 then (by subst e0; rfl) else if e1 : s = 50 then (by subst e1; rfl) else (by simp only [w_upF_ne e0, w_upF_ne e1])))) ⟨by omega, by omega⟩ (show y115_1 ≤ (y137_3 + 1) ∧ (y137_3 + 1) ≤ y115_2 by omega) (show y115_2 - (y137_3 + 1) < (fu137 : Int) by omega)
          refine w_ls (ls := [(0, .ref 43), (1, .int (Int32.ofInt (y115_1))), (2, .int (Int32.ofInt (y115_2))), (3, .int (Int32.ofInt (y115_1)))]) (show List.Nodup [0, 1, 2, 3] by decide) (show List.Nodup [3, 0, 1, 2] by decide) (List.forall_mem_cons.mpr ⟨(List.Mem.tail _ (List.Mem.head _)), (List.forall_mem_cons.mpr ⟨(List.Mem.tail _ (List.Mem.tail _ (List.Mem.head _))), (List.forall_mem_cons.mpr ⟨(List.Mem.tail _ (List.Mem.tail _ (List.Mem.tail _ (List.Mem.head _)))), (List.forall_mem_cons.mpr ⟨(List.Mem.head _), (fun _ h => by cases h)⟩)⟩)⟩)⟩) ?_
          exact lp137 ((y115_2 - y115_1 : Int).toNat + 1)  (y115_1) (ga115_50) M_115 hR_115 ⟨by omega, by omega⟩ (show y115_1 ≤ y115_1 ∧ y115_1 ≤ y115_2 by omega) (show y115_2 - y115_1 < (((y115_2 - y115_1 : Int).toNat + 1 : Nat) : Int) by omega)
  refine w_ls (ls := [(0, .ref 43), (1, .int (Int32.ofInt (0))), (2, .int (Int32.ofInt (0)))]) (show List.Nodup [0, 1, 2] by decide) (show List.Nodup [2, 1, 0] by decide) (List.forall_mem_cons.mpr ⟨(List.Mem.tail _ (List.Mem.tail _ (List.Mem.head _))), (List.forall_mem_cons.mpr ⟨(List.Mem.tail _ (List.Mem.head _)), (List.forall_mem_cons.mpr ⟨(List.Mem.head _), (fun _ h => by cases h)⟩)⟩)⟩) ?_
  exact lp115 ((57 - 0 : Int).toNat + 1)  (0) (0) ((A 49)) ((A 50)) (0) M41 (w_Rep.up hR42 (show (w_up (w_up (w_up (w_up (w_up (w_up (w_up (w_up (w_up (w_up (w_up (w_up (w_up (w_up (w_up I 2763 (0)) 4481 (0)) 4033 (0)) 4161 (0)) 4289 (0)) 4609 (0)) 4737 (0)) 4865 (0)) 4993 (0)) 5121 (0)) 5249 (0)) 5377 (0)) 5505 (0)) 2776 (0)) 2760 (0)) = (w_up (w_up (w_up (w_up (w_up (w_up (w_up (w_up (w_up (w_up (w_up (w_up (w_up (w_up (w_up I 2760 (0)) 2763 (0)) 4481 (0)) 4033 (0)) 4161 (0)) 4289 (0)) 4609 (0)) 4737 (0)) 4865 (0)) 4993 (0)) 5121 (0)) 5249 (0)) 5377 (0)) 5505 (0)) 2776 (0)) from (funext fun s => if e0 : s = 2760 then (by subst e0; rfl) else if e1 : s = 2763 then (by subst e1; rfl) else if e2 : s = 2776 then (by subst e2; rfl) else if e3 : s = 4033 then (by subst e3; rfl) else if e4 : s = 4161 then (by subst e4; rfl) else if e5 : s = 4289 then (by subst e5; rfl) else if e6 : s = 4481 then (by subst e6; rfl) else if e7 : s = 4609 then (by subst e7; rfl) else if e8 : s = 4737 then (by subst e8; rfl) else if e9 : s = 4865 then (by subst e9; rfl) else if e10 : s = 4993 then (by subst e10; rfl) else if e11 : s = 5121 then (by subst e11; rfl) else if e12 : s = 5249 then (by subst e12; rfl) else if e13 : s = 5377 then (by subst e13; rfl) else if e14 : s = 5505 then (by subst e14; rfl) else (by simp only [w_up_ne e0, w_up_ne e1, w_up_ne e2, w_up_ne e3, w_up_ne e4, w_up_ne e5, w_up_ne e6, w_up_ne e7, w_up_ne e8, w_up_ne e9, w_up_ne e10, w_up_ne e11, w_up_ne e12, w_up_ne e13, w_up_ne e14]))) (show (w_upF (w_upF A 49 (A 49)) 50 (A 50)) = A from (funext fun s => if e0 : s = 49 then (by subst e0; rfl) else if e1 : s = 50 then (by subst e1; rfl) else (by simp only [w_upF_ne e0, w_upF_ne e1])))) ⟨by omega, by omega⟩ ⟨by omega, by omega⟩ (show 0 ≤ (0 : Int) ∧ (0 : Int) ≤ (0 : Int) ∧ (0 : Int) ≤ 57 ∧ (0 ≤ 0 ∧ 0 ≤ (0 : Int)) ∧ 0 ≤ 100 ∧ 0 = m_cF (0 : Int) ∧ (A 49) (0) = (0 : Int) - 0 by first | omega | (refine ⟨by omega, by omega, by omega, by omega, by omega, by omega, ?_⟩; unfold w_upA; rw [if_pos (by omega)]; omega)) (show m_N1 (A 49) by first | exact hi115_1 | exact m_N1_up hi115_1 ⟨by omega, by omega⟩ | exact (fun i q0 q1 => (hNA.2 i q0 q1).1)) (show 57 - 0 < (((57 - 0 : Int).toNat + 1 : Nat) : Int) by omega)
