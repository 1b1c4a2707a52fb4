/-! READ of the reference. -/
theorem m_SC_of {I : Nat → Int} {A : Nat → Int → Int} {n : Int} (h : m_BG A n) (h1 : I 4289 = n) (h2 : I 4033 = n) : m_SC I A := ⟨fun i a b => by have q := h i a (by omega); rw [h2]; exact q.2.1, fun i a b => (h i a (by omega)).1⟩
theorem m_NA_fx {I I' : Nat → Int} {A A' : Nat → Int → Int} (h : m_NA I A) (g : m_fx I A I' A') : m_NA I' A' := by
  obtain ⟨⟨-, -, e1, e2, -⟩, -, -, -, -, -, e49, -, e51, -⟩ := g
  unfold m_NA
  rw [e1, e2, e49, e51]
  exact h
theorem m_BI_of {I : Nat → Int} {A : Nat → Int → Int} (h0 : I 5633 = 0) (h1 : I 4609 = 0) (h2 : m_VN I A) (h3 : m_SC I A) : m_BI I A := ⟨fun k a b => by omega, fun s a b => by omega, h2, h3.2⟩
theorem m_VN_of {I : Nat → Int} {A A' : Nat → Int → Int} {n : Int} (h : m_BG A n) (h1 : I 4481 = n) (h2 : A' 70 = A 70) : m_VN I A' := fun i a b => by
  rw [h2]
  exact (h i a (by omega)).2.2
theorem m_IT_nil {I : Nat → Int} {A : Nat → Int → Int} (h1 : I 4609 = 0) : m_IT I A := fun s a b => by omega
def m_read_Q (fr : Nat → Bool) (X : Nat → Option (q_C (Nat → Int32))) (u l : Nat) (I : Nat → Int) (A : Nat → Int → Int) (B C : Nat → Nat) (M : w_M) : w_X → w_M → Prop := fun r M' => (∃ v : Int, ∃ (I' : Nat → Int) (A' : Nat → Int → Int) (B' C' : Nat → Nat), (r = .inl (some v)) ∧ (w_in v) ∧ (w_Rep w_TM fr X u l I' A' B' C' M') ∧ (((I' 2753) = (I 2753)) ∧ ((I' 4737) = (I' 4609) ∧ (I' 4865) = (I' 4609) ∧ (I' 4993) = (I' 4609) ∧ (I' 5121) = (I' 4609) ∧ (I' 5249) = (I' 4609) ∧ (I' 5377) = (I' 4609)) ∧ (0 ≤ (I' 4609) ∧ 0 ≤ (I' 4481) ∧ 0 ≤ (I' 5505)) ∧ (I' 6017) = 0) ∧ (m_NA I' A') ∧ (m_IT I' A') ∧ (m_VN I' A'))
set_option maxHeartbeats 100000000 in
set_option maxRecDepth 100000 in
theorem m_read {L : Nat} {xs : Nat → Int32} {d : Nat} {fr : Nat → Bool} {X : Nat → Option (q_C (Nat → Int32))} {u l : Nat} {I : Nat → Int} {A : Nat → Int → Int} {B C : Nat → Nat} {M : w_M} (hR : w_Rep w_TM fr X u l I A B C M) (hd : 1210 ≤ d) (hsz : 0 ≤ (I 2753) ∧ (I 2753) ≤ 8192) (hNA : m_NA I A) (hLK : (I 6017) = 0) : w_W (z_P L xs) d 312 (0, [(0, .ref 43)], [], M) (m_read_Q fr X u l I A B C M) := by
  obtain ⟨d, rfl⟩ : ∃ d0, d = d0 + 1 := ⟨d - 1, by omega⟩
  refine w_adv (n := 1) (F' := (1, [(0, .ref 43)], [.ref 43], M)) rfl ?_
  refine w_call (cm := 206) (as := [(0, .ref 43)]) (rest := []) (o := some (9, 43)) rfl (w_fitR hR rfl) (m_begin hR (show 5 ≤ d by omega) (show m_NA I A by first | assumption | omega)) (fun r1 M2 q3 => ?_)
  rcases q3 with ⟨I3a, A3a, B3a, C3a, e4, hR3a, f5, f6, f7⟩
  rw [e4]
  replace hR3a : w_Rep w_TM fr X u l I3a A3a B3a C3a M2 := hR3a
  replace f5 : ((I3a 4481) = 7 ∧ (I3a 4033) = 7 ∧ (I3a 4161) = 7 ∧ (I3a 4289) = 7) ∧ ((I3a 4609) = 0 ∧ (I3a 4737) = 0 ∧ (I3a 4865) = 0 ∧ (I3a 4993) = 0 ∧ (I3a 5121) = 0 ∧ (I3a 5249) = 0 ∧ (I3a 5377) = 0 ∧ (I3a 5505) = 0) ∧ ((I3a 2753) = (I 2753) ∧ (I3a 3393) = (I 3393) ∧ (I3a 3521) = (I 3521) ∧ (I3a 3649) = (I 3649) ∧ (I3a 3777) = (I 3777) ∧ (I3a 3905) = (I 3905) ∧ (I3a 5633) = (I 5633) ∧ (I3a 5761) = (I 5761) ∧ (I3a 5889) = (I 5889) ∧ (I3a 6017) = (I 6017)) := f5
  obtain ⟨⟨n8, n9, n10, n11⟩, ⟨n12, n13, n14, n15, n16, n17, n18, n19⟩, ⟨n20, n21, n22, n23, n24, n25, n26, n27, n28, n29⟩⟩ := id f5
  clear f5
  replace f6 : m_NA I3a A3a := f6
  replace f7 : m_BG A3a 7 := f7
  skip
  show w_W _ _ _ (4, [(0, .ref 43)], [], M2) _
  refine w_adv (n := 1) (F' := (5, [(0, .ref 43)], [.ref 43], M2)) rfl ?_
  refine w_gf (v := .ref 53) hR3a rfl rfl rfl rfl ?_
  refine w_adv (n := 1) (F' := (9, [(0, .ref 43)], [.int (Int32.ofInt (0)), .ref 53], M2)) rfl ?_
  obtain ⟨r30a, r30b, r30c⟩ : 0 ≤ (I3a 3393) ∧ (I3a 3393) ≤ (C3a 53 : Int) ∧ (C3a 53 : Int) ≤ 131072 := hR3a.sz (show 53 ∈ w_TM.2.2 by decide)
  refine w_pf hR3a rfl rfl rfl rfl (show w_in (0) from ⟨by omega, by omega⟩) (fun _ _ => (show 0 ≤ 0 ∧ 0 ≤ (C3a 53 : Int) by omega)) (fun M31 hR32 => ?_)
  replace hR32 : w_Rep w_TM fr X u l (w_up I3a 3393 (0)) A3a B3a C3a M31 := hR32
  refine w_adv (n := 1) (F' := (13, [(0, .ref 43)], [.ref 43], M31)) rfl ?_
  refine w_gf (v := .ref 55) hR32 rfl rfl rfl rfl ?_
  refine w_adv (n := 1) (F' := (17, [(0, .ref 43)], [.int (Int32.ofInt (0)), .ref 55], M31)) rfl ?_
  obtain ⟨r33a, r33b, r33c⟩ : 0 ≤ (I3a 3521) ∧ (I3a 3521) ≤ (C3a 55 : Int) ∧ (C3a 55 : Int) ≤ 131072 := hR32.sz (show 55 ∈ w_TM.2.2 by decide)
  refine w_pf hR32 rfl rfl rfl rfl (show w_in (0) from ⟨by omega, by omega⟩) (fun _ _ => (show 0 ≤ 0 ∧ 0 ≤ (C3a 55 : Int) by omega)) (fun M34 hR35 => ?_)
  replace hR35 : w_Rep w_TM fr X u l (w_up (w_up I3a 3393 (0)) 3521 (0)) A3a B3a C3a M34 := hR35
  refine w_adv (n := 1) (F' := (21, [(0, .ref 43)], [.ref 43], M34)) rfl ?_
  refine w_gf (v := .ref 57) hR35 rfl rfl rfl rfl ?_
  refine w_adv (n := 1) (F' := (25, [(0, .ref 43)], [.int (Int32.ofInt (0)), .ref 57], M34)) rfl ?_
  obtain ⟨r36a, r36b, r36c⟩ : 0 ≤ (I3a 3649) ∧ (I3a 3649) ≤ (C3a 57 : Int) ∧ (C3a 57 : Int) ≤ 131072 := hR35.sz (show 57 ∈ w_TM.2.2 by decide)
  refine w_pf hR35 rfl rfl rfl rfl (show w_in (0) from ⟨by omega, by omega⟩) (fun _ _ => (show 0 ≤ 0 ∧ 0 ≤ (C3a 57 : Int) by omega)) (fun M37 hR38 => ?_)
  replace hR38 : w_Rep w_TM fr X u l (w_up (w_up (w_up I3a 3393 (0)) 3521 (0)) 3649 (0)) A3a B3a C3a M37 := hR38
  refine w_adv (n := 1) (F' := (29, [(0, .ref 43)], [.ref 43], M37)) rfl ?_
  refine w_gf (v := .ref 59) hR38 rfl rfl rfl rfl ?_
  refine w_adv (n := 1) (F' := (33, [(0, .ref 43)], [.int (Int32.ofInt (0)), .ref 59], M37)) rfl ?_
  obtain ⟨r39a, r39b, r39c⟩ : 0 ≤ (I3a 3777) ∧ (I3a 3777) ≤ (C3a 59 : Int) ∧ (C3a 59 : Int) ≤ 131072 := hR38.sz (show 59 ∈ w_TM.2.2 by decide)
  refine w_pf hR38 rfl rfl rfl rfl (show w_in (0) from ⟨by omega, by omega⟩) (fun _ _ => (show 0 ≤ 0 ∧ 0 ≤ (C3a 59 : Int) by omega)) (fun M40 hR41 => ?_)
  replace hR41 : w_Rep w_TM fr X u l (w_up (w_up (w_up (w_up I3a 3393 (0)) 3521 (0)) 3649 (0)) 3777 (0)) A3a B3a C3a M40 := hR41
  refine w_adv (n := 1) (F' := (37, [(0, .ref 43)], [.ref 43], M40)) rfl ?_
  refine w_gf (v := .ref 61) hR41 rfl rfl rfl rfl ?_
  refine w_adv (n := 1) (F' := (41, [(0, .ref 43)], [.int (Int32.ofInt (0)), .ref 61], M40)) rfl ?_
  obtain ⟨r42a, r42b, r42c⟩ : 0 ≤ (I3a 3905) ∧ (I3a 3905) ≤ (C3a 61 : Int) ∧ (C3a 61 : Int) ≤ 131072 := hR41.sz (show 61 ∈ w_TM.2.2 by decide)
  refine w_pf hR41 rfl rfl rfl rfl (show w_in (0) from ⟨by omega, by omega⟩) (fun _ _ => (show 0 ≤ 0 ∧ 0 ≤ (C3a 61 : Int) by omega)) (fun M43 hR44 => ?_)
  replace hR44 : w_Rep w_TM fr X u l (w_up (w_up (w_up (w_up (w_up I3a 3393 (0)) 3521 (0)) 3649 (0)) 3777 (0)) 3905 (0)) A3a B3a C3a M43 := hR44
  refine w_adv (n := 1) (F' := (45, [(0, .ref 43)], [.ref 43], M43)) rfl ?_
  refine w_gf (v := .ref 88) hR44 rfl rfl rfl rfl ?_
  refine w_adv (n := 1) (F' := (49, [(0, .ref 43)], [.int (Int32.ofInt (0)), .ref 88], M43)) rfl ?_
  obtain ⟨r45a, r45b, r45c⟩ : 0 ≤ (I3a 5633) ∧ (I3a 5633) ≤ (C3a 88 : Int) ∧ (C3a 88 : Int) ≤ 131072 := hR44.sz (show 88 ∈ w_TM.2.2 by decide)
  refine w_pf hR44 rfl rfl rfl rfl (show w_in (0) from ⟨by omega, by omega⟩) (fun _ _ => (show 0 ≤ 0 ∧ 0 ≤ (C3a 88 : Int) by omega)) (fun M46 hR47 => ?_)
  replace hR47 : w_Rep w_TM fr X u l (w_up (w_up (w_up (w_up (w_up (w_up I3a 3393 (0)) 3521 (0)) 3649 (0)) 3777 (0)) 3905 (0)) 5633 (0)) A3a B3a C3a M46 := hR47
  refine w_adv (n := 1) (F' := (53, [(0, .ref 43)], [.ref 43], M46)) rfl ?_
  refine w_gf (v := .ref 90) hR47 rfl rfl rfl rfl ?_
  refine w_adv (n := 1) (F' := (57, [(0, .ref 43)], [.int (Int32.ofInt (0)), .ref 90], M46)) rfl ?_
  obtain ⟨r48a, r48b, r48c⟩ : 0 ≤ (I3a 5761) ∧ (I3a 5761) ≤ (C3a 90 : Int) ∧ (C3a 90 : Int) ≤ 131072 := hR47.sz (show 90 ∈ w_TM.2.2 by decide)
  refine w_pf hR47 rfl rfl rfl rfl (show w_in (0) from ⟨by omega, by omega⟩) (fun _ _ => (show 0 ≤ 0 ∧ 0 ≤ (C3a 90 : Int) by omega)) (fun M49 hR50 => ?_)
  replace hR50 : w_Rep w_TM fr X u l (w_up (w_up (w_up (w_up (w_up (w_up (w_up I3a 3393 (0)) 3521 (0)) 3649 (0)) 3777 (0)) 3905 (0)) 5633 (0)) 5761 (0)) A3a B3a C3a M49 := hR50
  refine w_adv (n := 1) (F' := (61, [(0, .ref 43)], [.ref 43], M49)) rfl ?_
  refine w_gf (v := .ref 92) hR50 rfl rfl rfl rfl ?_
  refine w_adv (n := 1) (F' := (65, [(0, .ref 43)], [.int (Int32.ofInt (0)), .ref 92], M49)) rfl ?_
  obtain ⟨r51a, r51b, r51c⟩ : 0 ≤ (I3a 5889) ∧ (I3a 5889) ≤ (C3a 92 : Int) ∧ (C3a 92 : Int) ≤ 131072 := hR50.sz (show 92 ∈ w_TM.2.2 by decide)
  refine w_pf hR50 rfl rfl rfl rfl (show w_in (0) from ⟨by omega, by omega⟩) (fun _ _ => (show 0 ≤ 0 ∧ 0 ≤ (C3a 92 : Int) by omega)) (fun M52 hR53 => ?_)
  replace hR53 : w_Rep w_TM fr X u l (w_up (w_up (w_up (w_up (w_up (w_up (w_up (w_up I3a 3393 (0)) 3521 (0)) 3649 (0)) 3777 (0)) 3905 (0)) 5633 (0)) 5761 (0)) 5889 (0)) A3a B3a C3a M52 := hR53
  refine w_adv (n := 2) (F' := (70, [(0, .ref 43)], [.int (Int32.ofInt (0)), .ref 43], M52)) rfl ?_
  refine w_pf hR53 rfl rfl rfl rfl (show w_in (0) from ⟨by omega, by omega⟩) (fun h => absurd h (by decide)) (fun M54 hR55 => ?_)
  replace hR55 : w_Rep w_TM fr X u l (w_up (w_up (w_up (w_up (w_up (w_up (w_up (w_up (w_up I3a 3393 (0)) 3521 (0)) 3649 (0)) 3777 (0)) 3905 (0)) 5633 (0)) 5761 (0)) 5889 (0)) 2774 (0)) A3a B3a C3a M54 := hR55
  refine w_adv (n := 2) (F' := (75, [(0, .ref 43)], [.int (Int32.ofInt (0)), .ref 43], M54)) rfl ?_
  refine w_pf hR55 rfl rfl rfl rfl (show w_in (0) from ⟨by omega, by omega⟩) (fun h => absurd h (by decide)) (fun M56 hR57 => ?_)
  replace hR57 : w_Rep w_TM fr X u l (w_up (w_up (w_up (w_up (w_up (w_up (w_up (w_up (w_up (w_up I3a 3393 (0)) 3521 (0)) 3649 (0)) 3777 (0)) 3905 (0)) 5633 (0)) 5761 (0)) 5889 (0)) 2774 (0)) 2775 (0)) A3a B3a C3a M56 := hR57
  refine w_adv (n := 2) (F' := (80, [(0, .ref 43)], [.int (Int32.ofInt (0)), .ref 43], M56)) rfl ?_
  refine w_pf hR57 rfl rfl rfl rfl (show w_in (0) from ⟨by omega, by omega⟩) (fun h => absurd h (by decide)) (fun M58 hR59 => ?_)
  replace hR59 : w_Rep w_TM fr X u l (w_up (w_up (w_up (w_up (w_up (w_up (w_up (w_up (w_up (w_up (w_up I3a 3393 (0)) 3521 (0)) 3649 (0)) 3777 (0)) 3905 (0)) 5633 (0)) 5761 (0)) 5889 (0)) 2774 (0)) 2775 (0)) 2778 (0)) A3a B3a C3a M58 := hR59
  refine w_adv (n := 2) (F' := (85, [(0, .ref 43)], [.int (Int32.ofInt ((-1))), .ref 43], M58)) rfl ?_
  refine w_pf hR59 rfl rfl rfl rfl (show w_in ((-1)) from ⟨by omega, by omega⟩) (fun h => absurd h (by decide)) (fun M60 hR61 => ?_)
  replace hR61 : w_Rep w_TM fr X u l (w_up (w_up (w_up (w_up (w_up (w_up (w_up (w_up (w_up (w_up (w_up (w_up I3a 3393 (0)) 3521 (0)) 3649 (0)) 3777 (0)) 3905 (0)) 5633 (0)) 5761 (0)) 5889 (0)) 2774 (0)) 2775 (0)) 2778 (0)) 2779 ((-1))) A3a B3a C3a M60 := hR61
  refine w_adv (n := 1) (F' := (89, [(0, .ref 43)], [.ref 43], M60)) rfl ?_
  refine w_call (cm := 210) (as := [(0, .ref 43)]) (rest := []) (o := some (9, 43)) rfl (w_fitR hR61 rfl) (m_cutTokens hR61 (show 7 ≤ d by omega) (show 0 ≤ (I3a 2753) ∧ (I3a 2753) ≤ 8192 by first | assumption | omega) (show m_NA (w_up (w_up (w_up (w_up (w_up (w_up (w_up (w_up (w_up (w_up (w_up (w_up I3a 3393 (0)) 3521 (0)) 3649 (0)) 3777 (0)) 3905 (0)) 5633 (0)) 5761 (0)) 5889 (0)) 2774 (0)) 2775 (0)) 2778 (0)) 2779 ((-1))) A3a by exact f6)) (fun r62 M63 q64 => ?_)
  rcases q64 with ⟨g4565, g4666, g4767, g4868, g4969, g5070, g5171, g5272, i275473, i275974, i276075, i276376, e77, hR64a, f78, f79⟩
  rw [e77]
  replace hR64a : w_Rep w_TM fr X u l (w_up (w_up (w_up (w_up (w_up (w_up (w_up (w_up (w_up (w_up (w_up (w_up (w_up (w_up (w_up (w_up I3a 3393 (0)) 3521 (0)) 3649 (0)) 3777 (0)) 3905 (0)) 5633 (0)) 5761 (0)) 5889 (0)) 2774 (0)) 2775 (0)) 2778 (0)) 2779 ((-1))) 2754 (i275473)) 2759 (i275974)) 2760 (i276075)) 2763 (i276376)) (w_upF (w_upF (w_upF (w_upF (w_upF (w_upF (w_upF (w_upF A3a 45 g4565) 46 g4666) 47 g4767) 48 g4868) 49 g4969) 50 g5070) 51 g5171) 52 g5272) B3a C3a M63 := hR64a
  replace f78 : m_NA (w_up (w_up (w_up (w_up (w_up (w_up (w_up (w_up (w_up (w_up (w_up (w_up (w_up (w_up (w_up (w_up I3a 3393 (0)) 3521 (0)) 3649 (0)) 3777 (0)) 3905 (0)) 5633 (0)) 5761 (0)) 5889 (0)) 2774 (0)) 2775 (0)) 2778 (0)) 2779 ((-1))) 2754 (i275473)) 2759 (i275974)) 2760 (i276075)) 2763 (i276376)) (w_upF (w_upF (w_upF (w_upF (w_upF (w_upF (w_upF (w_upF A3a 45 g4565) 46 g4666) 47 g4767) 48 g4868) 49 g4969) 50 g5070) 51 g5171) 52 g5272) := f78
  replace f79 : m_TK (w_up (w_up (w_up (w_up (w_up (w_up (w_up (w_up (w_up (w_up (w_up (w_up (w_up (w_up (w_up (w_up I3a 3393 (0)) 3521 (0)) 3649 (0)) 3777 (0)) 3905 (0)) 5633 (0)) 5761 (0)) 5889 (0)) 2774 (0)) 2775 (0)) 2778 (0)) 2779 ((-1))) 2754 (i275473)) 2759 (i275974)) 2760 (i276075)) 2763 (i276376)) (w_upF (w_upF (w_upF (w_upF (w_upF (w_upF (w_upF (w_upF A3a 45 g4565) 46 g4666) 47 g4767) 48 g4868) 49 g4969) 50 g5070) 51 g5171) 52 g5272) := f79
  have tk0 : 1 ≤ i275473 ∧ i275473 ≤ 1501 := f79.1
  have bgc : m_BG (w_upF (w_upF (w_upF (w_upF (w_upF (w_upF (w_upF (w_upF A3a 45 g4565) 46 g4666) 47 g4767) 48 g4868) 49 g4969) 50 g5070) 51 g5171) 52 g5272) 7 := f7
  show w_W _ _ _ (92, [(0, .ref 43)], [], M63) _
  refine w_adv (n := 1) (F' := (93, [(0, .ref 43)], [.ref 43], M63)) rfl ?_
  refine w_call (cm := 227) (as := [(0, .ref 43)]) (rest := []) (o := some (9, 43)) rfl (w_fitR hR64a rfl) ((m_all_ok L xs 1502).2.1 ((fun _ => ((0 : Int), (0 : Int)))) hR64a (show 20 * (24 - 0) + 19 ≤ (d : Int) by omega) (show m_TK (w_up (w_up (w_up (w_up (w_up (w_up (w_up (w_up (w_up (w_up (w_up (w_up (w_up (w_up (w_up (w_up I3a 3393 (0)) 3521 (0)) 3649 (0)) 3777 (0)) 3905 (0)) 5633 (0)) 5761 (0)) 5889 (0)) 2774 (0)) 2775 (0)) 2778 (0)) 2779 ((-1))) 2754 (i275473)) 2759 (i275974)) 2760 (i276075)) 2763 (i276376)) (w_upF (w_upF (w_upF (w_upF (w_upF (w_upF (w_upF (w_upF A3a 45 g4565) 46 g4666) 47 g4767) 48 g4868) 49 g4969) 50 g5070) 51 g5171) 52 g5272) by exact f79) (show (0 ≤ 0 ∧ 0 < i275473 ∧ i275473 ≤ 1501 ∧ 0 ≤ 0 ∧ 0 ≤ 24) ∧ (0 = 0 ∧ 0 = 0 ∧ 0 = 0 ∧ 0 = 0 ∧ 0 ≤ 0 ∧ 0 ≤ 3 * 0) ∧ ((I3a 4161) = (I3a 4033) ∧ 7 ≤ (I3a 4289) ∧ (I3a 4289) ≤ (I3a 4033) ∧ (I3a 4033) ≤ 7 + 0) ∧ 0 ≤ 0 ∧ 0 ≤ 0 by (repeat' apply And.intro) <;> first | assumption | omega) (show m_SC (w_up (w_up (w_up (w_up (w_up (w_up (w_up (w_up (w_up (w_up (w_up (w_up (w_up (w_up (w_up (w_up I3a 3393 (0)) 3521 (0)) 3649 (0)) 3777 (0)) 3905 (0)) 5633 (0)) 5761 (0)) 5889 (0)) 2774 (0)) 2775 (0)) 2778 (0)) 2779 ((-1))) 2754 (i275473)) 2759 (i275974)) 2760 (i276075)) 2763 (i276376)) (w_upF (w_upF (w_upF (w_upF (w_upF (w_upF (w_upF (w_upF A3a 45 g4565) 46 g4666) 47 g4767) 48 g4868) 49 g4969) 50 g5070) 51 g5171) 52 g5272) by exact m_SC_of (n := 7) bgc (show (I3a 4289) = 7 by omega) (show (I3a 4033) = 7 by omega)) (show m_TR (fun _ => ((0 : Int), (0 : Int))) (w_up (w_up (w_up (w_up (w_up (w_up (w_up (w_up (w_up (w_up (w_up (w_up (w_up (w_up (w_up (w_up I3a 3393 (0)) 3521 (0)) 3649 (0)) 3777 (0)) 3905 (0)) 5633 (0)) 5761 (0)) 5889 (0)) 2774 (0)) 2775 (0)) 2778 (0)) 2779 ((-1))) 2754 (i275473)) 2759 (i275974)) 2760 (i276075)) 2763 (i276376)) (w_upF (w_upF (w_upF (w_upF (w_upF (w_upF (w_upF (w_upF A3a 45 g4565) 46 g4666) 47 g4767) 48 g4868) 49 g4969) 50 g5070) 51 g5171) 52 g5272) by exact fun p a b => by exfalso; have b : p < 0 := b; omega) (show i275473 - 0 < ((1502 : Nat) : Int) by first | assumption | omega)) (fun r80 M81 q82 => ?_)
  rcases q82 with ⟨v83, lo84, I82a, A82a, B82a, C82a, e85, ⟨r86, r87⟩, hR82a, f88, f89, f90, f91, f92, f93, f94, f95⟩ | ⟨I82b, A82b, B82b, C82b, e96, hR82b, f97⟩
  · rw [e85]
    replace hR82a : w_Rep w_TM fr X u l I82a A82a B82a C82a M81 := hR82a
    replace f88 : m_fx (w_up (w_up (w_up (w_up (w_up (w_up (w_up (w_up (w_up (w_up (w_up (w_up (w_up (w_up (w_up (w_up I3a 3393 (0)) 3521 (0)) 3649 (0)) 3777 (0)) 3905 (0)) 5633 (0)) 5761 (0)) 5889 (0)) 2774 (0)) 2775 (0)) 2778 (0)) 2779 ((-1))) 2754 (i275473)) 2759 (i275974)) 2760 (i276075)) 2763 (i276376)) (w_upF (w_upF (w_upF (w_upF (w_upF (w_upF (w_upF (w_upF A3a 45 g4565) 46 g4666) 47 g4767) 48 g4868) 49 g4969) 50 g5070) 51 g5171) 52 g5272) I82a A82a := f88
    replace f89 : ((0 ≤ (I82a 2774) ∧ (I82a 2774) < (I82a 2754) ∧ (I82a 2754) ≤ 1501 ∧ 0 ≤ (I82a 2775) ∧ (I82a 2775) ≤ 24) ∧ ((I82a 3393) = (I82a 3905) ∧ (I82a 3521) = (I82a 3905) ∧ (I82a 3649) = (I82a 3905) ∧ (I82a 3777) = (I82a 3905) ∧ 0 ≤ (I82a 3905) ∧ (I82a 3905) ≤ 3 * (I82a 2774)) ∧ ((I82a 4161) = (I82a 4033) ∧ 7 ≤ (I82a 4289) ∧ (I82a 4289) ≤ (I82a 4033) ∧ (I82a 4033) ≤ 7 + (I82a 2774)) ∧ 0 ≤ (I82a 5889) ∧ (I82a 5889) ≤ (I82a 2774)) ∧ ((I82a 2754) = i275473 ∧ 0 + 1 ≤ (I82a 2774) ∧ (I82a 2775) = 0 ∧ (I82a 4289) = (I3a 4289) + 0 ∧ (I82a 5889) = 0) ∧ ((I82a 3905) + 1 ≤ 0 + 3 * ((I82a 2774) - 0) ∧ 0 ≤ v83 ∧ v83 + 1 = (I82a 3905) ∧ (I3a 4033) ≤ (I82a 4033) ∧ (I82a 4033) ≤ (I3a 4033) + ((I82a 2774) - 0)) := f89
    obtain ⟨⟨⟨n98, n99, n100, n101, n102⟩, ⟨n103, n104, n105, n106, n107, n108⟩, ⟨n109, n110, n111, n112⟩, n113, n114⟩, ⟨n115, n116, n117, n118, n119⟩, ⟨n120, n121, n122, n123, n124⟩⟩ := id f89
    clear f89
    replace f90 : m_SC I82a A82a := f90
    replace f91 : m_TR lo84 I82a A82a := f91
    replace f92 : m_ST (fun _ => ((0 : Int), (0 : Int))) (w_up (w_up (w_up (w_up (w_up (w_up (w_up (w_up (w_up (w_up (w_up (w_up (w_up (w_up (w_up (w_up I3a 3393 (0)) 3521 (0)) 3649 (0)) 3777 (0)) 3905 (0)) 5633 (0)) 5761 (0)) 5889 (0)) 2774 (0)) 2775 (0)) 2778 (0)) 2779 ((-1))) 2754 (i275473)) 2759 (i275974)) 2760 (i276075)) 2763 (i276376)) (w_upF (w_upF (w_upF (w_upF (w_upF (w_upF (w_upF (w_upF A3a 45 g4565) 46 g4666) 47 g4767) 48 g4868) 49 g4969) 50 g5070) 51 g5171) 52 g5272) lo84 I82a A82a := f92
    replace f93 : ((A82a 53)) (v83) = 25 := f93
    replace f94 : m_rt lo84 (I82a 3905) v83 := f94
    replace f95 : m_RK lo84 0 (I82a 3905) (8 * (24 - 0) + 7) := f95
    obtain ⟨⟨fb_2753, fb_2754, fb_2760, fb_2763, fb_6017, fb_4481, fb_4609, fb_4737, fb_4865, fb_4993, fb_5121, fb_5249, fb_5377, fb_5505, fb_5633, fb_5761⟩, ⟨-, -, -, -, -, -, -, -, -, fb_70⟩⟩ : ((I82a 2753) = (I3a 2753) ∧ (I82a 2754) = i275473 ∧ (I82a 2760) = i276075 ∧ (I82a 2763) = i276376 ∧ (I82a 6017) = (I3a 6017) ∧ (I82a 4481) = (I3a 4481) ∧ (I82a 4609) = (I3a 4609) ∧ (I82a 4737) = (I3a 4737) ∧ (I82a 4865) = (I3a 4865) ∧ (I82a 4993) = (I3a 4993) ∧ (I82a 5121) = (I3a 5121) ∧ (I82a 5249) = (I3a 5249) ∧ (I82a 5377) = (I3a 5377) ∧ (I82a 5505) = (I3a 5505) ∧ (I82a 5633) = 0 ∧ (I82a 5761) = 0) ∧ (A82a 44) = (A3a 44) ∧ (A82a 45) = g4565 ∧ (A82a 46) = g4666 ∧ (A82a 47) = g4767 ∧ (A82a 48) = g4868 ∧ (A82a 49) = g4969 ∧ (A82a 50) = g5070 ∧ (A82a 51) = g5171 ∧ (A82a 52) = g5272 ∧ (A82a 70) = (A3a 70) := id f88
    have nafb : m_NA I82a A82a := m_NA_fx f78 f88
    have vnb : m_VN I82a A82a := m_VN_of (n := 7) bgc (show (I82a 4481) = 7 by omega) fb_70
    have bib : m_BI I82a A82a := m_BI_of (show (I82a 5633) = 0 by omega) (show (I82a 4609) = 0 by omega) vnb f90
    have sl : (0 : Int) ≤ ((lo84) (v83)).1 := (f92.2.1 v83 (show 0 ≤ v83 by omega) (show v83 < (I82a 3905) by omega))
    have sr : ((lo84) (v83)).2 ≤ 8 * (24 - 0) + 7 := f95 v83 (show 0 ≤ v83 by omega) (show v83 < (I82a 3905) by omega)
    show w_W _ _ _ (96, [(0, .ref 43)], [.int (Int32.ofInt (v83))], M81) _
    refine w_adv (n := 2) (F' := (98, [(1, .int (Int32.ofInt (v83))), (0, .ref 43)], [.ref 43], M81)) rfl ?_
    refine w_gf (v := .ref 45) hR82a rfl rfl rfl rfl ?_
    refine w_adv (n := 1) (F' := (102, [(1, .int (Int32.ofInt (v83))), (0, .ref 43)], [.ref 43, .ref 45], M81)) rfl ?_
    refine w_gf (v := .int (Int32.ofInt ((I82a 2774)))) hR82a rfl rfl rfl rfl ?_
    obtain ⟨r125, r126⟩ : -2147483648 ≤ (I82a 2774) ∧ (I82a 2774) ≤ 2147483647 := hR82a.ri 2774
    refine w_la (n := 1502) hR82a rfl (Or.inl ⟨rfl, rfl⟩) rfl (show 0 ≤ (I82a 2774) by omega) (show (I82a 2774) < (1502 : Int) by omega) (by decide) ?_
    obtain ⟨r127, r128⟩ : -2147483648 ≤ (A82a 45) ((I82a 2774)) ∧ (A82a 45) ((I82a 2774)) ≤ 2147483647 := hR82a.ra 45 ((I82a 2774))
    show w_W _ _ _ (106, [(1, .int (Int32.ofInt (v83))), (0, .ref 43)], [.int (Int32.ofInt ((A82a 45) ((I82a 2774))))], M81) _
    refine w_br1 (a := (A82a 45) ((I82a 2774))) rfl rfl ⟨by omega, by omega⟩ (fun h129 => ?_) (fun h129 => ?_)
    · have h129 : (A82a 45) ((I82a 2774)) = 0 := h129
      show w_W _ _ _ (114, [(1, .int (Int32.ofInt (v83))), (0, .ref 43)], [], M81) _
      refine w_adv (n := 2) (F' := (116, [(1, .int (Int32.ofInt (v83))), (0, .ref 43)], [.int (Int32.ofInt (v83)), .ref 43], M81)) rfl ?_
      refine w_call (cm := 276) (as := [(0, .ref 43), (1, .int (Int32.ofInt (v83)))]) (rest := []) (o := some (9, 43)) rfl (w_fitR hR82a rfl) ((m_ball_ok L xs 4502).2.2 (v83) (lo84) ((v83 - ((lo84) v83).1 + 1)) ((199 : Int)) hR82a (show 6 * (199 : Int) + 12 ≤ (d : Int) by omega) ⟨by omega, by omega⟩ (show ((I82a 4737) = (I82a 4609) ∧ (I82a 4865) = (I82a 4609) ∧ (I82a 4993) = (I82a 4609) ∧ (I82a 5121) = (I82a 4609) ∧ (I82a 5249) = (I82a 4609) ∧ (I82a 5377) = (I82a 4609) ∧ (I82a 3393) = (I82a 3905) ∧ (I82a 3521) = (I82a 3905) ∧ (I82a 3649) = (I82a 3905) ∧ (I82a 3777) = (I82a 3905) ∧ (I82a 4161) = (I82a 4033)) ∧ (0 ≤ (I82a 4609) ∧ 0 ≤ (I82a 4481) ∧ 0 ≤ (I82a 5505) ∧ 0 ≤ (I82a 5633) ∧ 0 ≤ (I82a 5761) ∧ 0 ≤ (I82a 5889) ∧ 0 ≤ (I82a 6017) ∧ 0 ≤ (I82a 3905) ∧ 0 ≤ (I82a 4033)) by (repeat' apply And.intro) <;> first | assumption | omega) (show m_BI I82a A82a by exact bib) (show m_TR lo84 I82a A82a by exact f91) (show m_NA I82a A82a by exact nafb) (show (v83 = -1 ∧ (v83 - ((lo84) v83).1 + 1) = 0) ∨ (0 ≤ v83 ∧ v83 < (I82a 3905) ∧ ((A82a 53) (v83) = 25) ∧ (v83 - ((lo84) v83).1 + 1) = (v83 - (lo84 v83).1 + 1) ∧ (lo84 v83).2 ≤ (199 : Int)) by exact Or.inr ⟨by omega, by omega, f93, rfl, by omega⟩) (show 0 ≤ (199 : Int) by omega) (show (I82a 4609) + 4 * ((v83 - ((lo84) v83).1 + 1)) ≤ 64000 ∧ (I82a 4481) + 4 * ((v83 - ((lo84) v83).1 + 1)) ≤ 64000 ∧ (I82a 5633) + 4 * ((v83 - ((lo84) v83).1 + 1)) ≤ 64000 ∧ (I82a 5889) + 4 * ((v83 - ((lo84) v83).1 + 1)) ≤ 64000 ∧ (I82a 6017) + 4 * ((v83 - ((lo84) v83).1 + 1)) ≤ 64000 ∧ (I82a 5505) + (I82a 5761) + 8 * ((v83 - ((lo84) v83).1 + 1)) ≤ 64000 by (repeat' apply And.intro) <;> first | assumption | omega) (show v83 < ((4502 : Nat) : Int) - 1 by first | assumption | omega)) (fun r130 M131 q132 => ?_)
      rcases q132 with ⟨v133, I132a, A132a, B132a, C132a, e134, ⟨r135, r136⟩, hR132a, f137, f138, f139, f140⟩
      rw [e134]
      replace hR132a : w_Rep w_TM fr X u l I132a A132a B132a C132a M131 := hR132a
      replace f137 : m_gx I82a A82a I132a A132a := f137
      replace f138 : (((I132a 4737) = (I132a 4609) ∧ (I132a 4865) = (I132a 4609) ∧ (I132a 4993) = (I132a 4609) ∧ (I132a 5121) = (I132a 4609) ∧ (I132a 5249) = (I132a 4609) ∧ (I132a 5377) = (I132a 4609) ∧ (I132a 3393) = (I132a 3905) ∧ (I132a 3521) = (I132a 3905) ∧ (I132a 3649) = (I132a 3905) ∧ (I132a 3777) = (I132a 3905) ∧ (I132a 4161) = (I132a 4033)) ∧ (0 ≤ (I132a 4609) ∧ 0 ≤ (I132a 4481) ∧ 0 ≤ (I132a 5505) ∧ 0 ≤ (I132a 5633) ∧ 0 ≤ (I132a 5761) ∧ 0 ≤ (I132a 5889) ∧ 0 ≤ (I132a 6017) ∧ 0 ≤ (I132a 3905) ∧ 0 ≤ (I132a 4033))) ∧ ((I132a 3905) = (I82a 3905) ∧ (I132a 4033) = (I82a 4033) ∧ (I132a 5889) = (I82a 5889) ∧ (I132a 6017) = (I82a 6017)) ∧ (I82a 4609) ≤ (I132a 4609) ∧ (I132a 4609) ≤ (I82a 4609) + 4 * ((v83 - ((lo84) v83).1 + 1)) ∧ (I82a 4481) ≤ (I132a 4481) ∧ (I132a 4481) ≤ (I82a 4481) + 4 * ((v83 - ((lo84) v83).1 + 1)) ∧ (I132a 5761) = (I82a 5761) ∧ (I82a 5505) ≤ (I132a 5505) ∧ (I132a 5505) ≤ (I82a 5505) + 8 * ((v83 - ((lo84) v83).1 + 1)) ∧ (I132a 5633) = (I82a 5633) ∧ -1 ≤ v133 ∧ v133 < (I132a 4609) := f138
      obtain ⟨⟨⟨n141, n142, n143, n144, n145, n146, n147, n148, n149, n150, n151⟩, ⟨n152, n153, n154, n155, n156, n157, n158, n159, n160⟩⟩, ⟨n161, n162, n163, n164⟩, n165, n166, n167, n168, n169, n170, n171, n172, n173, n174⟩ := id f138
      clear f138
      replace f139 : m_BI I132a A132a := f139
      replace f140 : m_cp I82a A82a A132a := f140
      have nag : m_NA I132a A132a := m_NA_gx f137 nafb
      have g2753 : (I132a 2753) = (I82a 2753) := f137.1.1
      show w_W _ _ _ (119, [(1, .int (Int32.ofInt (v83))), (0, .ref 43)], [.int (Int32.ofInt (v133))], M131) _
      refine w_fin (r := .inl (some (v133))) (M' := M131) rfl ?_
      exact ⟨v133, I132a, A132a, B132a, C132a, rfl, ⟨by omega, by omega⟩, hR132a, (show ((I132a 2753) = (I 2753)) ∧ ((I132a 4737) = (I132a 4609) ∧ (I132a 4865) = (I132a 4609) ∧ (I132a 4993) = (I132a 4609) ∧ (I132a 5121) = (I132a 4609) ∧ (I132a 5249) = (I132a 4609) ∧ (I132a 5377) = (I132a 4609)) ∧ (0 ≤ (I132a 4609) ∧ 0 ≤ (I132a 4481) ∧ 0 ≤ (I132a 5505)) ∧ (I132a 6017) = 0 by (repeat' apply And.intro) <;> first | assumption | omega), (show m_NA I132a A132a by exact nag), (show m_IT I132a A132a by exact f139.2.1), (show m_VN I132a A132a by exact f139.2.2.1)⟩
    · have h129 : ¬ ((A82a 45) ((I82a 2774)) = 0) := h129
      show w_W _ _ _ (109, [(1, .int (Int32.ofInt (v83))), (0, .ref 43)], [], M81) _
      refine w_adv (n := 2) (F' := (111, [(1, .int (Int32.ofInt (v83))), (0, .ref 43)], [.int (Int32.ofInt (1)), .ref 43], M81)) rfl ?_
      refine w_call (cm := 232) (as := [(0, .ref 43), (1, .int (Int32.ofInt (1)))]) (rest := []) (o := some (9, 43)) rfl (w_fitR hR82a rfl) (m_fail (1) hR82a ⟨by omega, by omega⟩ (show 0 ≤ (I82a 2774) ∧ (I82a 2774) < 1501 by first | assumption | omega) (show 1 ≤ 1 ∧ 1 ≤ 7 by first | assumption | omega)) (fun r175 M176 q177 => ?_)
      rcases q177 with ⟨I177a, A177a, B177a, C177a, e178, hR177a, f179⟩
      rw [e178]
      replace hR177a : w_Rep w_TM fr X u l I177a A177a B177a C177a M176 := hR177a
      replace f179 : m_fx I82a A82a I177a A177a := f179
      obtain ⟨⟨ff_2753, ff_2754, ff_2760, ff_2763, ff_6017, ff_4481, ff_4609, ff_4737, ff_4865, ff_4993, ff_5121, ff_5249, ff_5377, ff_5505, ff_5633, ff_5761⟩, ⟨-, -, -, -, -, -, -, -, -, ff_70⟩⟩ : ((I177a 2753) = (I82a 2753) ∧ (I177a 2754) = (I82a 2754) ∧ (I177a 2760) = (I82a 2760) ∧ (I177a 2763) = (I82a 2763) ∧ (I177a 6017) = (I82a 6017) ∧ (I177a 4481) = (I82a 4481) ∧ (I177a 4609) = (I82a 4609) ∧ (I177a 4737) = (I82a 4737) ∧ (I177a 4865) = (I82a 4865) ∧ (I177a 4993) = (I82a 4993) ∧ (I177a 5121) = (I82a 5121) ∧ (I177a 5249) = (I82a 5249) ∧ (I177a 5377) = (I82a 5377) ∧ (I177a 5505) = (I82a 5505) ∧ (I177a 5633) = (I82a 5633) ∧ (I177a 5761) = (I82a 5761)) ∧ (A177a 44) = (A82a 44) ∧ (A177a 45) = (A82a 45) ∧ (A177a 46) = (A82a 46) ∧ (A177a 47) = (A82a 47) ∧ (A177a 48) = (A82a 48) ∧ (A177a 49) = (A82a 49) ∧ (A177a 50) = (A82a 50) ∧ (A177a 51) = (A82a 51) ∧ (A177a 52) = (A82a 52) ∧ (A177a 70) = (A82a 70) := id f179
      have naff : m_NA I177a A177a := m_NA_fx nafb f179
      refine ⟨⟨_, hR177a.o (show w_TM.1 69 = some (11, []) from rfl)⟩, ?_⟩
      refine w_adv (n := 2) (F' := (122, [(1, .ref 69), (0, .ref 43)], [.ref 43], M176)) rfl ?_
      refine w_call (cm := 206) (as := [(0, .ref 43)]) (rest := []) (o := some (9, 43)) rfl (w_fitR hR177a rfl) (m_begin hR177a (show 5 ≤ d by omega) (show m_NA I177a A177a by exact naff)) (fun r180 M181 q182 => ?_)
      rcases q182 with ⟨I182a, A182a, B182a, C182a, e183, hR182a, f184, f185, f186⟩
      rw [e183]
      replace hR182a : w_Rep w_TM fr X u l I182a A182a B182a C182a M181 := hR182a
      replace f184 : ((I182a 4481) = 7 ∧ (I182a 4033) = 7 ∧ (I182a 4161) = 7 ∧ (I182a 4289) = 7) ∧ ((I182a 4609) = 0 ∧ (I182a 4737) = 0 ∧ (I182a 4865) = 0 ∧ (I182a 4993) = 0 ∧ (I182a 5121) = 0 ∧ (I182a 5249) = 0 ∧ (I182a 5377) = 0 ∧ (I182a 5505) = 0) ∧ ((I182a 2753) = (I177a 2753) ∧ (I182a 3393) = (I177a 3393) ∧ (I182a 3521) = (I177a 3521) ∧ (I182a 3649) = (I177a 3649) ∧ (I182a 3777) = (I177a 3777) ∧ (I182a 3905) = (I177a 3905) ∧ (I182a 5633) = (I177a 5633) ∧ (I182a 5761) = (I177a 5761) ∧ (I182a 5889) = (I177a 5889) ∧ (I182a 6017) = (I177a 6017)) := f184
      obtain ⟨⟨n187, n188, n189, n190⟩, ⟨n191, n192, n193, n194, n195, n196, n197, n198⟩, ⟨n199, n200, n201, n202, n203, n204, n205, n206, n207, n208⟩⟩ := id f184
      clear f184
      replace f185 : m_NA I182a A182a := f185
      replace f186 : m_BG A182a 7 := f186
      skip
      show w_W _ _ _ (125, [(1, .ref 69), (0, .ref 43)], [], M181) _
      refine w_adv (n := 2) (F' := (127, [(1, .ref 69), (0, .ref 43)], [.int (Int32.ofInt (1)), .ref 43], M181)) rfl ?_
      refine w_pf hR182a rfl rfl rfl rfl (show w_in (1) from ⟨by omega, by omega⟩) (fun h => absurd h (by decide)) (fun M209 hR210 => ?_)
      replace hR210 : w_Rep w_TM fr X u l (w_up I182a 2780 (1)) A182a B182a C182a M209 := hR210
      refine w_adv (n := 2) (F' := (132, [(1, .ref 69), (0, .ref 43)], [.int (Int32.ofInt (1)), .ref 43], M209)) rfl ?_
      refine w_pf hR210 rfl rfl rfl rfl (show w_in (1) from ⟨by omega, by omega⟩) (fun h => absurd h (by decide)) (fun M211 hR212 => ?_)
      replace hR212 : w_Rep w_TM fr X u l (w_up (w_up I182a 2780 (1)) 2781 (1)) A182a B182a C182a M211 := hR212
      refine w_adv (n := 2) (F' := (137, [(2, .int (Int32.ofInt (0))), (1, .ref 69), (0, .ref 43)], [], M211)) rfl ?_
      have lp137 : ∀ fu137 : Nat, ∀ (y137_2 : Int) (gi137_2780 : Int) (gi137_2781 : Int) (M_137 : w_M) (hR_137 : w_Rep w_TM fr X u l (w_up (w_up I182a 2780 (gi137_2780)) 2781 (gi137_2781)) A182a B182a C182a M_137), w_in y137_2 → 0 ≤ y137_2 → (if y137_2 < (I182a 2779) then (I182a 2779) - y137_2 else 0) < (fu137 : Int) → w_W (z_P L xs) (d + 1) 312 (137, [(0, .ref 43), (2, .int (Int32.ofInt (y137_2)))], [], M_137) (m_read_Q fr X u l I A B C M) := by
        intro fu137
        induction fu137 with
        | zero =>
          intro y137_2 gi137_2780 gi137_2781 M_137 hR_137 ⟨ra_y137_2, rb_y137_2⟩ hi137_0 hn137
          exfalso
          omega
        | succ fu137 ih137 =>
          intro y137_2 gi137_2780 gi137_2781 M_137 hR_137 ⟨ra_y137_2, rb_y137_2⟩ hi137_0 hn137
          refine w_adv (n := 2) (F' := (139, [(0, .ref 43), (2, .int (Int32.ofInt (y137_2)))], [.ref 43, .int (Int32.ofInt (y137_2))], M_137)) rfl ?_
          refine w_gf (v := .int (Int32.ofInt ((I182a 2779)))) hR_137 rfl rfl rfl rfl ?_
          obtain ⟨r213, r214⟩ : -2147483648 ≤ (I182a 2779) ∧ (I182a 2779) ≤ 2147483647 := hR_137.ri 2779
          refine w_br2 (a := y137_2) (b := (I182a 2779)) rfl rfl ⟨by omega, by omega⟩ ⟨by omega, by omega⟩ (fun h215 => ?_) (fun h215 => ?_)
          · have h215 : y137_2 ≥ (I182a 2779) := h215
            show w_W _ _ _ (202, [(0, .ref 43), (2, .int (Int32.ofInt (y137_2)))], [], M_137) _
            refine w_adv (n := 1) (F' := (203, [(0, .ref 43), (2, .int (Int32.ofInt (y137_2)))], [.int (Int32.ofInt ((-1)))], M_137)) rfl ?_
            refine w_fin (r := .inl (some ((-1)))) (M' := M_137) rfl ?_
            exact ⟨(-1), (w_up (w_up I182a 2780 (gi137_2780)) 2781 (gi137_2781)), A182a, B182a, C182a, rfl, ⟨by omega, by omega⟩, hR_137, (show ((I182a 2753) = (I 2753)) ∧ ((I182a 4737) = (I182a 4609) ∧ (I182a 4865) = (I182a 4609) ∧ (I182a 4993) = (I182a 4609) ∧ (I182a 5121) = (I182a 4609) ∧ (I182a 5249) = (I182a 4609) ∧ (I182a 5377) = (I182a 4609)) ∧ (0 ≤ (I182a 4609) ∧ 0 ≤ (I182a 4481) ∧ 0 ≤ (I182a 5505)) ∧ (I182a 6017) = 0 by (repeat' apply And.intro) <;> first | assumption | omega), (show m_NA (w_up (w_up I182a 2780 (gi137_2780)) 2781 (gi137_2781)) A182a by exact f185), (show m_IT (w_up (w_up I182a 2780 (gi137_2780)) 2781 (gi137_2781)) A182a by exact m_IT_nil (show (I182a 4609) = 0 by omega)), (show m_VN (w_up (w_up I182a 2780 (gi137_2780)) 2781 (gi137_2781)) A182a by exact m_VN_of (n := 7) f186 (show (I182a 4481) = 7 by omega) rfl)⟩
          · have h215 : ¬ (y137_2 ≥ (I182a 2779)) := h215
            show w_W _ _ _ (145, [(0, .ref 43), (2, .int (Int32.ofInt (y137_2)))], [], M_137) _
            refine w_adv (n := 3) (F' := (148, [(0, .ref 43), (2, .int (Int32.ofInt (y137_2)))], [.int (Int32.ofInt (y137_2)), .ref 43, .ref 43], M_137)) rfl ?_
            refine w_call (cm := 212) (as := [(0, .ref 43), (1, .int (Int32.ofInt (y137_2)))]) (rest := [.ref 43]) (o := some (9, 43)) rfl (w_fitR hR_137 rfl) (m_byteAt (y137_2) hR_137 ⟨by omega, by omega⟩ (show 0 ≤ (I182a 2753) ∧ (I182a 2753) ≤ 8192 by first | assumption | omega) (show 0 ≤ y137_2 by first | assumption | omega)) (fun r216 M217 q218 => ?_)
            rcases q218 with ⟨v219, e220, ⟨r221, r222⟩, e223, f224, f225⟩
            rw [e220, e223]
            replace f224 : v219 = m_by (A182a 44) (I182a 2753) (y137_2) := f224
            replace f225 : (I182a 2753) ≤ y137_2 → v219 = 0 := f225
            show w_W _ _ _ (151, [(0, .ref 43), (2, .int (Int32.ofInt (y137_2)))], [.int (Int32.ofInt (v219)), .ref 43], M_137) _
            refine w_adv (n := 1) (F' := (153, [(0, .ref 43), (2, .int (Int32.ofInt (y137_2)))], [.int (Int32.ofInt (10)), .int (Int32.ofInt (v219)), .ref 43], M_137)) rfl ?_
            refine w_br2 (a := v219) (b := 10) rfl rfl ⟨by omega, by omega⟩ ⟨by omega, by omega⟩ (fun h226 => ?_) (fun h226 => ?_)
            · have h226 : ¬ v219 = 10 := h226
              show w_W _ _ _ (165, [(0, .ref 43), (2, .int (Int32.ofInt (y137_2)))], [.ref 43], M_137) _
              refine w_adv (n := 1) (F' := (166, [(0, .ref 43), (2, .int (Int32.ofInt (y137_2)))], [.ref 43, .ref 43], M_137)) rfl ?_
              refine w_gf (v := .int (Int32.ofInt (gi137_2780))) hR_137 rfl rfl rfl rfl ?_
              obtain ⟨r227, r228⟩ : -2147483648 ≤ gi137_2780 ∧ gi137_2780 ≤ 2147483647 := hR_137.ri 2780
              refine w_pf hR_137 rfl rfl rfl rfl (show w_in (gi137_2780) from ⟨by omega, by omega⟩) (fun h => absurd h (by decide)) (fun M229 hR230 => ?_)
              replace hR230 : w_Rep w_TM fr X u l (w_up (w_up I182a 2781 (gi137_2781)) 2780 (gi137_2780)) A182a B182a C182a M229 := w_Rep.up hR230 (show (w_up (w_up I182a 2781 (gi137_2781)) 2780 (gi137_2780)) = _ from (funext fun s => if e0 : s = 2780 then (by subst e0; rfl) else if e1 : s = 2781 then (by subst e1; rfl) else (by simp only [w_up_ne e0, w_up_ne e1]))) rfl
              refine w_adv (n := 3) (F' := (175, [(0, .ref 43), (2, .int (Int32.ofInt (y137_2)))], [.int (Int32.ofInt (y137_2)), .ref 43, .ref 43], M229)) rfl ?_
              refine w_call (cm := 212) (as := [(0, .ref 43), (1, .int (Int32.ofInt (y137_2)))]) (rest := [.ref 43]) (o := some (9, 43)) rfl (w_fitR hR230 rfl) (m_byteAt (y137_2) hR230 ⟨by omega, by omega⟩ (show 0 ≤ (I182a 2753) ∧ (I182a 2753) ≤ 8192 by first | assumption | omega) (show 0 ≤ y137_2 by first | assumption | omega)) (fun r231 M232 q233 => ?_)
              rcases q233 with ⟨v234, e235, ⟨r236, r237⟩, e238, f239, f240⟩
              rw [e235, e238]
              replace f239 : v234 = m_by (A182a 44) (I182a 2753) (y137_2) := f239
              replace f240 : (I182a 2753) ≤ y137_2 → v234 = 0 := f240
              show w_W _ _ _ (178, [(0, .ref 43), (2, .int (Int32.ofInt (y137_2)))], [.int (Int32.ofInt (v234)), .ref 43], M229) _
              refine w_adv (n := 1) (F' := (180, [(0, .ref 43), (2, .int (Int32.ofInt (y137_2)))], [.int (Int32.ofInt (10)), .int (Int32.ofInt (v234)), .ref 43], M229)) rfl ?_
              refine w_br2 (a := v234) (b := 10) rfl rfl ⟨by omega, by omega⟩ ⟨by omega, by omega⟩ (fun h241 => ?_) (fun h241 => ?_)
              · have h241 : ¬ v234 = 10 := h241
                show w_W _ _ _ (187, [(0, .ref 43), (2, .int (Int32.ofInt (y137_2)))], [.ref 43], M229) _
                refine w_adv (n := 1) (F' := (188, [(0, .ref 43), (2, .int (Int32.ofInt (y137_2)))], [.ref 43, .ref 43], M229)) rfl ?_
                refine w_gf (v := .int (Int32.ofInt (gi137_2781))) hR230 rfl rfl rfl rfl ?_
                obtain ⟨r242, r243⟩ : -2147483648 ≤ gi137_2781 ∧ gi137_2781 ≤ 2147483647 := hR230.ri 2781
                refine w_adv (n := 1) (F' := (192, [(0, .ref 43), (2, .int (Int32.ofInt (y137_2)))], [.int (Int32.ofInt (1)), .int (Int32.ofInt (gi137_2781)), .ref 43], M229)) rfl ?_
                refine w_add rfl ?_
                refine w_int (fun x244 r245 e246 => ?_)
                obtain ⟨r245a, r245b⟩ := r245
                clear e246
                refine w_pf hR230 rfl rfl rfl rfl (show w_in (x244) from ⟨by omega, by omega⟩) (fun h => absurd h (by decide)) (fun M247 hR248 => ?_)
                replace hR248 : w_Rep w_TM fr X u l (w_up (w_up I182a 2780 (gi137_2780)) 2781 (x244)) A182a B182a C182a M247 := w_Rep.up hR248 (show (w_up (w_up I182a 2780 (gi137_2780)) 2781 (x244)) = _ from (funext fun s => if e0 : s = 2780 then (by subst e0; rfl) else if e1 : s = 2781 then (by subst e1; rfl) else (by simp only [w_up_ne e0, w_up_ne e1]))) rfl
                refine w_inc (nL := 3) (a := y137_2) rfl rfl rfl (by decide) ?_
                refine w_adv (n := 1) (F' := (137, [(2, .int (Int32.ofInt (y137_2 + 1))), (0, .ref 43)], [], M247)) rfl ?_
                refine w_ls (ls := [(0, .ref 43), (2, .int (Int32.ofInt (y137_2 + 1)))]) (show List.Nodup [0, 2] by decide) (show List.Nodup [2, 0] by decide) (List.forall_mem_cons.mpr ⟨(List.Mem.tail _ (List.Mem.head _)), (List.forall_mem_cons.mpr ⟨(List.Mem.head _), (fun _ h => by cases h)⟩)⟩) ?_
                exact ih137  (y137_2 + 1) (gi137_2780) (x244) M247 hR248 ⟨by omega, by omega⟩ (show 0 ≤ (y137_2 + 1) by omega) (show (if (y137_2 + 1) < (I182a 2779) then (I182a 2779) - (y137_2 + 1) else 0) < (fu137 : Int) by omega)
              · have h241 : ¬ (¬ v234 = 10) := h241
                show w_W _ _ _ (183, [(0, .ref 43), (2, .int (Int32.ofInt (y137_2)))], [.ref 43], M229) _
                refine w_adv (n := 2) (F' := (193, [(0, .ref 43), (2, .int (Int32.ofInt (y137_2)))], [.int (Int32.ofInt (1)), .ref 43], M229)) rfl ?_
                refine w_pf hR230 rfl rfl rfl rfl (show w_in (1) from ⟨by omega, by omega⟩) (fun h => absurd h (by decide)) (fun M249 hR250 => ?_)
                replace hR250 : w_Rep w_TM fr X u l (w_up (w_up I182a 2780 (gi137_2780)) 2781 (1)) A182a B182a C182a M249 := w_Rep.up hR250 (show (w_up (w_up I182a 2780 (gi137_2780)) 2781 (1)) = _ from (funext fun s => if e0 : s = 2780 then (by subst e0; rfl) else if e1 : s = 2781 then (by subst e1; rfl) else (by simp only [w_up_ne e0, w_up_ne e1]))) rfl
                refine w_inc (nL := 3) (a := y137_2) rfl rfl rfl (by decide) ?_
                refine w_adv (n := 1) (F' := (137, [(2, .int (Int32.ofInt (y137_2 + 1))), (0, .ref 43)], [], M249)) rfl ?_
                refine w_ls (ls := [(0, .ref 43), (2, .int (Int32.ofInt (y137_2 + 1)))]) (show List.Nodup [0, 2] by decide) (show List.Nodup [2, 0] by decide) (List.forall_mem_cons.mpr ⟨(List.Mem.tail _ (List.Mem.head _)), (List.forall_mem_cons.mpr ⟨(List.Mem.head _), (fun _ h => by cases h)⟩)⟩) ?_
                exact ih137  (y137_2 + 1) (gi137_2780) (1) M249 hR250 ⟨by omega, by omega⟩ (show 0 ≤ (y137_2 + 1) by omega) (show (if (y137_2 + 1) < (I182a 2779) then (I182a 2779) - (y137_2 + 1) else 0) < (fu137 : Int) by omega)
            · have h226 : ¬ (¬ v219 = 10) := h226
              show w_W _ _ _ (156, [(0, .ref 43), (2, .int (Int32.ofInt (y137_2)))], [.ref 43], M_137) _
              refine w_adv (n := 1) (F' := (157, [(0, .ref 43), (2, .int (Int32.ofInt (y137_2)))], [.ref 43, .ref 43], M_137)) rfl ?_
              refine w_gf (v := .int (Int32.ofInt (gi137_2780))) hR_137 rfl rfl rfl rfl ?_
              obtain ⟨r251, r252⟩ : -2147483648 ≤ gi137_2780 ∧ gi137_2780 ≤ 2147483647 := hR_137.ri 2780
              refine w_adv (n := 1) (F' := (161, [(0, .ref 43), (2, .int (Int32.ofInt (y137_2)))], [.int (Int32.ofInt (1)), .int (Int32.ofInt (gi137_2780)), .ref 43], M_137)) rfl ?_
              refine w_add rfl ?_
              refine w_int (fun x253 r254 e255 => ?_)
              obtain ⟨r254a, r254b⟩ := r254
              clear e255
              refine w_adv (n := 1) (F' := (169, [(0, .ref 43), (2, .int (Int32.ofInt (y137_2)))], [.int (Int32.ofInt (x253)), .ref 43], M_137)) rfl ?_
              refine w_pf hR_137 rfl rfl rfl rfl (show w_in (x253) from ⟨by omega, by omega⟩) (fun h => absurd h (by decide)) (fun M256 hR257 => ?_)
              replace hR257 : w_Rep w_TM fr X u l (w_up (w_up I182a 2781 (gi137_2781)) 2780 (x253)) A182a B182a C182a M256 := w_Rep.up hR257 (show (w_up (w_up I182a 2781 (gi137_2781)) 2780 (x253)) = _ from (funext fun s => if e0 : s = 2780 then (by subst e0; rfl) else if e1 : s = 2781 then (by subst e1; rfl) else (by simp only [w_up_ne e0, w_up_ne e1]))) rfl
              refine w_adv (n := 3) (F' := (175, [(0, .ref 43), (2, .int (Int32.ofInt (y137_2)))], [.int (Int32.ofInt (y137_2)), .ref 43, .ref 43], M256)) rfl ?_
              refine w_call (cm := 212) (as := [(0, .ref 43), (1, .int (Int32.ofInt (y137_2)))]) (rest := [.ref 43]) (o := some (9, 43)) rfl (w_fitR hR257 rfl) (m_byteAt (y137_2) hR257 ⟨by omega, by omega⟩ (show 0 ≤ (I182a 2753) ∧ (I182a 2753) ≤ 8192 by first | assumption | omega) (show 0 ≤ y137_2 by first | assumption | omega)) (fun r258 M259 q260 => ?_)
              rcases q260 with ⟨v261, e262, ⟨r263, r264⟩, e265, f266, f267⟩
              rw [e262, e265]
              replace f266 : v261 = m_by (A182a 44) (I182a 2753) (y137_2) := f266
              replace f267 : (I182a 2753) ≤ y137_2 → v261 = 0 := f267
              show w_W _ _ _ (178, [(0, .ref 43), (2, .int (Int32.ofInt (y137_2)))], [.int (Int32.ofInt (v261)), .ref 43], M256) _
              refine w_adv (n := 1) (F' := (180, [(0, .ref 43), (2, .int (Int32.ofInt (y137_2)))], [.int (Int32.ofInt (10)), .int (Int32.ofInt (v261)), .ref 43], M256)) rfl ?_
              refine w_br2 (a := v261) (b := 10) rfl rfl ⟨by omega, by omega⟩ ⟨by omega, by omega⟩ (fun h268 => ?_) (fun h268 => ?_)
              · have h268 : ¬ v261 = 10 := h268
                show w_W _ _ _ (187, [(0, .ref 43), (2, .int (Int32.ofInt (y137_2)))], [.ref 43], M256) _
                refine w_adv (n := 1) (F' := (188, [(0, .ref 43), (2, .int (Int32.ofInt (y137_2)))], [.ref 43, .ref 43], M256)) rfl ?_
                refine w_gf (v := .int (Int32.ofInt (gi137_2781))) hR257 rfl rfl rfl rfl ?_
                obtain ⟨r269, r270⟩ : -2147483648 ≤ gi137_2781 ∧ gi137_2781 ≤ 2147483647 := hR257.ri 2781
                refine w_adv (n := 1) (F' := (192, [(0, .ref 43), (2, .int (Int32.ofInt (y137_2)))], [.int (Int32.ofInt (1)), .int (Int32.ofInt (gi137_2781)), .ref 43], M256)) rfl ?_
                refine w_add rfl ?_
                refine w_int (fun x271 r272 e273 => ?_)
                obtain ⟨r272a, r272b⟩ := r272
                clear e273
                refine w_pf hR257 rfl rfl rfl rfl (show w_in (x271) from ⟨by omega, by omega⟩) (fun h => absurd h (by decide)) (fun M274 hR275 => ?_)
                replace hR275 : w_Rep w_TM fr X u l (w_up (w_up I182a 2780 (x253)) 2781 (x271)) A182a B182a C182a M274 := w_Rep.up hR275 (show (w_up (w_up I182a 2780 (x253)) 2781 (x271)) = _ from (funext fun s => if e0 : s = 2780 then (by subst e0; rfl) else if e1 : s = 2781 then (by subst e1; rfl) else (by simp only [w_up_ne e0, w_up_ne e1]))) rfl
                refine w_inc (nL := 3) (a := y137_2) rfl rfl rfl (by decide) ?_
                refine w_adv (n := 1) (F' := (137, [(2, .int (Int32.ofInt (y137_2 + 1))), (0, .ref 43)], [], M274)) rfl ?_
                refine w_ls (ls := [(0, .ref 43), (2, .int (Int32.ofInt (y137_2 + 1)))]) (show List.Nodup [0, 2] by decide) (show List.Nodup [2, 0] by decide) (List.forall_mem_cons.mpr ⟨(List.Mem.tail _ (List.Mem.head _)), (List.forall_mem_cons.mpr ⟨(List.Mem.head _), (fun _ h => by cases h)⟩)⟩) ?_
                exact ih137  (y137_2 + 1) (x253) (x271) M274 hR275 ⟨by omega, by omega⟩ (show 0 ≤ (y137_2 + 1) by omega) (show (if (y137_2 + 1) < (I182a 2779) then (I182a 2779) - (y137_2 + 1) else 0) < (fu137 : Int) by omega)
              · have h268 : ¬ (¬ v261 = 10) := h268
                show w_W _ _ _ (183, [(0, .ref 43), (2, .int (Int32.ofInt (y137_2)))], [.ref 43], M256) _
                refine w_adv (n := 2) (F' := (193, [(0, .ref 43), (2, .int (Int32.ofInt (y137_2)))], [.int (Int32.ofInt (1)), .ref 43], M256)) rfl ?_
                refine w_pf hR257 rfl rfl rfl rfl (show w_in (1) from ⟨by omega, by omega⟩) (fun h => absurd h (by decide)) (fun M276 hR277 => ?_)
                replace hR277 : w_Rep w_TM fr X u l (w_up (w_up I182a 2780 (x253)) 2781 (1)) A182a B182a C182a M276 := w_Rep.up hR277 (show (w_up (w_up I182a 2780 (x253)) 2781 (1)) = _ from (funext fun s => if e0 : s = 2780 then (by subst e0; rfl) else if e1 : s = 2781 then (by subst e1; rfl) else (by simp only [w_up_ne e0, w_up_ne e1]))) rfl
                refine w_inc (nL := 3) (a := y137_2) rfl rfl rfl (by decide) ?_
                refine w_adv (n := 1) (F' := (137, [(2, .int (Int32.ofInt (y137_2 + 1))), (0, .ref 43)], [], M276)) rfl ?_
                refine w_ls (ls := [(0, .ref 43), (2, .int (Int32.ofInt (y137_2 + 1)))]) (show List.Nodup [0, 2] by decide) (show List.Nodup [2, 0] by decide) (List.forall_mem_cons.mpr ⟨(List.Mem.tail _ (List.Mem.head _)), (List.forall_mem_cons.mpr ⟨(List.Mem.head _), (fun _ h => by cases h)⟩)⟩) ?_
                exact ih137  (y137_2 + 1) (x253) (1) M276 hR277 ⟨by omega, by omega⟩ (show 0 ≤ (y137_2 + 1) by omega) (show (if (y137_2 + 1) < (I182a 2779) then (I182a 2779) - (y137_2 + 1) else 0) < (fu137 : Int) by omega)
      refine w_ls (ls := [(0, .ref 43), (2, .int (Int32.ofInt (0)))]) (show List.Nodup [0, 2] by decide) (show List.Nodup [2, 1, 0] by decide) (List.forall_mem_cons.mpr ⟨(List.Mem.tail _ (List.Mem.tail _ (List.Mem.head _))), (List.forall_mem_cons.mpr ⟨(List.Mem.head _), (fun _ h => by cases h)⟩)⟩) ?_
      exact lp137 (((if 0 < (I182a 2779) then (I182a 2779) - 0 else 0) : Int).toNat + 1)  (0) (1) (1) M211 hR212 ⟨by omega, by omega⟩ (show 0 ≤ (0 : Int) by omega) (show (if 0 < (I182a 2779) then (I182a 2779) - 0 else 0) < ((((if 0 < (I182a 2779) then (I182a 2779) - 0 else 0) : Int).toNat + 1 : Nat) : Int) by omega)
  · rw [e96]
    replace hR82b : w_Rep w_TM fr X u l I82b A82b B82b C82b M81 := hR82b
    replace f97 : m_fx (w_up (w_up (w_up (w_up (w_up (w_up (w_up (w_up (w_up (w_up (w_up (w_up (w_up (w_up (w_up (w_up I3a 3393 (0)) 3521 (0)) 3649 (0)) 3777 (0)) 3905 (0)) 5633 (0)) 5761 (0)) 5889 (0)) 2774 (0)) 2775 (0)) 2778 (0)) 2779 ((-1))) 2754 (i275473)) 2759 (i275974)) 2760 (i276075)) 2763 (i276376)) (w_upF (w_upF (w_upF (w_upF (w_upF (w_upF (w_upF (w_upF A3a 45 g4565) 46 g4666) 47 g4767) 48 g4868) 49 g4969) 50 g5070) 51 g5171) 52 g5272) I82b A82b := f97
    obtain ⟨⟨fe_2753, fe_2754, fe_2760, fe_2763, fe_6017, fe_4481, fe_4609, fe_4737, fe_4865, fe_4993, fe_5121, fe_5249, fe_5377, fe_5505, fe_5633, fe_5761⟩, ⟨-, -, -, -, -, -, -, -, -, fe_70⟩⟩ : ((I82b 2753) = (I3a 2753) ∧ (I82b 2754) = i275473 ∧ (I82b 2760) = i276075 ∧ (I82b 2763) = i276376 ∧ (I82b 6017) = (I3a 6017) ∧ (I82b 4481) = (I3a 4481) ∧ (I82b 4609) = (I3a 4609) ∧ (I82b 4737) = (I3a 4737) ∧ (I82b 4865) = (I3a 4865) ∧ (I82b 4993) = (I3a 4993) ∧ (I82b 5121) = (I3a 5121) ∧ (I82b 5249) = (I3a 5249) ∧ (I82b 5377) = (I3a 5377) ∧ (I82b 5505) = (I3a 5505) ∧ (I82b 5633) = 0 ∧ (I82b 5761) = 0) ∧ (A82b 44) = (A3a 44) ∧ (A82b 45) = g4565 ∧ (A82b 46) = g4666 ∧ (A82b 47) = g4767 ∧ (A82b 48) = g4868 ∧ (A82b 49) = g4969 ∧ (A82b 50) = g5070 ∧ (A82b 51) = g5171 ∧ (A82b 52) = g5272 ∧ (A82b 70) = (A3a 70) := id f97
    have nafe : m_NA I82b A82b := m_NA_fx f78 f97
    refine ⟨⟨_, hR82b.o (show w_TM.1 69 = some (11, []) from rfl)⟩, ?_⟩
    refine w_adv (n := 2) (F' := (122, [(1, .ref 69), (0, .ref 43)], [.ref 43], M81)) rfl ?_
    refine w_call (cm := 206) (as := [(0, .ref 43)]) (rest := []) (o := some (9, 43)) rfl (w_fitR hR82b rfl) (m_begin hR82b (show 5 ≤ d by omega) (show m_NA I82b A82b by exact nafe)) (fun r278 M279 q280 => ?_)
    rcases q280 with ⟨I280a, A280a, B280a, C280a, e281, hR280a, f282, f283, f284⟩
    rw [e281]
    replace hR280a : w_Rep w_TM fr X u l I280a A280a B280a C280a M279 := hR280a
    replace f282 : ((I280a 4481) = 7 ∧ (I280a 4033) = 7 ∧ (I280a 4161) = 7 ∧ (I280a 4289) = 7) ∧ ((I280a 4609) = 0 ∧ (I280a 4737) = 0 ∧ (I280a 4865) = 0 ∧ (I280a 4993) = 0 ∧ (I280a 5121) = 0 ∧ (I280a 5249) = 0 ∧ (I280a 5377) = 0 ∧ (I280a 5505) = 0) ∧ ((I280a 2753) = (I82b 2753) ∧ (I280a 3393) = (I82b 3393) ∧ (I280a 3521) = (I82b 3521) ∧ (I280a 3649) = (I82b 3649) ∧ (I280a 3777) = (I82b 3777) ∧ (I280a 3905) = (I82b 3905) ∧ (I280a 5633) = (I82b 5633) ∧ (I280a 5761) = (I82b 5761) ∧ (I280a 5889) = (I82b 5889) ∧ (I280a 6017) = (I82b 6017)) := f282
    obtain ⟨⟨n285, n286, n287, n288⟩, ⟨n289, n290, n291, n292, n293, n294, n295, n296⟩, ⟨n297, n298, n299, n300, n301, n302, n303, n304, n305, n306⟩⟩ := id f282
    clear f282
    replace f283 : m_NA I280a A280a := f283
    replace f284 : m_BG A280a 7 := f284
    skip
    show w_W _ _ _ (125, [(1, .ref 69), (0, .ref 43)], [], M279) _
    refine w_adv (n := 2) (F' := (127, [(1, .ref 69), (0, .ref 43)], [.int (Int32.ofInt (1)), .ref 43], M279)) rfl ?_
    refine w_pf hR280a rfl rfl rfl rfl (show w_in (1) from ⟨by omega, by omega⟩) (fun h => absurd h (by decide)) (fun M307 hR308 => ?_)
    replace hR308 : w_Rep w_TM fr X u l (w_up I280a 2780 (1)) A280a B280a C280a M307 := hR308
    refine w_adv (n := 2) (F' := (132, [(1, .ref 69), (0, .ref 43)], [.int (Int32.ofInt (1)), .ref 43], M307)) rfl ?_
    refine w_pf hR308 rfl rfl rfl rfl (show w_in (1) from ⟨by omega, by omega⟩) (fun h => absurd h (by decide)) (fun M309 hR310 => ?_)
    replace hR310 : w_Rep w_TM fr X u l (w_up (w_up I280a 2780 (1)) 2781 (1)) A280a B280a C280a M309 := hR310
    refine w_adv (n := 2) (F' := (137, [(2, .int (Int32.ofInt (0))), (1, .ref 69), (0, .ref 43)], [], M309)) rfl ?_
    have lp137 : ∀ fu137 : Nat, ∀ (y137_2 : Int) (gi137_2780 : Int) (gi137_2781 : Int) (M_137 : w_M) (hR_137 : w_Rep w_TM fr X u l (w_up (w_up I280a 2780 (gi137_2780)) 2781 (gi137_2781)) A280a B280a C280a M_137), w_in y137_2 → 0 ≤ y137_2 → (if y137_2 < (I280a 2779) then (I280a 2779) - y137_2 else 0) < (fu137 : Int) → w_W (z_P L xs) (d + 1) 312 (137, [(0, .ref 43), (2, .int (Int32.ofInt (y137_2)))], [], M_137) (m_read_Q fr X u l I A B C M) := by
      intro fu137
      induction fu137 with
      | zero =>
        intro y137_2 gi137_2780 gi137_2781 M_137 hR_137 ⟨ra_y137_2, rb_y137_2⟩ hi137_0 hn137
        exfalso
        omega
      | succ fu137 ih137 =>
        intro y137_2 gi137_2780 gi137_2781 M_137 hR_137 ⟨ra_y137_2, rb_y137_2⟩ hi137_0 hn137
        refine w_adv (n := 2) (F' := (139, [(0, .ref 43), (2, .int (Int32.ofInt (y137_2)))], [.ref 43, .int (Int32.ofInt (y137_2))], M_137)) rfl ?_
        refine w_gf (v := .int (Int32.ofInt ((I280a 2779)))) hR_137 rfl rfl rfl rfl ?_
        obtain ⟨r311, r312⟩ : -2147483648 ≤ (I280a 2779) ∧ (I280a 2779) ≤ 2147483647 := hR_137.ri 2779
        refine w_br2 (a := y137_2) (b := (I280a 2779)) rfl rfl ⟨by omega, by omega⟩ ⟨by omega, by omega⟩ (fun h313 => ?_) (fun h313 => ?_)
        · have h313 : y137_2 ≥ (I280a 2779) := h313
          show w_W _ _ _ (202, [(0, .ref 43), (2, .int (Int32.ofInt (y137_2)))], [], M_137) _
          refine w_adv (n := 1) (F' := (203, [(0, .ref 43), (2, .int (Int32.ofInt (y137_2)))], [.int (Int32.ofInt ((-1)))], M_137)) rfl ?_
          refine w_fin (r := .inl (some ((-1)))) (M' := M_137) rfl ?_
          exact ⟨(-1), (w_up (w_up I280a 2780 (gi137_2780)) 2781 (gi137_2781)), A280a, B280a, C280a, rfl, ⟨by omega, by omega⟩, hR_137, (show ((I280a 2753) = (I 2753)) ∧ ((I280a 4737) = (I280a 4609) ∧ (I280a 4865) = (I280a 4609) ∧ (I280a 4993) = (I280a 4609) ∧ (I280a 5121) = (I280a 4609) ∧ (I280a 5249) = (I280a 4609) ∧ (I280a 5377) = (I280a 4609)) ∧ (0 ≤ (I280a 4609) ∧ 0 ≤ (I280a 4481) ∧ 0 ≤ (I280a 5505)) ∧ (I280a 6017) = 0 by (repeat' apply And.intro) <;> first | assumption | omega), (show m_NA (w_up (w_up I280a 2780 (gi137_2780)) 2781 (gi137_2781)) A280a by exact f283), (show m_IT (w_up (w_up I280a 2780 (gi137_2780)) 2781 (gi137_2781)) A280a by exact m_IT_nil (show (I280a 4609) = 0 by omega)), (show m_VN (w_up (w_up I280a 2780 (gi137_2780)) 2781 (gi137_2781)) A280a by exact m_VN_of (n := 7) f284 (show (I280a 4481) = 7 by omega) rfl)⟩
        · have h313 : ¬ (y137_2 ≥ (I280a 2779)) := h313
          show w_W _ _ _ (145, [(0, .ref 43), (2, .int (Int32.ofInt (y137_2)))], [], M_137) _
          refine w_adv (n := 3) (F' := (148, [(0, .ref 43), (2, .int (Int32.ofInt (y137_2)))], [.int (Int32.ofInt (y137_2)), .ref 43, .ref 43], M_137)) rfl ?_
          refine w_call (cm := 212) (as := [(0, .ref 43), (1, .int (Int32.ofInt (y137_2)))]) (rest := [.ref 43]) (o := some (9, 43)) rfl (w_fitR hR_137 rfl) (m_byteAt (y137_2) hR_137 ⟨by omega, by omega⟩ (show 0 ≤ (I280a 2753) ∧ (I280a 2753) ≤ 8192 by first | assumption | omega) (show 0 ≤ y137_2 by first | assumption | omega)) (fun r314 M315 q316 => ?_)
          rcases q316 with ⟨v317, e318, ⟨r319, r320⟩, e321, f322, f323⟩
          rw [e318, e321]
          replace f322 : v317 = m_by (A280a 44) (I280a 2753) (y137_2) := f322
          replace f323 : (I280a 2753) ≤ y137_2 → v317 = 0 := f323
          show w_W _ _ _ (151, [(0, .ref 43), (2, .int (Int32.ofInt (y137_2)))], [.int (Int32.ofInt (v317)), .ref 43], M_137) _
          refine w_adv (n := 1) (F' := (153, [(0, .ref 43), (2, .int (Int32.ofInt (y137_2)))], [.int (Int32.ofInt (10)), .int (Int32.ofInt (v317)), .ref 43], M_137)) rfl ?_
          refine w_br2 (a := v317) (b := 10) rfl rfl ⟨by omega, by omega⟩ ⟨by omega, by omega⟩ (fun h324 => ?_) (fun h324 => ?_)
          · have h324 : ¬ v317 = 10 := h324
            show w_W _ _ _ (165, [(0, .ref 43), (2, .int (Int32.ofInt (y137_2)))], [.ref 43], M_137) _
            refine w_adv (n := 1) (F' := (166, [(0, .ref 43), (2, .int (Int32.ofInt (y137_2)))], [.ref 43, .ref 43], M_137)) rfl ?_
            refine w_gf (v := .int (Int32.ofInt (gi137_2780))) hR_137 rfl rfl rfl rfl ?_
            obtain ⟨r325, r326⟩ : -2147483648 ≤ gi137_2780 ∧ gi137_2780 ≤ 2147483647 := hR_137.ri 2780
            refine w_pf hR_137 rfl rfl rfl rfl (show w_in (gi137_2780) from ⟨by omega, by omega⟩) (fun h => absurd h (by decide)) (fun M327 hR328 => ?_)
            replace hR328 : w_Rep w_TM fr X u l (w_up (w_up I280a 2781 (gi137_2781)) 2780 (gi137_2780)) A280a B280a C280a M327 := w_Rep.up hR328 (show (w_up (w_up I280a 2781 (gi137_2781)) 2780 (gi137_2780)) = _ from (funext fun s => if e0 : s = 2780 then (by subst e0; rfl) else if e1 : s = 2781 then (by subst e1; rfl) else (by simp only [w_up_ne e0, w_up_ne e1]))) rfl
            refine w_adv (n := 3) (F' := (175, [(0, .ref 43), (2, .int (Int32.ofInt (y137_2)))], [.int (Int32.ofInt (y137_2)), .ref 43, .ref 43], M327)) rfl ?_
            refine w_call (cm := 212) (as := [(0, .ref 43), (1, .int (Int32.ofInt (y137_2)))]) (rest := [.ref 43]) (o := some (9, 43)) rfl (w_fitR hR328 rfl) (m_byteAt (y137_2) hR328 ⟨by omega, by omega⟩ (show 0 ≤ (I280a 2753) ∧ (I280a 2753) ≤ 8192 by first | assumption | omega) (show 0 ≤ y137_2 by first | assumption | omega)) (fun r329 M330 q331 => ?_)
            rcases q331 with ⟨v332, e333, ⟨r334, r335⟩, e336, f337, f338⟩
            rw [e333, e336]
            replace f337 : v332 = m_by (A280a 44) (I280a 2753) (y137_2) := f337
            replace f338 : (I280a 2753) ≤ y137_2 → v332 = 0 := f338
            show w_W _ _ _ (178, [(0, .ref 43), (2, .int (Int32.ofInt (y137_2)))], [.int (Int32.ofInt (v332)), .ref 43], M327) _
            refine w_adv (n := 1) (F' := (180, [(0, .ref 43), (2, .int (Int32.ofInt (y137_2)))], [.int (Int32.ofInt (10)), .int (Int32.ofInt (v332)), .ref 43], M327)) rfl ?_
            refine w_br2 (a := v332) (b := 10) rfl rfl ⟨by omega, by omega⟩ ⟨by omega, by omega⟩ (fun h339 => ?_) (fun h339 => ?_)
            · have h339 : ¬ v332 = 10 := h339
              show w_W _ _ _ (187, [(0, .ref 43), (2, .int (Int32.ofInt (y137_2)))], [.ref 43], M327) _
              refine w_adv (n := 1) (F' := (188, [(0, .ref 43), (2, .int (Int32.ofInt (y137_2)))], [.ref 43, .ref 43], M327)) rfl ?_
              refine w_gf (v := .int (Int32.ofInt (gi137_2781))) hR328 rfl rfl rfl rfl ?_
              obtain ⟨r340, r341⟩ : -2147483648 ≤ gi137_2781 ∧ gi137_2781 ≤ 2147483647 := hR328.ri 2781
              refine w_adv (n := 1) (F' := (192, [(0, .ref 43), (2, .int (Int32.ofInt (y137_2)))], [.int (Int32.ofInt (1)), .int (Int32.ofInt (gi137_2781)), .ref 43], M327)) rfl ?_
              refine w_add rfl ?_
              refine w_int (fun x342 r343 e344 => ?_)
              obtain ⟨r343a, r343b⟩ := r343
              clear e344
              refine w_pf hR328 rfl rfl rfl rfl (show w_in (x342) from ⟨by omega, by omega⟩) (fun h => absurd h (by decide)) (fun M345 hR346 => ?_)
              replace hR346 : w_Rep w_TM fr X u l (w_up (w_up I280a 2780 (gi137_2780)) 2781 (x342)) A280a B280a C280a M345 := w_Rep.up hR346 (show (w_up (w_up I280a 2780 (gi137_2780)) 2781 (x342)) = _ from (funext fun s => if e0 : s = 2780 then (by subst e0; rfl) else if e1 : s = 2781 then (by subst e1; rfl) else (by simp only [w_up_ne e0, w_up_ne e1]))) rfl
              refine w_inc (nL := 3) (a := y137_2) rfl rfl rfl (by decide) ?_
              refine w_adv (n := 1) (F' := (137, [(2, .int (Int32.ofInt (y137_2 + 1))), (0, .ref 43)], [], M345)) rfl ?_
              refine w_ls (ls := [(0, .ref 43), (2, .int (Int32.ofInt (y137_2 + 1)))]) (show List.Nodup [0, 2] by decide) (show List.Nodup [2, 0] by decide) (List.forall_mem_cons.mpr ⟨(List.Mem.tail _ (List.Mem.head _)), (List.forall_mem_cons.mpr ⟨(List.Mem.head _), (fun _ h => by cases h)⟩)⟩) ?_
              exact ih137  (y137_2 + 1) (gi137_2780) (x342) M345 hR346 ⟨by omega, by omega⟩ (show 0 ≤ (y137_2 + 1) by omega) (show (if (y137_2 + 1) < (I280a 2779) then (I280a 2779) - (y137_2 + 1) else 0) < (fu137 : Int) by omega)
            · have h339 : ¬ (¬ v332 = 10) := h339
              show w_W _ _ _ (183, [(0, .ref 43), (2, .int (Int32.ofInt (y137_2)))], [.ref 43], M327) _
              refine w_adv (n := 2) (F' := (193, [(0, .ref 43), (2, .int (Int32.ofInt (y137_2)))], [.int (Int32.ofInt (1)), .ref 43], M327)) rfl ?_
              refine w_pf hR328 rfl rfl rfl rfl (show w_in (1) from ⟨by omega, by omega⟩) (fun h => absurd h (by decide)) (fun M347 hR348 => ?_)
              replace hR348 : w_Rep w_TM fr X u l (w_up (w_up I280a 2780 (gi137_2780)) 2781 (1)) A280a B280a C280a M347 := w_Rep.up hR348 (show (w_up (w_up I280a 2780 (gi137_2780)) 2781 (1)) = _ from (funext fun s => if e0 : s = 2780 then (by subst e0; rfl) else if e1 : s = 2781 then (by subst e1; rfl) else (by simp only [w_up_ne e0, w_up_ne e1]))) rfl
              refine w_inc (nL := 3) (a := y137_2) rfl rfl rfl (by decide) ?_
              refine w_adv (n := 1) (F' := (137, [(2, .int (Int32.ofInt (y137_2 + 1))), (0, .ref 43)], [], M347)) rfl ?_
              refine w_ls (ls := [(0, .ref 43), (2, .int (Int32.ofInt (y137_2 + 1)))]) (show List.Nodup [0, 2] by decide) (show List.Nodup [2, 0] by decide) (List.forall_mem_cons.mpr ⟨(List.Mem.tail _ (List.Mem.head _)), (List.forall_mem_cons.mpr ⟨(List.Mem.head _), (fun _ h => by cases h)⟩)⟩) ?_
              exact ih137  (y137_2 + 1) (gi137_2780) (1) M347 hR348 ⟨by omega, by omega⟩ (show 0 ≤ (y137_2 + 1) by omega) (show (if (y137_2 + 1) < (I280a 2779) then (I280a 2779) - (y137_2 + 1) else 0) < (fu137 : Int) by omega)
          · have h324 : ¬ (¬ v317 = 10) := h324
            show w_W _ _ _ (156, [(0, .ref 43), (2, .int (Int32.ofInt (y137_2)))], [.ref 43], M_137) _
            refine w_adv (n := 1) (F' := (157, [(0, .ref 43), (2, .int (Int32.ofInt (y137_2)))], [.ref 43, .ref 43], M_137)) rfl ?_
            refine w_gf (v := .int (Int32.ofInt (gi137_2780))) hR_137 rfl rfl rfl rfl ?_
            obtain ⟨r349, r350⟩ : -2147483648 ≤ gi137_2780 ∧ gi137_2780 ≤ 2147483647 := hR_137.ri 2780
            refine w_adv (n := 1) (F' := (161, [(0, .ref 43), (2, .int (Int32.ofInt (y137_2)))], [.int (Int32.ofInt (1)), .int (Int32.ofInt (gi137_2780)), .ref 43], M_137)) rfl ?_
            refine w_add rfl ?_
            refine w_int (fun x351 r352 e353 => ?_)
            obtain ⟨r352a, r352b⟩ := r352
            clear e353
            refine w_adv (n := 1) (F' := (169, [(0, .ref 43), (2, .int (Int32.ofInt (y137_2)))], [.int (Int32.ofInt (x351)), .ref 43], M_137)) rfl ?_
            refine w_pf hR_137 rfl rfl rfl rfl (show w_in (x351) from ⟨by omega, by omega⟩) (fun h => absurd h (by decide)) (fun M354 hR355 => ?_)
            replace hR355 : w_Rep w_TM fr X u l (w_up (w_up I280a 2781 (gi137_2781)) 2780 (x351)) A280a B280a C280a M354 := w_Rep.up hR355 (show (w_up (w_up I280a 2781 (gi137_2781)) 2780 (x351)) = _ from (funext fun s => if e0 : s = 2780 then (by subst e0; rfl) else if e1 : s = 2781 then (by subst e1; rfl) else (by simp only [w_up_ne e0, w_up_ne e1]))) rfl
            refine w_adv (n := 3) (F' := (175, [(0, .ref 43), (2, .int (Int32.ofInt (y137_2)))], [.int (Int32.ofInt (y137_2)), .ref 43, .ref 43], M354)) rfl ?_
            refine w_call (cm := 212) (as := [(0, .ref 43), (1, .int (Int32.ofInt (y137_2)))]) (rest := [.ref 43]) (o := some (9, 43)) rfl (w_fitR hR355 rfl) (m_byteAt (y137_2) hR355 ⟨by omega, by omega⟩ (show 0 ≤ (I280a 2753) ∧ (I280a 2753) ≤ 8192 by first | assumption | omega) (show 0 ≤ y137_2 by first | assumption | omega)) (fun r356 M357 q358 => ?_)
            rcases q358 with ⟨v359, e360, ⟨r361, r362⟩, e363, f364, f365⟩
            rw [e360, e363]
            replace f364 : v359 = m_by (A280a 44) (I280a 2753) (y137_2) := f364
            replace f365 : (I280a 2753) ≤ y137_2 → v359 = 0 := f365
            show w_W _ _ _ (178, [(0, .ref 43), (2, .int (Int32.ofInt (y137_2)))], [.int (Int32.ofInt (v359)), .ref 43], M354) _
            refine w_adv (n := 1) (F' := (180, [(0, .ref 43), (2, .int (Int32.ofInt (y137_2)))], [.int (Int32.ofInt (10)), .int (Int32.ofInt (v359)), .ref 43], M354)) rfl ?_
            refine w_br2 (a := v359) (b := 10) rfl rfl ⟨by omega, by omega⟩ ⟨by omega, by omega⟩ (fun h366 => ?_) (fun h366 => ?_)
            · have h366 : ¬ v359 = 10 := h366
              show w_W _ _ _ (187, [(0, .ref 43), (2, .int (Int32.ofInt (y137_2)))], [.ref 43], M354) _
              refine w_adv (n := 1) (F' := (188, [(0, .ref 43), (2, .int (Int32.ofInt (y137_2)))], [.ref 43, .ref 43], M354)) rfl ?_
              refine w_gf (v := .int (Int32.ofInt (gi137_2781))) hR355 rfl rfl rfl rfl ?_
              obtain ⟨r367, r368⟩ : -2147483648 ≤ gi137_2781 ∧ gi137_2781 ≤ 2147483647 := hR355.ri 2781
              refine w_adv (n := 1) (F' := (192, [(0, .ref 43), (2, .int (Int32.ofInt (y137_2)))], [.int (Int32.ofInt (1)), .int (Int32.ofInt (gi137_2781)), .ref 43], M354)) rfl ?_
              refine w_add rfl ?_
              refine w_int (fun x369 r370 e371 => ?_)
              obtain ⟨r370a, r370b⟩ := r370
              clear e371
              refine w_pf hR355 rfl rfl rfl rfl (show w_in (x369) from ⟨by omega, by omega⟩) (fun h => absurd h (by decide)) (fun M372 hR373 => ?_)
              replace hR373 : w_Rep w_TM fr X u l (w_up (w_up I280a 2780 (x351)) 2781 (x369)) A280a B280a C280a M372 := w_Rep.up hR373 (show (w_up (w_up I280a 2780 (x351)) 2781 (x369)) = _ from (funext fun s => if e0 : s = 2780 then (by subst e0; rfl) else if e1 : s = 2781 then (by subst e1; rfl) else (by simp only [w_up_ne e0, w_up_ne e1]))) rfl
              refine w_inc (nL := 3) (a := y137_2) rfl rfl rfl (by decide) ?_
              refine w_adv (n := 1) (F' := (137, [(2, .int (Int32.ofInt (y137_2 + 1))), (0, .ref 43)], [], M372)) rfl ?_
              refine w_ls (ls := [(0, .ref 43), (2, .int (Int32.ofInt (y137_2 + 1)))]) (show List.Nodup [0, 2] by decide) (show List.Nodup [2, 0] by decide) (List.forall_mem_cons.mpr ⟨(List.Mem.tail _ (List.Mem.head _)), (List.forall_mem_cons.mpr ⟨(List.Mem.head _), (fun _ h => by cases h)⟩)⟩) ?_
              exact ih137  (y137_2 + 1) (x351) (x369) M372 hR373 ⟨by omega, by omega⟩ (show 0 ≤ (y137_2 + 1) by omega) (show (if (y137_2 + 1) < (I280a 2779) then (I280a 2779) - (y137_2 + 1) else 0) < (fu137 : Int) by omega)
            · have h366 : ¬ (¬ v359 = 10) := h366
              show w_W _ _ _ (183, [(0, .ref 43), (2, .int (Int32.ofInt (y137_2)))], [.ref 43], M354) _
              refine w_adv (n := 2) (F' := (193, [(0, .ref 43), (2, .int (Int32.ofInt (y137_2)))], [.int (Int32.ofInt (1)), .ref 43], M354)) rfl ?_
              refine w_pf hR355 rfl rfl rfl rfl (show w_in (1) from ⟨by omega, by omega⟩) (fun h => absurd h (by decide)) (fun M374 hR375 => ?_)
              replace hR375 : w_Rep w_TM fr X u l (w_up (w_up I280a 2780 (x351)) 2781 (1)) A280a B280a C280a M374 := w_Rep.up hR375 (show (w_up (w_up I280a 2780 (x351)) 2781 (1)) = _ from (funext fun s => if e0 : s = 2780 then (by subst e0; rfl) else if e1 : s = 2781 then (by subst e1; rfl) else (by simp only [w_up_ne e0, w_up_ne e1]))) rfl
              refine w_inc (nL := 3) (a := y137_2) rfl rfl rfl (by decide) ?_
              refine w_adv (n := 1) (F' := (137, [(2, .int (Int32.ofInt (y137_2 + 1))), (0, .ref 43)], [], M374)) rfl ?_
              refine w_ls (ls := [(0, .ref 43), (2, .int (Int32.ofInt (y137_2 + 1)))]) (show List.Nodup [0, 2] by decide) (show List.Nodup [2, 0] by decide) (List.forall_mem_cons.mpr ⟨(List.Mem.tail _ (List.Mem.head _)), (List.forall_mem_cons.mpr ⟨(List.Mem.head _), (fun _ h => by cases h)⟩)⟩) ?_
              exact ih137  (y137_2 + 1) (x351) (1) M374 hR375 ⟨by omega, by omega⟩ (show 0 ≤ (y137_2 + 1) by omega) (show (if (y137_2 + 1) < (I280a 2779) then (I280a 2779) - (y137_2 + 1) else 0) < (fu137 : Int) by omega)
    refine w_ls (ls := [(0, .ref 43), (2, .int (Int32.ofInt (0)))]) (show List.Nodup [0, 2] by decide) (show List.Nodup [2, 1, 0] by decide) (List.forall_mem_cons.mpr ⟨(List.Mem.tail _ (List.Mem.tail _ (List.Mem.head _))), (List.forall_mem_cons.mpr ⟨(List.Mem.head _), (fun _ h => by cases h)⟩)⟩) ?_
    exact lp137 (((if 0 < (I280a 2779) then (I280a 2779) - 0 else 0) : Int).toNat + 1)  (0) (1) (1) M309 hR310 ⟨by omega, by omega⟩ (show 0 ≤ (0 : Int) by omega) (show (if 0 < (I280a 2779) then (I280a 2779) - 0 else 0) < ((((if 0 < (I280a 2779) then (I280a 2779) - 0 else 0) : Int).toNat + 1 : Nat) : Int) by omega)
