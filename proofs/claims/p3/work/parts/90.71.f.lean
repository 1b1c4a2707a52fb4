def m_partOf_Q (fr : Nat → Bool) (X : Nat → Option (q_C (Nat → Int32))) (u l : Nat) (I : Nat → Int) (A : Nat → Int → Int) (B C : Nat → Nat) (M : w_M) (e : Int) (lo : Int → Int × Int) : w_X → w_M → Prop := fun r M' => (∃ v : Int, ∃ (I' : Nat → Int) (A' : Nat → Int → Int) (B' C' : Nat → Nat), (r = .inl (some v)) ∧ (w_in v) ∧ (w_Rep w_TM fr X u l I' A' B' C' M') ∧ (m_gx I A I' A') ∧ ((((I' 4737) = (I' 4609) ∧ (I' 4865) = (I' 4609) ∧ (I' 4993) = (I' 4609) ∧ (I' 5121) = (I' 4609) ∧ (I' 5249) = (I' 4609) ∧ (I' 5377) = (I' 4609) ∧ (I' 3393) = (I' 3905) ∧ (I' 3521) = (I' 3905) ∧ (I' 3649) = (I' 3905) ∧ (I' 3777) = (I' 3905) ∧ (I' 4161) = (I' 4033)) ∧ (0 ≤ (I' 4609) ∧ 0 ≤ (I' 4481) ∧ 0 ≤ (I' 5505) ∧ 0 ≤ (I' 5633) ∧ 0 ≤ (I' 5761) ∧ 0 ≤ (I' 5889) ∧ 0 ≤ (I' 6017) ∧ 0 ≤ (I' 3905) ∧ 0 ≤ (I' 4033))) ∧ ((I' 3905) = (I 3905) ∧ (I' 4033) = (I 4033) ∧ (I' 5889) = (I 5889) ∧ (I' 6017) = (I 6017)) ∧ ((I' 4609) = (I 4609) ∧ (I' 5505) = (I 5505) ∧ (I' 5633) = (I 5633)) ∧ ((I 4481) ≤ (I' 4481) ∧ (I' 4481) ≤ (I 4481) + 1 ∧ (I' 5761) + (I 4481) = (I 5761) + (I' 4481))) ∧ (m_BI I' A') ∧ (m_cp I A A'))
set_option maxHeartbeats 100000000 in
set_option maxRecDepth 100000 in
theorem m_partOf {L : Nat} {xs : Nat → Int32} {d : Nat} {fr : Nat → Bool} {X : Nat → Option (q_C (Nat → Int32))} {u l : Nat} {I : Nat → Int} {A : Nat → Int → Int} {B C : Nat → Nat} {M : w_M} (e : Int) (lo : Int → Int × Int) (hR : w_Rep w_TM fr X u l I A B C M) (hd : 3 ≤ d) (r_e : w_in e) (hN : ((I 4737) = (I 4609) ∧ (I 4865) = (I 4609) ∧ (I 4993) = (I 4609) ∧ (I 5121) = (I 4609) ∧ (I 5249) = (I 4609) ∧ (I 5377) = (I 4609) ∧ (I 3393) = (I 3905) ∧ (I 3521) = (I 3905) ∧ (I 3649) = (I 3905) ∧ (I 3777) = (I 3905) ∧ (I 4161) = (I 4033)) ∧ (0 ≤ (I 4609) ∧ 0 ≤ (I 4481) ∧ 0 ≤ (I 5505) ∧ 0 ≤ (I 5633) ∧ 0 ≤ (I 5761) ∧ 0 ≤ (I 5889) ∧ 0 ≤ (I 6017) ∧ 0 ≤ (I 3905) ∧ 0 ≤ (I 4033))) (hBI : m_BI I A) (hTR : m_TR lo I A) (hl : (I 4481) < 65000 ∧ (I 5761) < 65000) (he : 0 ≤ e ∧ e < (I 3905)) : w_W (z_P L xs) d 283 (0, [(0, .ref 43), (1, .int (Int32.ofInt (e)))], [], M) (m_partOf_Q fr X u l I A B C M e lo) := by
  obtain ⟨ra_e, rb_e⟩ := r_e
  obtain ⟨d, rfl⟩ : ∃ d0, d = d0 + 1 := ⟨d - 1, by omega⟩
  refine w_adv (n := 1) (F' := (1, [(0, .ref 43), (1, .int (Int32.ofInt (e)))], [.ref 43], M)) rfl ?_
  refine w_gf (v := .ref 53) hR rfl rfl rfl rfl ?_
  refine w_adv (n := 1) (F' := (5, [(0, .ref 43), (1, .int (Int32.ofInt (e)))], [.int (Int32.ofInt (e)), .ref 53], M)) rfl ?_
  obtain ⟨r1a, r1b, r1c⟩ : 0 ≤ (I 3393) ∧ (I 3393) ≤ (C 53 : Int) ∧ (C 53 : Int) ≤ 131072 := hR.sz (show 53 ∈ w_TM.2.2 by decide)
  refine w_call (cm := 238) (as := [(0, .ref 53), (1, .int (Int32.ofInt (e)))]) (rest := []) (o := some (10, 53)) rfl (w_fitR hR rfl) (m_get (e) 53 (by decide) rfl hR ⟨by omega, by omega⟩ (show 0 ≤ e by first | assumption | omega) (show e < (C 53 : Int) by first | assumption | omega)) (fun r2 M3 q4 => ?_)
  rcases q4 with ⟨e5, e6⟩
  rw [e5, e6]
  obtain ⟨r7, r8⟩ : -2147483648 ≤ (A 53) (e) ∧ (A 53) (e) ≤ 2147483647 := hR.ra 53 (e)
  show w_W _ _ _ (8, [(0, .ref 43), (1, .int (Int32.ofInt (e)))], [.int (Int32.ofInt ((A 53) (e)))], M) _
  refine w_adv (n := 1) (F' := (9, [(0, .ref 43), (1, .int (Int32.ofInt (e)))], [.int (Int32.ofInt (3)), .int (Int32.ofInt ((A 53) (e)))], M)) rfl ?_
  refine w_br2 (a := (A 53) (e)) (b := 3) rfl rfl ⟨by omega, by omega⟩ ⟨by omega, by omega⟩ (fun h9 => ?_) (fun h9 => ?_)
  · have h9 : ¬ (A 53) (e) = 3 := h9
    show w_W _ _ _ (30, [(0, .ref 43), (1, .int (Int32.ofInt (e)))], [], M) _
    refine w_adv (n := 1) (F' := (31, [(0, .ref 43), (1, .int (Int32.ofInt (e)))], [.ref 43], M)) rfl ?_
    refine w_call (cm := 284) (as := [(0, .ref 43)]) (rest := []) (o := some (9, 43)) rfl (w_fitR hR rfl) (m_fresh hR (show 2 ≤ d by omega) (show ((I 4737) = (I 4609) ∧ (I 4865) = (I 4609) ∧ (I 4993) = (I 4609) ∧ (I 5121) = (I 4609) ∧ (I 5249) = (I 4609) ∧ (I 5377) = (I 4609) ∧ (I 3393) = (I 3905) ∧ (I 3521) = (I 3905) ∧ (I 3649) = (I 3905) ∧ (I 3777) = (I 3905) ∧ (I 4161) = (I 4033)) ∧ (0 ≤ (I 4609) ∧ 0 ≤ (I 4481) ∧ 0 ≤ (I 5505) ∧ 0 ≤ (I 5633) ∧ 0 ≤ (I 5761) ∧ 0 ≤ (I 5889) ∧ 0 ≤ (I 6017) ∧ 0 ≤ (I 3905) ∧ 0 ≤ (I 4033)) by (repeat' apply And.intro) <;> first | assumption | omega) (show m_BI I A by exact hBI) (show (I 4481) < 65000 ∧ (I 5761) < 65000 by first | assumption | omega)) (fun r10 M11 q12 => ?_)
    rcases q12 with ⟨v13, I12a, A12a, B12a, C12a, e14, ⟨r15, r16⟩, hR12a, f17, f18, f19, f20⟩
    rw [e14]
    replace hR12a : w_Rep w_TM fr X u l I12a A12a B12a C12a M11 := hR12a
    replace f17 : m_gx I A I12a A12a := f17
    replace f18 : (((I12a 4737) = (I12a 4609) ∧ (I12a 4865) = (I12a 4609) ∧ (I12a 4993) = (I12a 4609) ∧ (I12a 5121) = (I12a 4609) ∧ (I12a 5249) = (I12a 4609) ∧ (I12a 5377) = (I12a 4609) ∧ (I12a 3393) = (I12a 3905) ∧ (I12a 3521) = (I12a 3905) ∧ (I12a 3649) = (I12a 3905) ∧ (I12a 3777) = (I12a 3905) ∧ (I12a 4161) = (I12a 4033)) ∧ (0 ≤ (I12a 4609) ∧ 0 ≤ (I12a 4481) ∧ 0 ≤ (I12a 5505) ∧ 0 ≤ (I12a 5633) ∧ 0 ≤ (I12a 5761) ∧ 0 ≤ (I12a 5889) ∧ 0 ≤ (I12a 6017) ∧ 0 ≤ (I12a 3905) ∧ 0 ≤ (I12a 4033))) ∧ ((I12a 3905) = (I 3905) ∧ (I12a 4033) = (I 4033) ∧ (I12a 5889) = (I 5889) ∧ (I12a 6017) = (I 6017)) ∧ ((I12a 4609) = (I 4609) + 0 ∧ (I12a 4481) = (I 4481) + 1 ∧ (I12a 5505) = (I 5505) + 0 ∧ (I12a 5633) = (I 5633) + 0 ∧ (I12a 5761) = (I 5761) + 1) ∧ v13 = (I 4481) := f18
    obtain ⟨⟨⟨n21, n22, n23, n24, n25, n26, n27, n28, n29, n30, n31⟩, ⟨n32, n33, n34, n35, n36, n37, n38, n39, n40⟩⟩, ⟨n41, n42, n43, n44⟩, ⟨n45, n46, n47, n48, n49⟩, n50⟩ := id f18
    clear f18
    replace f19 : m_BI I12a A12a := f19
    replace f20 : m_cp I A A12a := f20
    have cp51 : m_cp I A A12a := m_cp_trans (I := I) (I' := I) m_cp_refl f20 (show (I 5889) ≤ (I 5889) by omega) (show (I 6017) ≤ (I 6017) by omega)
    show w_W _ _ _ (34, [(0, .ref 43), (1, .int (Int32.ofInt (e)))], [.int (Int32.ofInt (v13))], M11) _
    refine w_fin (r := .inl (some (v13))) (M' := M11) rfl ?_
    exact ⟨v13, I12a, A12a, B12a, C12a, rfl, ⟨by omega, by omega⟩, hR12a, (show m_gx I A I12a A12a by exact f17), (show (((I12a 4737) = (I12a 4609) ∧ (I12a 4865) = (I12a 4609) ∧ (I12a 4993) = (I12a 4609) ∧ (I12a 5121) = (I12a 4609) ∧ (I12a 5249) = (I12a 4609) ∧ (I12a 5377) = (I12a 4609) ∧ (I12a 3393) = (I12a 3905) ∧ (I12a 3521) = (I12a 3905) ∧ (I12a 3649) = (I12a 3905) ∧ (I12a 3777) = (I12a 3905) ∧ (I12a 4161) = (I12a 4033)) ∧ (0 ≤ (I12a 4609) ∧ 0 ≤ (I12a 4481) ∧ 0 ≤ (I12a 5505) ∧ 0 ≤ (I12a 5633) ∧ 0 ≤ (I12a 5761) ∧ 0 ≤ (I12a 5889) ∧ 0 ≤ (I12a 6017) ∧ 0 ≤ (I12a 3905) ∧ 0 ≤ (I12a 4033))) ∧ ((I12a 3905) = (I 3905) ∧ (I12a 4033) = (I 4033) ∧ (I12a 5889) = (I 5889) ∧ (I12a 6017) = (I 6017)) ∧ ((I12a 4609) = (I 4609) ∧ (I12a 5505) = (I 5505) ∧ (I12a 5633) = (I 5633)) ∧ ((I 4481) ≤ (I12a 4481) ∧ (I12a 4481) ≤ (I 4481) + 1 ∧ (I12a 5761) + (I 4481) = (I 5761) + (I12a 4481)) by (repeat' apply And.intro) <;> first | assumption | omega), (show m_BI I12a A12a by exact f19), (show m_cp I A A12a by exact cp51)⟩
  · have h9 : ¬ (¬ (A 53) (e) = 3) := h9
    show w_W _ _ _ (12, [(0, .ref 43), (1, .int (Int32.ofInt (e)))], [], M) _
    refine w_adv (n := 1) (F' := (13, [(0, .ref 43), (1, .int (Int32.ofInt (e)))], [.ref 43], M)) rfl ?_
    refine w_gf (v := .ref 65) hR rfl rfl rfl rfl ?_
    refine w_adv (n := 1) (F' := (17, [(0, .ref 43), (1, .int (Int32.ofInt (e)))], [.ref 43, .ref 65], M)) rfl ?_
    refine w_gf (v := .ref 55) hR rfl rfl rfl rfl ?_
    refine w_adv (n := 1) (F' := (21, [(0, .ref 43), (1, .int (Int32.ofInt (e)))], [.int (Int32.ofInt (e)), .ref 55, .ref 65], M)) rfl ?_
    obtain ⟨r52a, r52b, r52c⟩ : 0 ≤ (I 3521) ∧ (I 3521) ≤ (C 55 : Int) ∧ (C 55 : Int) ≤ 131072 := hR.sz (show 55 ∈ w_TM.2.2 by decide)
    refine w_call (cm := 238) (as := [(0, .ref 55), (1, .int (Int32.ofInt (e)))]) (rest := [.ref 65]) (o := some (10, 55)) rfl (w_fitR hR rfl) (m_get (e) 55 (by decide) rfl hR ⟨by omega, by omega⟩ (show 0 ≤ e by first | assumption | omega) (show e < (C 55 : Int) by first | assumption | omega)) (fun r53 M54 q55 => ?_)
    rcases q55 with ⟨e56, e57⟩
    rw [e56, e57]
    obtain ⟨r58, r59⟩ : -2147483648 ≤ (A 55) (e) ∧ (A 55) (e) ≤ 2147483647 := hR.ra 55 (e)
    obtain ⟨va1, va2⟩ := (hTR (e) (by omega) (by omega)).1.2.1 (by omega)
    show w_W _ _ _ (24, [(0, .ref 43), (1, .int (Int32.ofInt (e)))], [.int (Int32.ofInt ((A 55) (e))), .ref 65], M) _
    obtain ⟨r60a, r60b, r60c⟩ : 0 ≤ (I 4161) ∧ (I 4161) ≤ (C 65 : Int) ∧ (C 65 : Int) ≤ 131072 := hR.sz (show 65 ∈ w_TM.2.2 by decide)
    refine w_call (cm := 238) (as := [(0, .ref 65), (1, .int (Int32.ofInt ((A 55) (e))))]) (rest := []) (o := some (10, 65)) rfl (w_fitR hR rfl) (m_get ((A 55) (e)) 65 (by decide) rfl hR ⟨by omega, by omega⟩ (show 0 ≤ (A 55) (e) by first | assumption | omega) (show (A 55) (e) < (C 65 : Int) by first | assumption | omega)) (fun r61 M62 q63 => ?_)
    rcases q63 with ⟨e64, e65⟩
    rw [e64, e65]
    obtain ⟨r66, r67⟩ : -2147483648 ≤ (A 65) ((A 55) (e)) ∧ (A 65) ((A 55) (e)) ≤ 2147483647 := hR.ra 65 ((A 55) (e))
    show w_W _ _ _ (27, [(0, .ref 43), (1, .int (Int32.ofInt (e)))], [.int (Int32.ofInt ((A 65) ((A 55) (e))))], M) _
    refine w_adv (n := 1) (F' := (34, [(0, .ref 43), (1, .int (Int32.ofInt (e)))], [.int (Int32.ofInt ((A 65) ((A 55) (e))))], M)) rfl ?_
    refine w_fin (r := .inl (some ((A 65) ((A 55) (e))))) (M' := M) rfl ?_
    exact ⟨(A 65) ((A 55) (e)), I, A, B, C, rfl, ⟨by omega, by omega⟩, hR, (show m_gx I A I A by exact m_gx_refl), (show (((I 4737) = (I 4609) ∧ (I 4865) = (I 4609) ∧ (I 4993) = (I 4609) ∧ (I 5121) = (I 4609) ∧ (I 5249) = (I 4609) ∧ (I 5377) = (I 4609) ∧ (I 3393) = (I 3905) ∧ (I 3521) = (I 3905) ∧ (I 3649) = (I 3905) ∧ (I 3777) = (I 3905) ∧ (I 4161) = (I 4033)) ∧ (0 ≤ (I 4609) ∧ 0 ≤ (I 4481) ∧ 0 ≤ (I 5505) ∧ 0 ≤ (I 5633) ∧ 0 ≤ (I 5761) ∧ 0 ≤ (I 5889) ∧ 0 ≤ (I 6017) ∧ 0 ≤ (I 3905) ∧ 0 ≤ (I 4033))) ∧ ((I 3905) = (I 3905) ∧ (I 4033) = (I 4033) ∧ (I 5889) = (I 5889) ∧ (I 6017) = (I 6017)) ∧ ((I 4609) = (I 4609) ∧ (I 5505) = (I 5505) ∧ (I 5633) = (I 5633)) ∧ ((I 4481) ≤ (I 4481) ∧ (I 4481) ≤ (I 4481) + 1 ∧ (I 5761) + (I 4481) = (I 5761) + (I 4481)) by (repeat' apply And.intro) <;> first | assumption | omega), (show m_BI I A by exact hBI), (show m_cp I A A by exact m_cp_refl)⟩
