def m_row_Q (fr : Nat → Bool) (X : Nat → Option (q_C (Nat → Int32))) (u l : Nat) (I : Nat → Int) (A : Nat → Int → Int) (B C : Nat → Nat) (M : w_M) (fm : Int) : w_X → w_M → Prop := fun r M' => (∃ v : Int, ∃ (I' : Nat → Int) (A' : Nat → Int → Int) (B' C' : Nat → Nat), (r = .inl (some v)) ∧ (w_in v) ∧ (w_Rep w_TM fr X u l I' A' B' C' M') ∧ (m_gx I A I' A') ∧ ((((I' 4737) = (I' 4609) ∧ (I' 4865) = (I' 4609) ∧ (I' 4993) = (I' 4609) ∧ (I' 5121) = (I' 4609) ∧ (I' 5249) = (I' 4609) ∧ (I' 5377) = (I' 4609) ∧ (I' 3393) = (I' 3905) ∧ (I' 3521) = (I' 3905) ∧ (I' 3649) = (I' 3905) ∧ (I' 3777) = (I' 3905) ∧ (I' 4161) = (I' 4033)) ∧ (0 ≤ (I' 4609) ∧ 0 ≤ (I' 4481) ∧ 0 ≤ (I' 5505) ∧ 0 ≤ (I' 5633) ∧ 0 ≤ (I' 5761) ∧ 0 ≤ (I' 5889) ∧ 0 ≤ (I' 6017) ∧ 0 ≤ (I' 3905) ∧ 0 ≤ (I' 4033))) ∧ ((I' 3905) = (I 3905) ∧ (I' 4033) = (I 4033) ∧ (I' 5889) = (I 5889) ∧ (I' 6017) = (I 6017)) ∧ ((I' 4609) = (I 4609) ∧ (I' 4481) = (I 4481) ∧ (I' 5505) = (I 5505) ∧ (I' 5761) = (I 5761)) ∧ (I' 5633) = fm ∧ -1 ≤ v ∧ v < (I 4609)) ∧ (m_BI I' A') ∧ (m_cp I A A'))
set_option maxHeartbeats 100000000 in
set_option maxRecDepth 100000 in
theorem m_row {L : Nat} {xs : Nat → Int32} {d : Nat} {fr : Nat → Bool} {X : Nat → Option (q_C (Nat → Int32))} {u l : Nat} {I : Nat → Int} {A : Nat → Int → Int} {B C : Nat → Nat} {M : w_M} (fm : Int) (hR : w_Rep w_TM fr X u l I A B C M) (hd : 1 ≤ d) (r_fm : w_in fm) (hN : ((I 4737) = (I 4609) ∧ (I 4865) = (I 4609) ∧ (I 4993) = (I 4609) ∧ (I 5121) = (I 4609) ∧ (I 5249) = (I 4609) ∧ (I 5377) = (I 4609) ∧ (I 3393) = (I 3905) ∧ (I 3521) = (I 3905) ∧ (I 3649) = (I 3905) ∧ (I 3777) = (I 3905) ∧ (I 4161) = (I 4033)) ∧ (0 ≤ (I 4609) ∧ 0 ≤ (I 4481) ∧ 0 ≤ (I 5505) ∧ 0 ≤ (I 5633) ∧ 0 ≤ (I 5761) ∧ 0 ≤ (I 5889) ∧ 0 ≤ (I 6017) ∧ 0 ≤ (I 3905) ∧ 0 ≤ (I 4033))) (hBI : m_BI I A) (hf : 0 ≤ fm ∧ fm ≤ (I 5633)) : w_W (z_P L xs) d 300 (0, [(0, .ref 43), (1, .int (Int32.ofInt (fm)))], [], M) (m_row_Q fr X u l I A B C M fm) := by
  obtain ⟨ra_fm, rb_fm⟩ := r_fm
  obtain ⟨d, rfl⟩ : ∃ d0, d = d0 + 1 := ⟨d - 1, by omega⟩
  refine w_adv (n := 2) (F' := (2, [(2, .int (Int32.ofInt (fm))), (0, .ref 43), (1, .int (Int32.ofInt (fm)))], [], M)) rfl ?_
  have lp2 : ∀ fu2 : Nat, ∀ (y2_2 : Int) (I_2 : Nat → Int) (A_2 : Nat → Int → Int) (B_2 C_2 : Nat → Nat) (M_2 : w_M) (hR_2 : w_Rep w_TM fr X u l I_2 A_2 B_2 C_2 M_2), w_in y2_2 → m_gx I A I_2 A_2 → (((I_2 4737) = (I_2 4609) ∧ (I_2 4865) = (I_2 4609) ∧ (I_2 4993) = (I_2 4609) ∧ (I_2 5121) = (I_2 4609) ∧ (I_2 5249) = (I_2 4609) ∧ (I_2 5377) = (I_2 4609) ∧ (I_2 3393) = (I_2 3905) ∧ (I_2 3521) = (I_2 3905) ∧ (I_2 3649) = (I_2 3905) ∧ (I_2 3777) = (I_2 3905) ∧ (I_2 4161) = (I_2 4033)) ∧ (0 ≤ (I_2 4609) ∧ 0 ≤ (I_2 4481) ∧ 0 ≤ (I_2 5505) ∧ 0 ≤ (I_2 5633) ∧ 0 ≤ (I_2 5761) ∧ 0 ≤ (I_2 5889) ∧ 0 ≤ (I_2 6017) ∧ 0 ≤ (I_2 3905) ∧ 0 ≤ (I_2 4033))) ∧ ((I_2 3905) = (I 3905) ∧ (I_2 4033) = (I 4033) ∧ (I_2 4609) = (I 4609) ∧ (I_2 4481) = (I 4481) ∧ (I_2 5505) = (I 5505) ∧ (I_2 5633) = (I 5633) ∧ (I_2 5761) = (I 5761) ∧ (I_2 5889) = (I 5889) ∧ (I_2 6017) = (I 6017)) ∧ fm ≤ y2_2 ∧ y2_2 ≤ (I 5633) → m_BI I_2 A_2 → m_cp I A A_2 → (I 5633) - y2_2 < (fu2 : Int) → w_W (z_P L xs) (d + 1) 300 (2, [(0, .ref 43), (1, .int (Int32.ofInt (fm))), (2, .int (Int32.ofInt (y2_2)))], [], M_2) (m_row_Q fr X u l I A B C M fm) := by
    intro fu2
    induction fu2 with
    | zero =>
      intro y2_2 I_2 A_2 B_2 C_2 M_2 hR_2 ⟨ra_y2_2, rb_y2_2⟩ hi2_0 hi2_1 hi2_2 hi2_3 hn2
      exfalso
      omega
    | succ fu2 ih2 =>
      intro y2_2 I_2 A_2 B_2 C_2 M_2 hR_2 ⟨ra_y2_2, rb_y2_2⟩ hi2_0 hi2_1 hi2_2 hi2_3 hn2
      obtain ⟨⟨⟨n1, n2, n3, n4, n5, n6, n7, n8, n9, n10, n11⟩, ⟨n12, n13, n14, n15, n16, n17, n18, n19, n20⟩⟩, ⟨n21, n22, n23, n24, n25, n26, n27, n28, n29⟩, n30, n31⟩ := hi2_1
      refine w_adv (n := 2) (F' := (4, [(0, .ref 43), (1, .int (Int32.ofInt (fm))), (2, .int (Int32.ofInt (y2_2)))], [.int (Int32.ofInt (1)), .int (Int32.ofInt (y2_2))], M_2)) rfl ?_
      refine w_add rfl ?_
      refine w_adv (n := 1) (F' := (6, [(0, .ref 43), (1, .int (Int32.ofInt (fm))), (2, .int (Int32.ofInt (y2_2)))], [.ref 43, .int (Int32.ofInt (y2_2 + 1))], M_2)) rfl ?_
      refine w_gf (v := .ref 88) hR_2 rfl rfl rfl rfl ?_
      refine w_gf (v := .int (Int32.ofInt ((I_2 5633)))) hR_2 rfl rfl rfl rfl ?_
      obtain ⟨r32, r33⟩ : -2147483648 ≤ (I_2 5633) ∧ (I_2 5633) ≤ 2147483647 := hR_2.ri 5633
      obtain ⟨r34a, r34b, r34c⟩ : 0 ≤ (I_2 5633) ∧ (I_2 5633) ≤ (C_2 88 : Int) ∧ (C_2 88 : Int) ≤ 131072 := hR_2.sz (show 88 ∈ w_TM.2.2 by decide)
      refine w_br2 (a := y2_2 + 1) (b := (I_2 5633)) rfl rfl ⟨by omega, by omega⟩ ⟨by omega, by omega⟩ (fun h35 => ?_) (fun h35 => ?_)
      · have h35 : y2_2 + 1 ≥ (I_2 5633) := h35
        show w_W _ _ _ (47, [(0, .ref 43), (1, .int (Int32.ofInt (fm))), (2, .int (Int32.ofInt (y2_2)))], [], M_2) _
        refine w_adv (n := 1) (F' := (48, [(0, .ref 43), (1, .int (Int32.ofInt (fm))), (2, .int (Int32.ofInt (y2_2)))], [.ref 43], M_2)) rfl ?_
        refine w_gf (v := .ref 88) hR_2 rfl rfl rfl rfl ?_
        refine w_gf (v := .int (Int32.ofInt ((I_2 5633)))) hR_2 rfl rfl rfl rfl ?_
        refine w_adv (n := 1) (F' := (55, [(0, .ref 43), (1, .int (Int32.ofInt (fm))), (2, .int (Int32.ofInt (y2_2)))], [.int (Int32.ofInt (fm)), .int (Int32.ofInt ((I_2 5633)))], M_2)) rfl ?_
        refine w_br2 (a := (I_2 5633)) (b := fm) rfl rfl ⟨by omega, by omega⟩ ⟨by omega, by omega⟩ (fun h36 => ?_) (fun h36 => ?_)
        · have h36 : (I_2 5633) ≤ fm := h36
          show w_W _ _ _ (69, [(0, .ref 43), (1, .int (Int32.ofInt (fm))), (2, .int (Int32.ofInt (y2_2)))], [], M_2) _
          refine w_adv (n := 3) (F' := (72, [(2, .int (Int32.ofInt ((-1)))), (0, .ref 43), (1, .int (Int32.ofInt (fm)))], [.ref 43], M_2)) rfl ?_
          refine w_gf (v := .ref 88) hR_2 rfl rfl rfl rfl ?_
          refine w_adv (n := 1) (F' := (76, [(2, .int (Int32.ofInt ((-1)))), (0, .ref 43), (1, .int (Int32.ofInt (fm)))], [.int (Int32.ofInt (fm)), .ref 88], M_2)) rfl ?_
          refine w_pf hR_2 rfl rfl rfl rfl (show w_in (fm) from ⟨by omega, by omega⟩) (fun _ _ => (show 0 ≤ fm ∧ fm ≤ (C_2 88 : Int) by omega)) (fun M37 hR38 => ?_)
          replace hR38 : w_Rep w_TM fr X u l (w_up I_2 5633 (fm)) A_2 B_2 C_2 M37 := hR38
          have bi39 : m_BI (w_up I_2 5633 (fm)) A_2 := m_BI_cut (I := I_2) (A := A_2) hi2_2 (show fm ≤ (I_2 5633) by omega) rfl rfl rfl rfl rfl rfl rfl rfl rfl
          refine w_adv (n := 1) (F' := (80, [(2, .int (Int32.ofInt ((-1)))), (0, .ref 43), (1, .int (Int32.ofInt (fm)))], [.int (Int32.ofInt ((-1)))], M37)) rfl ?_
          refine w_fin (r := .inl (some ((-1)))) (M' := M37) rfl ?_
          exact ⟨(-1), (w_up I_2 5633 (fm)), A_2, B_2, C_2, rfl, ⟨by omega, by omega⟩, hR38, (show m_gx I A (w_up I_2 5633 (fm)) A_2 by exact (show m_gx I A (w_up I_2 5633 (fm)) A_2 from hi2_0)), (show (((I_2 4737) = (I_2 4609) ∧ (I_2 4865) = (I_2 4609) ∧ (I_2 4993) = (I_2 4609) ∧ (I_2 5121) = (I_2 4609) ∧ (I_2 5249) = (I_2 4609) ∧ (I_2 5377) = (I_2 4609) ∧ (I_2 3393) = (I_2 3905) ∧ (I_2 3521) = (I_2 3905) ∧ (I_2 3649) = (I_2 3905) ∧ (I_2 3777) = (I_2 3905) ∧ (I_2 4161) = (I_2 4033)) ∧ (0 ≤ (I_2 4609) ∧ 0 ≤ (I_2 4481) ∧ 0 ≤ (I_2 5505) ∧ 0 ≤ fm ∧ 0 ≤ (I_2 5761) ∧ 0 ≤ (I_2 5889) ∧ 0 ≤ (I_2 6017) ∧ 0 ≤ (I_2 3905) ∧ 0 ≤ (I_2 4033))) ∧ ((I_2 3905) = (I 3905) ∧ (I_2 4033) = (I 4033) ∧ (I_2 5889) = (I 5889) ∧ (I_2 6017) = (I 6017)) ∧ ((I_2 4609) = (I 4609) ∧ (I_2 4481) = (I 4481) ∧ (I_2 5505) = (I 5505) ∧ (I_2 5761) = (I 5761)) ∧ fm = fm ∧ -1 ≤ (-1) ∧ (-1) < (I 4609) by (repeat' apply And.intro) <;> first | assumption | omega), (show m_BI (w_up I_2 5633 (fm)) A_2 by exact bi39), (show m_cp I A A_2 by exact (show m_cp I A A_2 from hi2_3))⟩
        · have h36 : ¬ ((I_2 5633) ≤ fm) := h36
          show w_W _ _ _ (58, [(0, .ref 43), (1, .int (Int32.ofInt (fm))), (2, .int (Int32.ofInt (y2_2)))], [], M_2) _
          refine w_adv (n := 1) (F' := (59, [(0, .ref 43), (1, .int (Int32.ofInt (fm))), (2, .int (Int32.ofInt (y2_2)))], [.ref 43], M_2)) rfl ?_
          refine w_gf (v := .ref 88) hR_2 rfl rfl rfl rfl ?_
          refine w_adv (n := 1) (F' := (63, [(0, .ref 43), (1, .int (Int32.ofInt (fm))), (2, .int (Int32.ofInt (y2_2)))], [.int (Int32.ofInt (fm)), .ref 88], M_2)) rfl ?_
          refine w_call (cm := 238) (as := [(0, .ref 88), (1, .int (Int32.ofInt (fm)))]) (rest := []) (o := some (10, 88)) rfl (w_fitR hR_2 rfl) (m_get (fm) 88 (by decide) rfl hR_2 ⟨by omega, by omega⟩ (show 0 ≤ fm by first | assumption | omega) (show fm < (C_2 88 : Int) by first | assumption | omega)) (fun r40 M41 q42 => ?_)
          rcases q42 with ⟨e43, e44⟩
          rw [e43, e44]
          obtain ⟨r45, r46⟩ : -2147483648 ≤ (A_2 88) (fm) ∧ (A_2 88) (fm) ≤ 2147483647 := hR_2.ra 88 (fm)
          obtain ⟨pf66a, pf66b⟩ := hi2_2.1 (fm) (show 0 ≤ fm by omega) (show fm < (I_2 5633) by omega)
          show w_W _ _ _ (66, [(0, .ref 43), (1, .int (Int32.ofInt (fm))), (2, .int (Int32.ofInt (y2_2)))], [.int (Int32.ofInt ((A_2 88) (fm)))], M_2) _
          refine w_adv (n := 3) (F' := (72, [(2, .int (Int32.ofInt ((A_2 88) (fm)))), (0, .ref 43), (1, .int (Int32.ofInt (fm)))], [.ref 43], M_2)) rfl ?_
          refine w_gf (v := .ref 88) hR_2 rfl rfl rfl rfl ?_
          refine w_adv (n := 1) (F' := (76, [(2, .int (Int32.ofInt ((A_2 88) (fm)))), (0, .ref 43), (1, .int (Int32.ofInt (fm)))], [.int (Int32.ofInt (fm)), .ref 88], M_2)) rfl ?_
          refine w_pf hR_2 rfl rfl rfl rfl (show w_in (fm) from ⟨by omega, by omega⟩) (fun _ _ => (show 0 ≤ fm ∧ fm ≤ (C_2 88 : Int) by omega)) (fun M47 hR48 => ?_)
          replace hR48 : w_Rep w_TM fr X u l (w_up I_2 5633 (fm)) A_2 B_2 C_2 M47 := hR48
          have bi49 : m_BI (w_up I_2 5633 (fm)) A_2 := m_BI_cut (I := I_2) (A := A_2) hi2_2 (show fm ≤ (I_2 5633) by omega) rfl rfl rfl rfl rfl rfl rfl rfl rfl
          refine w_adv (n := 1) (F' := (80, [(2, .int (Int32.ofInt ((A_2 88) (fm)))), (0, .ref 43), (1, .int (Int32.ofInt (fm)))], [.int (Int32.ofInt ((A_2 88) (fm)))], M47)) rfl ?_
          refine w_fin (r := .inl (some ((A_2 88) (fm)))) (M' := M47) rfl ?_
          exact ⟨(A_2 88) (fm), (w_up I_2 5633 (fm)), A_2, B_2, C_2, rfl, ⟨by omega, by omega⟩, hR48, (show m_gx I A (w_up I_2 5633 (fm)) A_2 by exact (show m_gx I A (w_up I_2 5633 (fm)) A_2 from hi2_0)), (show (((I_2 4737) = (I_2 4609) ∧ (I_2 4865) = (I_2 4609) ∧ (I_2 4993) = (I_2 4609) ∧ (I_2 5121) = (I_2 4609) ∧ (I_2 5249) = (I_2 4609) ∧ (I_2 5377) = (I_2 4609) ∧ (I_2 3393) = (I_2 3905) ∧ (I_2 3521) = (I_2 3905) ∧ (I_2 3649) = (I_2 3905) ∧ (I_2 3777) = (I_2 3905) ∧ (I_2 4161) = (I_2 4033)) ∧ (0 ≤ (I_2 4609) ∧ 0 ≤ (I_2 4481) ∧ 0 ≤ (I_2 5505) ∧ 0 ≤ fm ∧ 0 ≤ (I_2 5761) ∧ 0 ≤ (I_2 5889) ∧ 0 ≤ (I_2 6017) ∧ 0 ≤ (I_2 3905) ∧ 0 ≤ (I_2 4033))) ∧ ((I_2 3905) = (I 3905) ∧ (I_2 4033) = (I 4033) ∧ (I_2 5889) = (I 5889) ∧ (I_2 6017) = (I 6017)) ∧ ((I_2 4609) = (I 4609) ∧ (I_2 4481) = (I 4481) ∧ (I_2 5505) = (I 5505) ∧ (I_2 5761) = (I 5761)) ∧ fm = fm ∧ -1 ≤ (A_2 88) (fm) ∧ (A_2 88) (fm) < (I 4609) by (repeat' apply And.intro) <;> first | assumption | omega), (show m_BI (w_up I_2 5633 (fm)) A_2 by exact bi49), (show m_cp I A A_2 by exact (show m_cp I A A_2 from hi2_3))⟩
      · have h35 : ¬ (y2_2 + 1 ≥ (I_2 5633)) := h35
        show w_W _ _ _ (15, [(0, .ref 43), (1, .int (Int32.ofInt (fm))), (2, .int (Int32.ofInt (y2_2)))], [], M_2) _
        refine w_adv (n := 1) (F' := (16, [(0, .ref 43), (1, .int (Int32.ofInt (fm))), (2, .int (Int32.ofInt (y2_2)))], [.ref 43], M_2)) rfl ?_
        refine w_gf (v := .ref 80) hR_2 rfl rfl rfl rfl ?_
        refine w_gf (v := .ref (B_2 80)) hR_2 rfl rfl rfl rfl ?_
        refine w_adv (n := 1) (F' := (23, [(0, .ref 43), (1, .int (Int32.ofInt (fm))), (2, .int (Int32.ofInt (y2_2)))], [.ref 43, .ref (B_2 80)], M_2)) rfl ?_
        refine w_gf (v := .ref 88) hR_2 rfl rfl rfl rfl ?_
        refine w_adv (n := 1) (F' := (27, [(0, .ref 43), (1, .int (Int32.ofInt (fm))), (2, .int (Int32.ofInt (y2_2)))], [.int (Int32.ofInt (y2_2)), .ref 88, .ref (B_2 80)], M_2)) rfl ?_
        refine w_call (cm := 238) (as := [(0, .ref 88), (1, .int (Int32.ofInt (y2_2)))]) (rest := [.ref (B_2 80)]) (o := some (10, 88)) rfl (w_fitR hR_2 rfl) (m_get (y2_2) 88 (by decide) rfl hR_2 ⟨by omega, by omega⟩ (show 0 ≤ y2_2 by first | assumption | omega) (show y2_2 < (C_2 88 : Int) by first | assumption | omega)) (fun r50 M51 q52 => ?_)
        rcases q52 with ⟨e53, e54⟩
        rw [e53, e54]
        obtain ⟨r55, r56⟩ : -2147483648 ≤ (A_2 88) (y2_2) ∧ (A_2 88) (y2_2) ≤ 2147483647 := hR_2.ra 88 (y2_2)
        obtain ⟨pf30a, pf30b⟩ := hi2_2.1 (y2_2) (show 0 ≤ y2_2 by omega) (show y2_2 < (I_2 5633) by omega)
        show w_W _ _ _ (30, [(0, .ref 43), (1, .int (Int32.ofInt (fm))), (2, .int (Int32.ofInt (y2_2)))], [.int (Int32.ofInt ((A_2 88) (y2_2))), .ref (B_2 80)], M_2) _
        refine w_adv (n := 1) (F' := (31, [(0, .ref 43), (1, .int (Int32.ofInt (fm))), (2, .int (Int32.ofInt (y2_2)))], [.ref 43, .int (Int32.ofInt ((A_2 88) (y2_2))), .ref (B_2 80)], M_2)) rfl ?_
        refine w_gf (v := .ref 88) hR_2 rfl rfl rfl rfl ?_
        refine w_adv (n := 2) (F' := (36, [(0, .ref 43), (1, .int (Int32.ofInt (fm))), (2, .int (Int32.ofInt (y2_2)))], [.int (Int32.ofInt (1)), .int (Int32.ofInt (y2_2)), .ref 88, .int (Int32.ofInt ((A_2 88) (y2_2))), .ref (B_2 80)], M_2)) rfl ?_
        refine w_add rfl ?_
        refine w_call (cm := 238) (as := [(0, .ref 88), (1, .int (Int32.ofInt (y2_2 + 1)))]) (rest := [.int (Int32.ofInt ((A_2 88) (y2_2))), .ref (B_2 80)]) (o := some (10, 88)) rfl (w_fitR hR_2 rfl) (m_get (y2_2 + 1) 88 (by decide) rfl hR_2 ⟨by omega, by omega⟩ (show 0 ≤ y2_2 + 1 by first | assumption | omega) (show y2_2 + 1 < (C_2 88 : Int) by first | assumption | omega)) (fun r57 M58 q59 => ?_)
        rcases q59 with ⟨e60, e61⟩
        rw [e60, e61]
        obtain ⟨r62, r63⟩ : -2147483648 ≤ (A_2 88) (y2_2 + 1) ∧ (A_2 88) (y2_2 + 1) ≤ 2147483647 := hR_2.ra 88 (y2_2 + 1)
        skip
        show w_W _ _ _ (40, [(0, .ref 43), (1, .int (Int32.ofInt (fm))), (2, .int (Int32.ofInt (y2_2)))], [.int (Int32.ofInt ((A_2 88) (y2_2 + 1))), .int (Int32.ofInt ((A_2 88) (y2_2))), .ref (B_2 80)], M_2) _
        obtain ⟨r66a, r66b, r66c⟩ : 0 ≤ (I_2 5121) ∧ (I_2 5121) ≤ (C_2 80 : Int) ∧ (C_2 80 : Int) ≤ 131072 := hR_2.sz (show 80 ∈ w_TM.2.2 by decide)
        refine w_sr hR_2 rfl (by decide) (show 0 ≤ (A_2 88) (y2_2) by omega) (show (A_2 88) (y2_2) < (C_2 80 : Int) by omega) (show w_in ((A_2 88) (y2_2 + 1)) from ⟨by omega, by omega⟩) (fun M64 hR65 => ?_)
        replace hR65 : w_Rep w_TM fr X u l I_2 (w_upF A_2 80 (w_upA (A_2 80) ((A_2 88) (y2_2)) ((A_2 88) (y2_2 + 1)))) B_2 C_2 M64 := hR65
        refine w_inc (nL := 3) (a := y2_2) rfl rfl rfl (by decide) ?_
        refine w_adv (n := 1) (F' := (2, [(2, .int (Int32.ofInt (y2_2 + 1))), (0, .ref 43), (1, .int (Int32.ofInt (fm)))], [], M64)) rfl ?_
        refine w_ls (ls := [(0, .ref 43), (1, .int (Int32.ofInt (fm))), (2, .int (Int32.ofInt (y2_2 + 1)))]) (show List.Nodup [0, 1, 2] by decide) (show List.Nodup [2, 0, 1] by decide) (List.forall_mem_cons.mpr ⟨(List.Mem.tail _ (List.Mem.head _)), (List.forall_mem_cons.mpr ⟨(List.Mem.tail _ (List.Mem.tail _ (List.Mem.head _))), (List.forall_mem_cons.mpr ⟨(List.Mem.head _), (fun _ h => by cases h)⟩)⟩)⟩) ?_
        exact ih2  (y2_2 + 1) I_2 (w_upF A_2 80 (w_upA (A_2 80) ((A_2 88) (y2_2)) ((A_2 88) (y2_2 + 1)))) B_2 C_2 M64 hR65 ⟨by omega, by omega⟩ (show m_gx I A I_2 (w_upF A_2 80 (w_upA (A_2 80) ((A_2 88) (y2_2)) ((A_2 88) (y2_2 + 1)))) by exact (show m_gx I A I_2 (w_upF A_2 80 (w_upA (A_2 80) ((A_2 88) (y2_2)) ((A_2 88) (y2_2 + 1)))) from hi2_0)) (show (((I_2 4737) = (I_2 4609) ∧ (I_2 4865) = (I_2 4609) ∧ (I_2 4993) = (I_2 4609) ∧ (I_2 5121) = (I_2 4609) ∧ (I_2 5249) = (I_2 4609) ∧ (I_2 5377) = (I_2 4609) ∧ (I_2 3393) = (I_2 3905) ∧ (I_2 3521) = (I_2 3905) ∧ (I_2 3649) = (I_2 3905) ∧ (I_2 3777) = (I_2 3905) ∧ (I_2 4161) = (I_2 4033)) ∧ (0 ≤ (I_2 4609) ∧ 0 ≤ (I_2 4481) ∧ 0 ≤ (I_2 5505) ∧ 0 ≤ (I_2 5633) ∧ 0 ≤ (I_2 5761) ∧ 0 ≤ (I_2 5889) ∧ 0 ≤ (I_2 6017) ∧ 0 ≤ (I_2 3905) ∧ 0 ≤ (I_2 4033))) ∧ ((I_2 3905) = (I 3905) ∧ (I_2 4033) = (I 4033) ∧ (I_2 4609) = (I 4609) ∧ (I_2 4481) = (I 4481) ∧ (I_2 5505) = (I 5505) ∧ (I_2 5633) = (I 5633) ∧ (I_2 5761) = (I 5761) ∧ (I_2 5889) = (I 5889) ∧ (I_2 6017) = (I 6017)) ∧ fm ≤ y2_2 + 1 ∧ y2_2 + 1 ≤ (I 5633) by (repeat' apply And.intro) <;> first | assumption | omega) (show m_BI I_2 (w_upF A_2 80 (w_upA (A_2 80) ((A_2 88) (y2_2)) ((A_2 88) (y2_2 + 1)))) by exact (show m_BI I_2 (w_upF A_2 80 (w_upA (A_2 80) ((A_2 88) (y2_2)) ((A_2 88) (y2_2 + 1)))) from hi2_2)) (show m_cp I A (w_upF A_2 80 (w_upA (A_2 80) ((A_2 88) (y2_2)) ((A_2 88) (y2_2 + 1)))) by exact (show m_cp I A (w_upF A_2 80 (w_upA (A_2 80) ((A_2 88) (y2_2)) ((A_2 88) (y2_2 + 1)))) from hi2_3)) (show (I 5633) - (y2_2 + 1) < (fu2 : Int) by omega)
  refine w_ls (ls := [(0, .ref 43), (1, .int (Int32.ofInt (fm))), (2, .int (Int32.ofInt (fm)))]) (show List.Nodup [0, 1, 2] by decide) (show List.Nodup [2, 0, 1] by decide) (List.forall_mem_cons.mpr ⟨(List.Mem.tail _ (List.Mem.head _)), (List.forall_mem_cons.mpr ⟨(List.Mem.tail _ (List.Mem.tail _ (List.Mem.head _))), (List.forall_mem_cons.mpr ⟨(List.Mem.head _), (fun _ h => by cases h)⟩)⟩)⟩) ?_
  exact lp2 (((I 5633) - fm : Int).toNat + 1)  (fm) I A B C M hR ⟨by omega, by omega⟩ (show m_gx I A I A by exact m_gx_refl) (show (((I 4737) = (I 4609) ∧ (I 4865) = (I 4609) ∧ (I 4993) = (I 4609) ∧ (I 5121) = (I 4609) ∧ (I 5249) = (I 4609) ∧ (I 5377) = (I 4609) ∧ (I 3393) = (I 3905) ∧ (I 3521) = (I 3905) ∧ (I 3649) = (I 3905) ∧ (I 3777) = (I 3905) ∧ (I 4161) = (I 4033)) ∧ (0 ≤ (I 4609) ∧ 0 ≤ (I 4481) ∧ 0 ≤ (I 5505) ∧ 0 ≤ (I 5633) ∧ 0 ≤ (I 5761) ∧ 0 ≤ (I 5889) ∧ 0 ≤ (I 6017) ∧ 0 ≤ (I 3905) ∧ 0 ≤ (I 4033))) ∧ ((I 3905) = (I 3905) ∧ (I 4033) = (I 4033) ∧ (I 4609) = (I 4609) ∧ (I 4481) = (I 4481) ∧ (I 5505) = (I 5505) ∧ (I 5633) = (I 5633) ∧ (I 5761) = (I 5761) ∧ (I 5889) = (I 5889) ∧ (I 6017) = (I 6017)) ∧ fm ≤ fm ∧ fm ≤ (I 5633) by (repeat' apply And.intro) <;> first | assumption | omega) (show m_BI I A by exact hBI) (show m_cp I A A by exact m_cp_refl) (show (I 5633) - fm < ((((I 5633) - fm : Int).toNat + 1 : Nat) : Int) by omega)
