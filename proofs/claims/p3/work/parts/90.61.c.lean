def m_isName_Q (fr : Nat → Bool) (X : Nat → Option (q_C (Nat → Int32))) (u l : Nat) (I : Nat → Int) (A : Nat → Int → Int) (B C : Nat → Nat) (M : w_M) (n : Int) (fm : Int) (tt : Int) : w_X → w_M → Prop := fun r M' => (∃ v : Int, (r = .inl (some v)) ∧ (w_in v) ∧ (M' = M) ∧ (v = 0 ∨ v = 1))
set_option maxHeartbeats 100000000 in
set_option maxRecDepth 100000 in
theorem m_isName {L : Nat} {xs : Nat → Int32} {d : Nat} {fr : Nat → Bool} {X : Nat → Option (q_C (Nat → Int32))} {u l : Nat} {I : Nat → Int} {A : Nat → Int → Int} {B C : Nat → Nat} {M : w_M} (n : Int) (fm : Int) (tt : Int) (hR : w_Rep w_TM fr X u l I A B C M) (r_n : w_in n) (r_fm : w_in fm) (r_tt : w_in tt) (hsz : 0 ≤ (I 2753) ∧ (I 2753) ≤ 8192) (hNA : m_NA I A) (hft : 0 ≤ fm ∧ fm ≤ tt ∧ tt ≤ (I 2753) ∧ tt - fm ≤ 24) (hn : 0 ≤ n ∧ n ≤ 400) : w_W (z_P L xs) d 223 (0, [(0, .ref 43), (1, .int (Int32.ofInt (n))), (2, .int (Int32.ofInt (fm))), (3, .int (Int32.ofInt (tt)))], [], M) (m_isName_Q fr X u l I A B C M n fm tt) := by
  obtain ⟨ra_n, rb_n⟩ := r_n
  obtain ⟨ra_fm, rb_fm⟩ := r_fm
  obtain ⟨ra_tt, rb_tt⟩ := r_tt
  obtain ⟨⟨na1, na2⟩, na3, na4⟩ := hNA.2 n (by omega) (by omega)
  obtain ⟨⟨nb1, nb2⟩, nb3, nb4⟩ := hNA.2 (n + 1) (by omega) (by omega)
  refine w_adv (n := 1) (F' := (1, [(0, .ref 43), (1, .int (Int32.ofInt (n))), (2, .int (Int32.ofInt (fm))), (3, .int (Int32.ofInt (tt)))], [.ref 43], M)) rfl ?_
  refine w_gf (v := .ref 51) hR rfl rfl rfl rfl ?_
  refine w_adv (n := 2) (F' := (6, [(0, .ref 43), (1, .int (Int32.ofInt (n))), (2, .int (Int32.ofInt (fm))), (3, .int (Int32.ofInt (tt)))], [.int (Int32.ofInt (1)), .int (Int32.ofInt (n)), .ref 51], M)) rfl ?_
  refine w_add rfl ?_
  refine w_la (n := 402) hR rfl (Or.inl ⟨rfl, rfl⟩) rfl (show 0 ≤ n + 1 by omega) (show n + 1 < (402 : Int) by omega) (by decide) ?_
  obtain ⟨r1, r2⟩ : -2147483648 ≤ (A 51) (n + 1) ∧ (A 51) (n + 1) ≤ 2147483647 := hR.ra 51 (n + 1)
  show w_W _ _ _ (8, [(0, .ref 43), (1, .int (Int32.ofInt (n))), (2, .int (Int32.ofInt (fm))), (3, .int (Int32.ofInt (tt)))], [.int (Int32.ofInt ((A 51) (n + 1)))], M) _
  refine w_adv (n := 1) (F' := (9, [(0, .ref 43), (1, .int (Int32.ofInt (n))), (2, .int (Int32.ofInt (fm))), (3, .int (Int32.ofInt (tt)))], [.ref 43, .int (Int32.ofInt ((A 51) (n + 1)))], M)) rfl ?_
  refine w_gf (v := .ref 51) hR rfl rfl rfl rfl ?_
  refine w_adv (n := 1) (F' := (13, [(0, .ref 43), (1, .int (Int32.ofInt (n))), (2, .int (Int32.ofInt (fm))), (3, .int (Int32.ofInt (tt)))], [.int (Int32.ofInt (n)), .ref 51, .int (Int32.ofInt ((A 51) (n + 1)))], M)) rfl ?_
  refine w_la (n := 402) hR rfl (Or.inl ⟨rfl, rfl⟩) rfl (show 0 ≤ n by omega) (show n < (402 : Int) by omega) (by decide) ?_
  obtain ⟨r3, r4⟩ : -2147483648 ≤ (A 51) (n) ∧ (A 51) (n) ≤ 2147483647 := hR.ra 51 (n)
  show w_W _ _ _ (14, [(0, .ref 43), (1, .int (Int32.ofInt (n))), (2, .int (Int32.ofInt (fm))), (3, .int (Int32.ofInt (tt)))], [.int (Int32.ofInt ((A 51) (n))), .int (Int32.ofInt ((A 51) (n + 1)))], M) _
  refine w_sub rfl ?_
  refine w_adv (n := 2) (F' := (17, [(0, .ref 43), (1, .int (Int32.ofInt (n))), (2, .int (Int32.ofInt (fm))), (3, .int (Int32.ofInt (tt)))], [.int (Int32.ofInt (fm)), .int (Int32.ofInt (tt)), .int (Int32.ofInt (((A 51) (n + 1)) - ((A 51) (n))))], M)) rfl ?_
  refine w_sub rfl ?_
  refine w_br2 (a := ((A 51) (n + 1)) - ((A 51) (n))) (b := tt - fm) rfl rfl ⟨by omega, by omega⟩ ⟨by omega, by omega⟩ (fun h5 => ?_) (fun h5 => ?_)
  · have h5 : ¬ ((A 51) (n + 1)) - ((A 51) (n)) = tt - fm := h5
    show w_W _ _ _ (25, [(0, .ref 43), (1, .int (Int32.ofInt (n))), (2, .int (Int32.ofInt (fm))), (3, .int (Int32.ofInt (tt)))], [], M) _
    refine w_adv (n := 4) (F' := (31, [(5, .int (Int32.ofInt (0))), (4, .int (Int32.ofInt (0))), (0, .ref 43), (1, .int (Int32.ofInt (n))), (2, .int (Int32.ofInt (fm))), (3, .int (Int32.ofInt (tt)))], [], M)) rfl ?_
    have lp31 : ∀ fu31 : Nat, ∀ (y31_4 : Int) (y31_5 : Int), w_in y31_4 → w_in y31_5 → 0 ≤ y31_5 ∧ y31_5 ≤ tt - fm ∧ (y31_4 = 0 ∨ y31_4 = 1) → tt - fm - y31_5 < (fu31 : Int) → w_W (z_P L xs) d 223 (31, [(0, .ref 43), (1, .int (Int32.ofInt (n))), (2, .int (Int32.ofInt (fm))), (3, .int (Int32.ofInt (tt))), (4, .int (Int32.ofInt (y31_4))), (5, .int (Int32.ofInt (y31_5)))], [], M) (m_isName_Q fr X u l I A B C M n fm tt) := by
      intro fu31
      induction fu31 with
      | zero =>
        intro y31_4 y31_5 ⟨ra_y31_4, rb_y31_4⟩ ⟨ra_y31_5, rb_y31_5⟩ hi31_0 hn31
        exfalso
        omega
      | succ fu31 ih31 =>
        intro y31_4 y31_5 ⟨ra_y31_4, rb_y31_4⟩ ⟨ra_y31_5, rb_y31_5⟩ hi31_0 hn31
        refine w_adv (n := 3) (F' := (35, [(0, .ref 43), (1, .int (Int32.ofInt (n))), (2, .int (Int32.ofInt (fm))), (3, .int (Int32.ofInt (tt))), (4, .int (Int32.ofInt (y31_4))), (5, .int (Int32.ofInt (y31_5)))], [.int (Int32.ofInt (fm)), .int (Int32.ofInt (tt)), .int (Int32.ofInt (y31_5))], M)) rfl ?_
        refine w_sub rfl ?_
        refine w_br2 (a := y31_5) (b := tt - fm) rfl rfl ⟨by omega, by omega⟩ ⟨by omega, by omega⟩ (fun h6 => ?_) (fun h6 => ?_)
        · have h6 : y31_5 ≥ tt - fm := h6
          show w_W _ _ _ (83, [(0, .ref 43), (1, .int (Int32.ofInt (n))), (2, .int (Int32.ofInt (fm))), (3, .int (Int32.ofInt (tt))), (4, .int (Int32.ofInt (y31_4))), (5, .int (Int32.ofInt (y31_5)))], [], M) _
          refine w_adv (n := 1) (F' := (85, [(0, .ref 43), (1, .int (Int32.ofInt (n))), (2, .int (Int32.ofInt (fm))), (3, .int (Int32.ofInt (tt))), (4, .int (Int32.ofInt (y31_4))), (5, .int (Int32.ofInt (y31_5)))], [.int (Int32.ofInt (y31_4))], M)) rfl ?_
          rcases (show y31_4 = 0 ∨ y31_4 = 1 by omega) with h7 | h7
          · refine w_top (y := .int (Int32.ofInt 0)) (by rw [h7]) ?_
            refine w_fin (r := .inl (some (0))) (M' := M) rfl ?_
            exact ⟨0, rfl, ⟨by omega, by omega⟩, rfl, (show 0 = 0 ∨ 0 = 1 by first | assumption | omega)⟩
          · refine w_top (y := .int (Int32.ofInt 1)) (by rw [h7]) ?_
            refine w_fin (r := .inl (some (1))) (M' := M) rfl ?_
            exact ⟨1, rfl, ⟨by omega, by omega⟩, rfl, (show 1 = 0 ∨ 1 = 1 by first | assumption | omega)⟩
        · have h6 : ¬ (y31_5 ≥ tt - fm) := h6
          show w_W _ _ _ (39, [(0, .ref 43), (1, .int (Int32.ofInt (n))), (2, .int (Int32.ofInt (fm))), (3, .int (Int32.ofInt (tt))), (4, .int (Int32.ofInt (y31_4))), (5, .int (Int32.ofInt (y31_5)))], [], M) _
          refine w_adv (n := 1) (F' := (41, [(0, .ref 43), (1, .int (Int32.ofInt (n))), (2, .int (Int32.ofInt (fm))), (3, .int (Int32.ofInt (tt))), (4, .int (Int32.ofInt (y31_4))), (5, .int (Int32.ofInt (y31_5)))], [.int (Int32.ofInt (y31_4))], M)) rfl ?_
          refine w_br1 (a := y31_4) rfl rfl ⟨by omega, by omega⟩ (fun h8 => ?_) (fun h8 => ?_)
          · have h8 : y31_4 = 0 := h8
            show w_W _ _ _ (83, [(0, .ref 43), (1, .int (Int32.ofInt (n))), (2, .int (Int32.ofInt (fm))), (3, .int (Int32.ofInt (tt))), (4, .int (Int32.ofInt (y31_4))), (5, .int (Int32.ofInt (y31_5)))], [], M) _
            refine w_adv (n := 1) (F' := (85, [(0, .ref 43), (1, .int (Int32.ofInt (n))), (2, .int (Int32.ofInt (fm))), (3, .int (Int32.ofInt (tt))), (4, .int (Int32.ofInt (y31_4))), (5, .int (Int32.ofInt (y31_5)))], [.int (Int32.ofInt (y31_4))], M)) rfl ?_
            rcases (show y31_4 = 0 ∨ y31_4 = 1 by omega) with h9 | h9
            · refine w_top (y := .int (Int32.ofInt 0)) (by rw [h9]) ?_
              refine w_fin (r := .inl (some (0))) (M' := M) rfl ?_
              exact ⟨0, rfl, ⟨by omega, by omega⟩, rfl, (show 0 = 0 ∨ 0 = 1 by first | assumption | omega)⟩
            · refine w_top (y := .int (Int32.ofInt 1)) (by rw [h9]) ?_
              refine w_fin (r := .inl (some (1))) (M' := M) rfl ?_
              exact ⟨1, rfl, ⟨by omega, by omega⟩, rfl, (show 1 = 0 ∨ 1 = 1 by first | assumption | omega)⟩
          · have h8 : ¬ (y31_4 = 0) := h8
            show w_W _ _ _ (44, [(0, .ref 43), (1, .int (Int32.ofInt (n))), (2, .int (Int32.ofInt (fm))), (3, .int (Int32.ofInt (tt))), (4, .int (Int32.ofInt (y31_4))), (5, .int (Int32.ofInt (y31_5)))], [], M) _
            refine w_adv (n := 1) (F' := (45, [(0, .ref 43), (1, .int (Int32.ofInt (n))), (2, .int (Int32.ofInt (fm))), (3, .int (Int32.ofInt (tt))), (4, .int (Int32.ofInt (y31_4))), (5, .int (Int32.ofInt (y31_5)))], [.ref 43], M)) rfl ?_
            refine w_gf (v := .ref 52) hR rfl rfl rfl rfl ?_
            refine w_adv (n := 1) (F' := (49, [(0, .ref 43), (1, .int (Int32.ofInt (n))), (2, .int (Int32.ofInt (fm))), (3, .int (Int32.ofInt (tt))), (4, .int (Int32.ofInt (y31_4))), (5, .int (Int32.ofInt (y31_5)))], [.ref 43, .ref 52], M)) rfl ?_
            refine w_gf (v := .ref 51) hR rfl rfl rfl rfl ?_
            refine w_adv (n := 1) (F' := (53, [(0, .ref 43), (1, .int (Int32.ofInt (n))), (2, .int (Int32.ofInt (fm))), (3, .int (Int32.ofInt (tt))), (4, .int (Int32.ofInt (y31_4))), (5, .int (Int32.ofInt (y31_5)))], [.int (Int32.ofInt (n)), .ref 51, .ref 52], M)) rfl ?_
            refine w_la (n := 402) hR rfl (Or.inl ⟨rfl, rfl⟩) rfl (show 0 ≤ n by omega) (show n < (402 : Int) by omega) (by decide) ?_
            show w_W _ _ _ (54, [(0, .ref 43), (1, .int (Int32.ofInt (n))), (2, .int (Int32.ofInt (fm))), (3, .int (Int32.ofInt (tt))), (4, .int (Int32.ofInt (y31_4))), (5, .int (Int32.ofInt (y31_5)))], [.int (Int32.ofInt ((A 51) (n))), .ref 52], M) _
            refine w_adv (n := 1) (F' := (56, [(0, .ref 43), (1, .int (Int32.ofInt (n))), (2, .int (Int32.ofInt (fm))), (3, .int (Int32.ofInt (tt))), (4, .int (Int32.ofInt (y31_4))), (5, .int (Int32.ofInt (y31_5)))], [.int (Int32.ofInt (y31_5)), .int (Int32.ofInt ((A 51) (n))), .ref 52], M)) rfl ?_
            refine w_add rfl ?_
            refine w_la (n := 9648) hR rfl (Or.inr ⟨rfl, rfl⟩) rfl (show 0 ≤ ((A 51) (n)) + y31_5 by omega) (show ((A 51) (n)) + y31_5 < (9648 : Int) by omega) (by decide) ?_
            obtain ⟨r10, r11⟩ : -2147483648 ≤ (A 52) (((A 51) (n)) + y31_5) ∧ (A 52) (((A 51) (n)) + y31_5) ≤ 2147483647 := hR.ra 52 (((A 51) (n)) + y31_5)
            show w_W _ _ _ (58, [(0, .ref 43), (1, .int (Int32.ofInt (n))), (2, .int (Int32.ofInt (fm))), (3, .int (Int32.ofInt (tt))), (4, .int (Int32.ofInt (y31_4))), (5, .int (Int32.ofInt (y31_5)))], [.int (Int32.ofInt ((A 52) (((A 51) (n)) + y31_5)))], M) _
            refine w_adv (n := 1) (F' := (59, [(0, .ref 43), (1, .int (Int32.ofInt (n))), (2, .int (Int32.ofInt (fm))), (3, .int (Int32.ofInt (tt))), (4, .int (Int32.ofInt (y31_4))), (5, .int (Int32.ofInt (y31_5)))], [.ref 43, .int (Int32.ofInt ((A 52) (((A 51) (n)) + y31_5)))], M)) rfl ?_
            refine w_gf (v := .ref 44) hR rfl rfl rfl rfl ?_
            refine w_adv (n := 2) (F' := (65, [(0, .ref 43), (1, .int (Int32.ofInt (n))), (2, .int (Int32.ofInt (fm))), (3, .int (Int32.ofInt (tt))), (4, .int (Int32.ofInt (y31_4))), (5, .int (Int32.ofInt (y31_5)))], [.int (Int32.ofInt (y31_5)), .int (Int32.ofInt (fm)), .ref 44, .int (Int32.ofInt ((A 52) (((A 51) (n)) + y31_5)))], M)) rfl ?_
            refine w_add rfl ?_
            refine w_la (n := 8192) hR rfl (Or.inr ⟨rfl, rfl⟩) rfl (show 0 ≤ fm + y31_5 by omega) (show fm + y31_5 < (8192 : Int) by omega) (by decide) ?_
            obtain ⟨r12, r13⟩ : -2147483648 ≤ (A 44) (fm + y31_5) ∧ (A 44) (fm + y31_5) ≤ 2147483647 := hR.ra 44 (fm + y31_5)
            show w_W _ _ _ (67, [(0, .ref 43), (1, .int (Int32.ofInt (n))), (2, .int (Int32.ofInt (fm))), (3, .int (Int32.ofInt (tt))), (4, .int (Int32.ofInt (y31_4))), (5, .int (Int32.ofInt (y31_5)))], [.int (Int32.ofInt ((A 44) (fm + y31_5))), .int (Int32.ofInt ((A 52) (((A 51) (n)) + y31_5)))], M) _
            refine w_br2 (a := (A 52) (((A 51) (n)) + y31_5)) (b := (A 44) (fm + y31_5)) rfl rfl ⟨by omega, by omega⟩ ⟨by omega, by omega⟩ (fun h14 => ?_) (fun h14 => ?_)
            · have h14 : ¬ (A 52) (((A 51) (n)) + y31_5) = (A 44) (fm + y31_5) := h14
              show w_W _ _ _ (74, [(0, .ref 43), (1, .int (Int32.ofInt (n))), (2, .int (Int32.ofInt (fm))), (3, .int (Int32.ofInt (tt))), (4, .int (Int32.ofInt (y31_4))), (5, .int (Int32.ofInt (y31_5)))], [], M) _
              refine w_adv (n := 2) (F' := (77, [(4, .int (Int32.ofInt (0))), (0, .ref 43), (1, .int (Int32.ofInt (n))), (2, .int (Int32.ofInt (fm))), (3, .int (Int32.ofInt (tt))), (5, .int (Int32.ofInt (y31_5)))], [], M)) rfl ?_
              refine w_inc (nL := 6) (a := y31_5) rfl rfl rfl (by decide) ?_
              refine w_adv (n := 1) (F' := (31, [(5, .int (Int32.ofInt (y31_5 + 1))), (4, .int (Int32.ofInt (0))), (0, .ref 43), (1, .int (Int32.ofInt (n))), (2, .int (Int32.ofInt (fm))), (3, .int (Int32.ofInt (tt)))], [], M)) rfl ?_
              refine w_ls (ls := [(0, .ref 43), (1, .int (Int32.ofInt (n))), (2, .int (Int32.ofInt (fm))), (3, .int (Int32.ofInt (tt))), (4, .int (Int32.ofInt (0))), (5, .int (Int32.ofInt (y31_5 + 1)))]) (show List.Nodup [0, 1, 2, 3, 4, 5] by decide) (show List.Nodup [5, 4, 0, 1, 2, 3] by decide) (List.forall_mem_cons.mpr ⟨(List.Mem.tail _ (List.Mem.tail _ (List.Mem.head _))), (List.forall_mem_cons.mpr ⟨(List.Mem.tail _ (List.Mem.tail _ (List.Mem.tail _ (List.Mem.head _)))), (List.forall_mem_cons.mpr ⟨(List.Mem.tail _ (List.Mem.tail _ (List.Mem.tail _ (List.Mem.tail _ (List.Mem.head _))))), (List.forall_mem_cons.mpr ⟨(List.Mem.tail _ (List.Mem.tail _ (List.Mem.tail _ (List.Mem.tail _ (List.Mem.tail _ (List.Mem.head _)))))), (List.forall_mem_cons.mpr ⟨(List.Mem.tail _ (List.Mem.head _)), (List.forall_mem_cons.mpr ⟨(List.Mem.head _), (fun _ h => by cases h)⟩)⟩)⟩)⟩)⟩)⟩) ?_
              exact ih31  (0) (y31_5 + 1) ⟨by omega, by omega⟩ ⟨by omega, by omega⟩ (show 0 ≤ y31_5 + 1 ∧ y31_5 + 1 ≤ tt - fm ∧ (0 = 0 ∨ 0 = 1) by omega) (show tt - fm - (y31_5 + 1) < (fu31 : Int) by omega)
            · have h14 : ¬ (¬ (A 52) (((A 51) (n)) + y31_5) = (A 44) (fm + y31_5)) := h14
              show w_W _ _ _ (70, [(0, .ref 43), (1, .int (Int32.ofInt (n))), (2, .int (Int32.ofInt (fm))), (3, .int (Int32.ofInt (tt))), (4, .int (Int32.ofInt (y31_4))), (5, .int (Int32.ofInt (y31_5)))], [], M) _
              refine w_adv (n := 3) (F' := (77, [(4, .int (Int32.ofInt (1))), (0, .ref 43), (1, .int (Int32.ofInt (n))), (2, .int (Int32.ofInt (fm))), (3, .int (Int32.ofInt (tt))), (5, .int (Int32.ofInt (y31_5)))], [], M)) rfl ?_
              refine w_inc (nL := 6) (a := y31_5) rfl rfl rfl (by decide) ?_
              refine w_adv (n := 1) (F' := (31, [(5, .int (Int32.ofInt (y31_5 + 1))), (4, .int (Int32.ofInt (1))), (0, .ref 43), (1, .int (Int32.ofInt (n))), (2, .int (Int32.ofInt (fm))), (3, .int (Int32.ofInt (tt)))], [], M)) rfl ?_
              refine w_ls (ls := [(0, .ref 43), (1, .int (Int32.ofInt (n))), (2, .int (Int32.ofInt (fm))), (3, .int (Int32.ofInt (tt))), (4, .int (Int32.ofInt (1))), (5, .int (Int32.ofInt (y31_5 + 1)))]) (show List.Nodup [0, 1, 2, 3, 4, 5] by decide) (show List.Nodup [5, 4, 0, 1, 2, 3] by decide) (List.forall_mem_cons.mpr ⟨(List.Mem.tail _ (List.Mem.tail _ (List.Mem.head _))), (List.forall_mem_cons.mpr ⟨(List.Mem.tail _ (List.Mem.tail _ (List.Mem.tail _ (List.Mem.head _)))), (List.forall_mem_cons.mpr ⟨(List.Mem.tail _ (List.Mem.tail _ (List.Mem.tail _ (List.Mem.tail _ (List.Mem.head _))))), (List.forall_mem_cons.mpr ⟨(List.Mem.tail _ (List.Mem.tail _ (List.Mem.tail _ (List.Mem.tail _ (List.Mem.tail _ (List.Mem.head _)))))), (List.forall_mem_cons.mpr ⟨(List.Mem.tail _ (List.Mem.head _)), (List.forall_mem_cons.mpr ⟨(List.Mem.head _), (fun _ h => by cases h)⟩)⟩)⟩)⟩)⟩)⟩) ?_
              exact ih31  (1) (y31_5 + 1) ⟨by omega, by omega⟩ ⟨by omega, by omega⟩ (show 0 ≤ y31_5 + 1 ∧ y31_5 + 1 ≤ tt - fm ∧ (1 = 0 ∨ 1 = 1) by omega) (show tt - fm - (y31_5 + 1) < (fu31 : Int) by omega)
    refine w_ls (ls := [(0, .ref 43), (1, .int (Int32.ofInt (n))), (2, .int (Int32.ofInt (fm))), (3, .int (Int32.ofInt (tt))), (4, .int (Int32.ofInt (0))), (5, .int (Int32.ofInt (0)))]) (show List.Nodup [0, 1, 2, 3, 4, 5] by decide) (show List.Nodup [5, 4, 0, 1, 2, 3] by decide) (List.forall_mem_cons.mpr ⟨(List.Mem.tail _ (List.Mem.tail _ (List.Mem.head _))), (List.forall_mem_cons.mpr ⟨(List.Mem.tail _ (List.Mem.tail _ (List.Mem.tail _ (List.Mem.head _)))), (List.forall_mem_cons.mpr ⟨(List.Mem.tail _ (List.Mem.tail _ (List.Mem.tail _ (List.Mem.tail _ (List.Mem.head _))))), (List.forall_mem_cons.mpr ⟨(List.Mem.tail _ (List.Mem.tail _ (List.Mem.tail _ (List.Mem.tail _ (List.Mem.tail _ (List.Mem.head _)))))), (List.forall_mem_cons.mpr ⟨(List.Mem.tail _ (List.Mem.head _)), (List.forall_mem_cons.mpr ⟨(List.Mem.head _), (fun _ h => by cases h)⟩)⟩)⟩)⟩)⟩)⟩) ?_
    exact lp31 ((tt - fm - 0).toNat + 1)  (0) (0) ⟨by omega, by omega⟩ ⟨by omega, by omega⟩ (show 0 ≤ 0 ∧ 0 ≤ tt - fm ∧ (0 = 0 ∨ 0 = 1) by omega) (show tt - fm - 0 < (((tt - fm - 0).toNat + 1 : Nat) : Int) by omega)
  · have h5 : ¬ (¬ ((A 51) (n + 1)) - ((A 51) (n)) = tt - fm) := h5
    show w_W _ _ _ (21, [(0, .ref 43), (1, .int (Int32.ofInt (n))), (2, .int (Int32.ofInt (fm))), (3, .int (Int32.ofInt (tt)))], [], M) _
    refine w_adv (n := 5) (F' := (31, [(5, .int (Int32.ofInt (0))), (4, .int (Int32.ofInt (1))), (0, .ref 43), (1, .int (Int32.ofInt (n))), (2, .int (Int32.ofInt (fm))), (3, .int (Int32.ofInt (tt)))], [], M)) rfl ?_
    have lp31 : ∀ fu31 : Nat, ∀ (y31_4 : Int) (y31_5 : Int), w_in y31_4 → w_in y31_5 → 0 ≤ y31_5 ∧ y31_5 ≤ tt - fm ∧ (y31_4 = 0 ∨ y31_4 = 1) → tt - fm - y31_5 < (fu31 : Int) → w_W (z_P L xs) d 223 (31, [(0, .ref 43), (1, .int (Int32.ofInt (n))), (2, .int (Int32.ofInt (fm))), (3, .int (Int32.ofInt (tt))), (4, .int (Int32.ofInt (y31_4))), (5, .int (Int32.ofInt (y31_5)))], [], M) (m_isName_Q fr X u l I A B C M n fm tt) := by
      intro fu31
      induction fu31 with
      | zero =>
        intro y31_4 y31_5 ⟨ra_y31_4, rb_y31_4⟩ ⟨ra_y31_5, rb_y31_5⟩ hi31_0 hn31
        exfalso
        omega
      | succ fu31 ih31 =>
        intro y31_4 y31_5 ⟨ra_y31_4, rb_y31_4⟩ ⟨ra_y31_5, rb_y31_5⟩ hi31_0 hn31
        refine w_adv (n := 3) (F' := (35, [(0, .ref 43), (1, .int (Int32.ofInt (n))), (2, .int (Int32.ofInt (fm))), (3, .int (Int32.ofInt (tt))), (4, .int (Int32.ofInt (y31_4))), (5, .int (Int32.ofInt (y31_5)))], [.int (Int32.ofInt (fm)), .int (Int32.ofInt (tt)), .int (Int32.ofInt (y31_5))], M)) rfl ?_
        refine w_sub rfl ?_
        refine w_br2 (a := y31_5) (b := tt - fm) rfl rfl ⟨by omega, by omega⟩ ⟨by omega, by omega⟩ (fun h15 => ?_) (fun h15 => ?_)
        · have h15 : y31_5 ≥ tt - fm := h15
          show w_W _ _ _ (83, [(0, .ref 43), (1, .int (Int32.ofInt (n))), (2, .int (Int32.ofInt (fm))), (3, .int (Int32.ofInt (tt))), (4, .int (Int32.ofInt (y31_4))), (5, .int (Int32.ofInt (y31_5)))], [], M) _
          refine w_adv (n := 1) (F' := (85, [(0, .ref 43), (1, .int (Int32.ofInt (n))), (2, .int (Int32.ofInt (fm))), (3, .int (Int32.ofInt (tt))), (4, .int (Int32.ofInt (y31_4))), (5, .int (Int32.ofInt (y31_5)))], [.int (Int32.ofInt (y31_4))], M)) rfl ?_
          rcases (show y31_4 = 0 ∨ y31_4 = 1 by omega) with h16 | h16
          · refine w_top (y := .int (Int32.ofInt 0)) (by rw [h16]) ?_
            refine w_fin (r := .inl (some (0))) (M' := M) rfl ?_
            exact ⟨0, rfl, ⟨by omega, by omega⟩, rfl, (show 0 = 0 ∨ 0 = 1 by first | assumption | omega)⟩
          · refine w_top (y := .int (Int32.ofInt 1)) (by rw [h16]) ?_
            refine w_fin (r := .inl (some (1))) (M' := M) rfl ?_
            exact ⟨1, rfl, ⟨by omega, by omega⟩, rfl, (show 1 = 0 ∨ 1 = 1 by first | assumption | omega)⟩
        · have h15 : ¬ (y31_5 ≥ tt - fm) := h15
          show w_W _ _ _ (39, [(0, .ref 43), (1, .int (Int32.ofInt (n))), (2, .int (Int32.ofInt (fm))), (3, .int (Int32.ofInt (tt))), (4, .int (Int32.ofInt (y31_4))), (5, .int (Int32.ofInt (y31_5)))], [], M) _
          refine w_adv (n := 1) (F' := (41, [(0, .ref 43), (1, .int (Int32.ofInt (n))), (2, .int (Int32.ofInt (fm))), (3, .int (Int32.ofInt (tt))), (4, .int (Int32.ofInt (y31_4))), (5, .int (Int32.ofInt (y31_5)))], [.int (Int32.ofInt (y31_4))], M)) rfl ?_
          refine w_br1 (a := y31_4) rfl rfl ⟨by omega, by omega⟩ (fun h17 => ?_) (fun h17 => ?_)
          · have h17 : y31_4 = 0 := h17
            show w_W _ _ _ (83, [(0, .ref 43), (1, .int (Int32.ofInt (n))), (2, .int (Int32.ofInt (fm))), (3, .int (Int32.ofInt (tt))), (4, .int (Int32.ofInt (y31_4))), (5, .int (Int32.ofInt (y31_5)))], [], M) _
            refine w_adv (n := 1) (F' := (85, [(0, .ref 43), (1, .int (Int32.ofInt (n))), (2, .int (Int32.ofInt (fm))), (3, .int (Int32.ofInt (tt))), (4, .int (Int32.ofInt (y31_4))), (5, .int (Int32.ofInt (y31_5)))], [.int (Int32.ofInt (y31_4))], M)) rfl ?_
            rcases (show y31_4 = 0 ∨ y31_4 = 1 by omega) with h18 | h18
            · refine w_top (y := .int (Int32.ofInt 0)) (by rw [h18]) ?_
              refine w_fin (r := .inl (some (0))) (M' := M) rfl ?_
              exact ⟨0, rfl, ⟨by omega, by omega⟩, rfl, (show 0 = 0 ∨ 0 = 1 by first | assumption | omega)⟩
            · refine w_top (y := .int (Int32.ofInt 1)) (by rw [h18]) ?_
              refine w_fin (r := .inl (some (1))) (M' := M) rfl ?_
              exact ⟨1, rfl, ⟨by omega, by omega⟩, rfl, (show 1 = 0 ∨ 1 = 1 by first | assumption | omega)⟩
          · have h17 : ¬ (y31_4 = 0) := h17
            show w_W _ _ _ (44, [(0, .ref 43), (1, .int (Int32.ofInt (n))), (2, .int (Int32.ofInt (fm))), (3, .int (Int32.ofInt (tt))), (4, .int (Int32.ofInt (y31_4))), (5, .int (Int32.ofInt (y31_5)))], [], M) _
            refine w_adv (n := 1) (F' := (45, [(0, .ref 43), (1, .int (Int32.ofInt (n))), (2, .int (Int32.ofInt (fm))), (3, .int (Int32.ofInt (tt))), (4, .int (Int32.ofInt (y31_4))), (5, .int (Int32.ofInt (y31_5)))], [.ref 43], M)) rfl ?_
            refine w_gf (v := .ref 52) hR rfl rfl rfl rfl ?_
            refine w_adv (n := 1) (F' := (49, [(0, .ref 43), (1, .int (Int32.ofInt (n))), (2, .int (Int32.ofInt (fm))), (3, .int (Int32.ofInt (tt))), (4, .int (Int32.ofInt (y31_4))), (5, .int (Int32.ofInt (y31_5)))], [.ref 43, .ref 52], M)) rfl ?_
            refine w_gf (v := .ref 51) hR rfl rfl rfl rfl ?_
            refine w_adv (n := 1) (F' := (53, [(0, .ref 43), (1, .int (Int32.ofInt (n))), (2, .int (Int32.ofInt (fm))), (3, .int (Int32.ofInt (tt))), (4, .int (Int32.ofInt (y31_4))), (5, .int (Int32.ofInt (y31_5)))], [.int (Int32.ofInt (n)), .ref 51, .ref 52], M)) rfl ?_
            refine w_la (n := 402) hR rfl (Or.inl ⟨rfl, rfl⟩) rfl (show 0 ≤ n by omega) (show n < (402 : Int) by omega) (by decide) ?_
            show w_W _ _ _ (54, [(0, .ref 43), (1, .int (Int32.ofInt (n))), (2, .int (Int32.ofInt (fm))), (3, .int (Int32.ofInt (tt))), (4, .int (Int32.ofInt (y31_4))), (5, .int (Int32.ofInt (y31_5)))], [.int (Int32.ofInt ((A 51) (n))), .ref 52], M) _
            refine w_adv (n := 1) (F' := (56, [(0, .ref 43), (1, .int (Int32.ofInt (n))), (2, .int (Int32.ofInt (fm))), (3, .int (Int32.ofInt (tt))), (4, .int (Int32.ofInt (y31_4))), (5, .int (Int32.ofInt (y31_5)))], [.int (Int32.ofInt (y31_5)), .int (Int32.ofInt ((A 51) (n))), .ref 52], M)) rfl ?_
            refine w_add rfl ?_
            refine w_la (n := 9648) hR rfl (Or.inr ⟨rfl, rfl⟩) rfl (show 0 ≤ ((A 51) (n)) + y31_5 by omega) (show ((A 51) (n)) + y31_5 < (9648 : Int) by omega) (by decide) ?_
            obtain ⟨r19, r20⟩ : -2147483648 ≤ (A 52) (((A 51) (n)) + y31_5) ∧ (A 52) (((A 51) (n)) + y31_5) ≤ 2147483647 := hR.ra 52 (((A 51) (n)) + y31_5)
            show w_W _ _ _ (58, [(0, .ref 43), (1, .int (Int32.ofInt (n))), (2, .int (Int32.ofInt (fm))), (3, .int (Int32.ofInt (tt))), (4, .int (Int32.ofInt (y31_4))), (5, .int (Int32.ofInt (y31_5)))], [.int (Int32.ofInt ((A 52) (((A 51) (n)) + y31_5)))], M) _
            refine w_adv (n := 1) (F' := (59, [(0, .ref 43), (1, .int (Int32.ofInt (n))), (2, .int (Int32.ofInt (fm))), (3, .int (Int32.ofInt (tt))), (4, .int (Int32.ofInt (y31_4))), (5, .int (Int32.ofInt (y31_5)))], [.ref 43, .int (Int32.ofInt ((A 52) (((A 51) (n)) + y31_5)))], M)) rfl ?_
            refine w_gf (v := .ref 44) hR rfl rfl rfl rfl ?_
            refine w_adv (n := 2) (F' := (65, [(0, .ref 43), (1, .int (Int32.ofInt (n))), (2, .int (Int32.ofInt (fm))), (3, .int (Int32.ofInt (tt))), (4, .int (Int32.ofInt (y31_4))), (5, .int (Int32.ofInt (y31_5)))], [.int (Int32.ofInt (y31_5)), .int (Int32.ofInt (fm)), .ref 44, .int (Int32.ofInt ((A 52) (((A 51) (n)) + y31_5)))], M)) rfl ?_
            refine w_add rfl ?_
            refine w_la (n := 8192) hR rfl (Or.inr ⟨rfl, rfl⟩) rfl (show 0 ≤ fm + y31_5 by omega) (show fm + y31_5 < (8192 : Int) by omega) (by decide) ?_
            obtain ⟨r21, r22⟩ : -2147483648 ≤ (A 44) (fm + y31_5) ∧ (A 44) (fm + y31_5) ≤ 2147483647 := hR.ra 44 (fm + y31_5)
            show w_W _ _ _ (67, [(0, .ref 43), (1, .int (Int32.ofInt (n))), (2, .int (Int32.ofInt (fm))), (3, .int (Int32.ofInt (tt))), (4, .int (Int32.ofInt (y31_4))), (5, .int (Int32.ofInt (y31_5)))], [.int (Int32.ofInt ((A 44) (fm + y31_5))), .int (Int32.ofInt ((A 52) (((A 51) (n)) + y31_5)))], M) _
            refine w_br2 (a := (A 52) (((A 51) (n)) + y31_5)) (b := (A 44) (fm + y31_5)) rfl rfl ⟨by omega, by omega⟩ ⟨by omega, by omega⟩ (fun h23 => ?_) (fun h23 => ?_)
            · have h23 : ¬ (A 52) (((A 51) (n)) + y31_5) = (A 44) (fm + y31_5) := h23
              show w_W _ _ _ (74, [(0, .ref 43), (1, .int (Int32.ofInt (n))), (2, .int (Int32.ofInt (fm))), (3, .int (Int32.ofInt (tt))), (4, .int (Int32.ofInt (y31_4))), (5, .int (Int32.ofInt (y31_5)))], [], M) _
              refine w_adv (n := 2) (F' := (77, [(4, .int (Int32.ofInt (0))), (0, .ref 43), (1, .int (Int32.ofInt (n))), (2, .int (Int32.ofInt (fm))), (3, .int (Int32.ofInt (tt))), (5, .int (Int32.ofInt (y31_5)))], [], M)) rfl ?_
              refine w_inc (nL := 6) (a := y31_5) rfl rfl rfl (by decide) ?_
              refine w_adv (n := 1) (F' := (31, [(5, .int (Int32.ofInt (y31_5 + 1))), (4, .int (Int32.ofInt (0))), (0, .ref 43), (1, .int (Int32.ofInt (n))), (2, .int (Int32.ofInt (fm))), (3, .int (Int32.ofInt (tt)))], [], M)) rfl ?_
              refine w_ls (ls := [(0, .ref 43), (1, .int (Int32.ofInt (n))), (2, .int (Int32.ofInt (fm))), (3, .int (Int32.ofInt (tt))), (4, .int (Int32.ofInt (0))), (5, .int (Int32.ofInt (y31_5 + 1)))]) (show List.Nodup [0, 1, 2, 3, 4, 5] by decide) (show List.Nodup [5, 4, 0, 1, 2, 3] by decide) (List.forall_mem_cons.mpr ⟨(List.Mem.tail _ (List.Mem.tail _ (List.Mem.head _))), (List.forall_mem_cons.mpr ⟨(List.Mem.tail _ (List.Mem.tail _ (List.Mem.tail _ (List.Mem.head _)))), (List.forall_mem_cons.mpr ⟨(List.Mem.tail _ (List.Mem.tail _ (List.Mem.tail _ (List.Mem.tail _ (List.Mem.head _))))), (List.forall_mem_cons.mpr ⟨(List.Mem.tail _ (List.Mem.tail _ (List.Mem.tail _ (List.Mem.tail _ (List.Mem.tail _ (List.Mem.head _)))))), (List.forall_mem_cons.mpr ⟨(List.Mem.tail _ (List.Mem.head _)), (List.forall_mem_cons.mpr ⟨(List.Mem.head _), (fun _ h => by cases h)⟩)⟩)⟩)⟩)⟩)⟩) ?_
              exact ih31  (0) (y31_5 + 1) ⟨by omega, by omega⟩ ⟨by omega, by omega⟩ (show 0 ≤ y31_5 + 1 ∧ y31_5 + 1 ≤ tt - fm ∧ (0 = 0 ∨ 0 = 1) by omega) (show tt - fm - (y31_5 + 1) < (fu31 : Int) by omega)
            · have h23 : ¬ (¬ (A 52) (((A 51) (n)) + y31_5) = (A 44) (fm + y31_5)) := h23
              show w_W _ _ _ (70, [(0, .ref 43), (1, .int (Int32.ofInt (n))), (2, .int (Int32.ofInt (fm))), (3, .int (Int32.ofInt (tt))), (4, .int (Int32.ofInt (y31_4))), (5, .int (Int32.ofInt (y31_5)))], [], M) _
              refine w_adv (n := 3) (F' := (77, [(4, .int (Int32.ofInt (1))), (0, .ref 43), (1, .int (Int32.ofInt (n))), (2, .int (Int32.ofInt (fm))), (3, .int (Int32.ofInt (tt))), (5, .int (Int32.ofInt (y31_5)))], [], M)) rfl ?_
              refine w_inc (nL := 6) (a := y31_5) rfl rfl rfl (by decide) ?_
              refine w_adv (n := 1) (F' := (31, [(5, .int (Int32.ofInt (y31_5 + 1))), (4, .int (Int32.ofInt (1))), (0, .ref 43), (1, .int (Int32.ofInt (n))), (2, .int (Int32.ofInt (fm))), (3, .int (Int32.ofInt (tt)))], [], M)) rfl ?_
              refine w_ls (ls := [(0, .ref 43), (1, .int (Int32.ofInt (n))), (2, .int (Int32.ofInt (fm))), (3, .int (Int32.ofInt (tt))), (4, .int (Int32.ofInt (1))), (5, .int (Int32.ofInt (y31_5 + 1)))]) (show List.Nodup [0, 1, 2, 3, 4, 5] by decide) (show List.Nodup [5, 4, 0, 1, 2, 3] by decide) (List.forall_mem_cons.mpr ⟨(List.Mem.tail _ (List.Mem.tail _ (List.Mem.head _))), (List.forall_mem_cons.mpr ⟨(List.Mem.tail _ (List.Mem.tail _ (List.Mem.tail _ (List.Mem.head _)))), (List.forall_mem_cons.mpr ⟨(List.Mem.tail _ (List.Mem.tail _ (List.Mem.tail _ (List.Mem.tail _ (List.Mem.head _))))), (List.forall_mem_cons.mpr ⟨(List.Mem.tail _ (List.Mem.tail _ (List.Mem.tail _ (List.Mem.tail _ (List.Mem.tail _ (List.Mem.head _)))))), (List.forall_mem_cons.mpr ⟨(List.Mem.tail _ (List.Mem.head _)), (List.forall_mem_cons.mpr ⟨(List.Mem.head _), (fun _ h => by cases h)⟩)⟩)⟩)⟩)⟩)⟩) ?_
              exact ih31  (1) (y31_5 + 1) ⟨by omega, by omega⟩ ⟨by omega, by omega⟩ (show 0 ≤ y31_5 + 1 ∧ y31_5 + 1 ≤ tt - fm ∧ (1 = 0 ∨ 1 = 1) by omega) (show tt - fm - (y31_5 + 1) < (fu31 : Int) by omega)
    refine w_ls (ls := [(0, .ref 43), (1, .int (Int32.ofInt (n))), (2, .int (Int32.ofInt (fm))), (3, .int (Int32.ofInt (tt))), (4, .int (Int32.ofInt (1))), (5, .int (Int32.ofInt (0)))]) (show List.Nodup [0, 1, 2, 3, 4, 5] by decide) (show List.Nodup [5, 4, 0, 1, 2, 3] by decide) (List.forall_mem_cons.mpr ⟨(List.Mem.tail _ (List.Mem.tail _ (List.Mem.head _))), (List.forall_mem_cons.mpr ⟨(List.Mem.tail _ (List.Mem.tail _ (List.Mem.tail _ (List.Mem.head _)))), (List.forall_mem_cons.mpr ⟨(List.Mem.tail _ (List.Mem.tail _ (List.Mem.tail _ (List.Mem.tail _ (List.Mem.head _))))), (List.forall_mem_cons.mpr ⟨(List.Mem.tail _ (List.Mem.tail _ (List.Mem.tail _ (List.Mem.tail _ (List.Mem.tail _ (List.Mem.head _)))))), (List.forall_mem_cons.mpr ⟨(List.Mem.tail _ (List.Mem.head _)), (List.forall_mem_cons.mpr ⟨(List.Mem.head _), (fun _ h => by cases h)⟩)⟩)⟩)⟩)⟩)⟩) ?_
    exact lp31 ((tt - fm - 0).toNat + 1)  (1) (0) ⟨by omega, by omega⟩ ⟨by omega, by omega⟩ (show 0 ≤ 0 ∧ 0 ≤ tt - fm ∧ (1 = 0 ∨ 1 = 1) by omega) (show tt - fm - 0 < (((tt - fm - 0).toNat + 1 : Nat) : Int) by omega)
def m_isAtom_Q (fr : Nat → Bool) (X : Nat → Option (q_C (Nat → Int32))) (u l : Nat) (I : Nat → Int) (A : Nat → Int → Int) (B C : Nat → Nat) (M : w_M) (n : Int) (fm : Int) (tt : Int) : w_X → w_M → Prop := fun r M' => (∃ v : Int, (r = .inl (some v)) ∧ (w_in v) ∧ (M' = M) ∧ (v = 0 ∨ v = 1))
set_option maxHeartbeats 100000000 in
set_option maxRecDepth 100000 in
theorem m_isAtom {L : Nat} {xs : Nat → Int32} {d : Nat} {fr : Nat → Bool} {X : Nat → Option (q_C (Nat → Int32))} {u l : Nat} {I : Nat → Int} {A : Nat → Int → Int} {B C : Nat → Nat} {M : w_M} (n : Int) (fm : Int) (tt : Int) (hR : w_Rep w_TM fr X u l I A B C M) (r_n : w_in n) (r_fm : w_in fm) (r_tt : w_in tt) (hsz : 0 ≤ (I 2753) ∧ (I 2753) ≤ 8192) (hNA : m_NA I A) (hft : 0 ≤ fm ∧ fm ≤ tt ∧ tt ≤ (I 2753) ∧ tt - fm ≤ 24) (hn : 0 ≤ n ∧ n ≤ 400) : w_W (z_P L xs) d 221 (0, [(0, .ref 43), (1, .int (Int32.ofInt (n))), (2, .int (Int32.ofInt (fm))), (3, .int (Int32.ofInt (tt)))], [], M) (m_isAtom_Q fr X u l I A B C M n fm tt) := by
  obtain ⟨ra_n, rb_n⟩ := r_n
  obtain ⟨ra_fm, rb_fm⟩ := r_fm
  obtain ⟨ra_tt, rb_tt⟩ := r_tt
  obtain ⟨⟨na1, na2⟩, na3, na4⟩ := hNA.2 n (by omega) (by omega)
  obtain ⟨⟨nb1, nb2⟩, nb3, nb4⟩ := hNA.2 (n + 1) (by omega) (by omega)
  refine w_adv (n := 1) (F' := (1, [(0, .ref 43), (1, .int (Int32.ofInt (n))), (2, .int (Int32.ofInt (fm))), (3, .int (Int32.ofInt (tt)))], [.ref 43], M)) rfl ?_
  refine w_gf (v := .ref 49) hR rfl rfl rfl rfl ?_
  refine w_adv (n := 2) (F' := (6, [(0, .ref 43), (1, .int (Int32.ofInt (n))), (2, .int (Int32.ofInt (fm))), (3, .int (Int32.ofInt (tt)))], [.int (Int32.ofInt (1)), .int (Int32.ofInt (n)), .ref 49], M)) rfl ?_
  refine w_add rfl ?_
  refine w_la (n := 402) hR rfl (Or.inl ⟨rfl, rfl⟩) rfl (show 0 ≤ n + 1 by omega) (show n + 1 < (402 : Int) by omega) (by decide) ?_
  obtain ⟨r1, r2⟩ : -2147483648 ≤ (A 49) (n + 1) ∧ (A 49) (n + 1) ≤ 2147483647 := hR.ra 49 (n + 1)
  show w_W _ _ _ (8, [(0, .ref 43), (1, .int (Int32.ofInt (n))), (2, .int (Int32.ofInt (fm))), (3, .int (Int32.ofInt (tt)))], [.int (Int32.ofInt ((A 49) (n + 1)))], M) _
  refine w_adv (n := 1) (F' := (9, [(0, .ref 43), (1, .int (Int32.ofInt (n))), (2, .int (Int32.ofInt (fm))), (3, .int (Int32.ofInt (tt)))], [.ref 43, .int (Int32.ofInt ((A 49) (n + 1)))], M)) rfl ?_
  refine w_gf (v := .ref 49) hR rfl rfl rfl rfl ?_
  refine w_adv (n := 1) (F' := (13, [(0, .ref 43), (1, .int (Int32.ofInt (n))), (2, .int (Int32.ofInt (fm))), (3, .int (Int32.ofInt (tt)))], [.int (Int32.ofInt (n)), .ref 49, .int (Int32.ofInt ((A 49) (n + 1)))], M)) rfl ?_
  refine w_la (n := 402) hR rfl (Or.inl ⟨rfl, rfl⟩) rfl (show 0 ≤ n by omega) (show n < (402 : Int) by omega) (by decide) ?_
  obtain ⟨r3, r4⟩ : -2147483648 ≤ (A 49) (n) ∧ (A 49) (n) ≤ 2147483647 := hR.ra 49 (n)
  show w_W _ _ _ (14, [(0, .ref 43), (1, .int (Int32.ofInt (n))), (2, .int (Int32.ofInt (fm))), (3, .int (Int32.ofInt (tt)))], [.int (Int32.ofInt ((A 49) (n))), .int (Int32.ofInt ((A 49) (n + 1)))], M) _
  refine w_sub rfl ?_
  refine w_adv (n := 2) (F' := (17, [(0, .ref 43), (1, .int (Int32.ofInt (n))), (2, .int (Int32.ofInt (fm))), (3, .int (Int32.ofInt (tt)))], [.int (Int32.ofInt (fm)), .int (Int32.ofInt (tt)), .int (Int32.ofInt (((A 49) (n + 1)) - ((A 49) (n))))], M)) rfl ?_
  refine w_sub rfl ?_
  refine w_br2 (a := ((A 49) (n + 1)) - ((A 49) (n))) (b := tt - fm) rfl rfl ⟨by omega, by omega⟩ ⟨by omega, by omega⟩ (fun h5 => ?_) (fun h5 => ?_)
  · have h5 : ¬ ((A 49) (n + 1)) - ((A 49) (n)) = tt - fm := h5
    show w_W _ _ _ (25, [(0, .ref 43), (1, .int (Int32.ofInt (n))), (2, .int (Int32.ofInt (fm))), (3, .int (Int32.ofInt (tt)))], [], M) _
    refine w_adv (n := 4) (F' := (31, [(5, .int (Int32.ofInt (0))), (4, .int (Int32.ofInt (0))), (0, .ref 43), (1, .int (Int32.ofInt (n))), (2, .int (Int32.ofInt (fm))), (3, .int (Int32.ofInt (tt)))], [], M)) rfl ?_
    have lp31 : ∀ fu31 : Nat, ∀ (y31_4 : Int) (y31_5 : Int), w_in y31_4 → w_in y31_5 → 0 ≤ y31_5 ∧ y31_5 ≤ tt - fm ∧ (y31_4 = 0 ∨ y31_4 = 1) → tt - fm - y31_5 < (fu31 : Int) → w_W (z_P L xs) d 221 (31, [(0, .ref 43), (1, .int (Int32.ofInt (n))), (2, .int (Int32.ofInt (fm))), (3, .int (Int32.ofInt (tt))), (4, .int (Int32.ofInt (y31_4))), (5, .int (Int32.ofInt (y31_5)))], [], M) (m_isAtom_Q fr X u l I A B C M n fm tt) := by
      intro fu31
      induction fu31 with
      | zero =>
        intro y31_4 y31_5 ⟨ra_y31_4, rb_y31_4⟩ ⟨ra_y31_5, rb_y31_5⟩ hi31_0 hn31
        exfalso
        omega
      | succ fu31 ih31 =>
        intro y31_4 y31_5 ⟨ra_y31_4, rb_y31_4⟩ ⟨ra_y31_5, rb_y31_5⟩ hi31_0 hn31
        refine w_adv (n := 3) (F' := (35, [(0, .ref 43), (1, .int (Int32.ofInt (n))), (2, .int (Int32.ofInt (fm))), (3, .int (Int32.ofInt (tt))), (4, .int (Int32.ofInt (y31_4))), (5, .int (Int32.ofInt (y31_5)))], [.int (Int32.ofInt (fm)), .int (Int32.ofInt (tt)), .int (Int32.ofInt (y31_5))], M)) rfl ?_
        refine w_sub rfl ?_
        refine w_br2 (a := y31_5) (b := tt - fm) rfl rfl ⟨by omega, by omega⟩ ⟨by omega, by omega⟩ (fun h6 => ?_) (fun h6 => ?_)
        · have h6 : y31_5 ≥ tt - fm := h6
          show w_W _ _ _ (83, [(0, .ref 43), (1, .int (Int32.ofInt (n))), (2, .int (Int32.ofInt (fm))), (3, .int (Int32.ofInt (tt))), (4, .int (Int32.ofInt (y31_4))), (5, .int (Int32.ofInt (y31_5)))], [], M) _
          refine w_adv (n := 1) (F' := (85, [(0, .ref 43), (1, .int (Int32.ofInt (n))), (2, .int (Int32.ofInt (fm))), (3, .int (Int32.ofInt (tt))), (4, .int (Int32.ofInt (y31_4))), (5, .int (Int32.ofInt (y31_5)))], [.int (Int32.ofInt (y31_4))], M)) rfl ?_
          rcases (show y31_4 = 0 ∨ y31_4 = 1 by omega) with h7 | h7
          · refine w_top (y := .int (Int32.ofInt 0)) (by rw [h7]) ?_
            refine w_fin (r := .inl (some (0))) (M' := M) rfl ?_
            exact ⟨0, rfl, ⟨by omega, by omega⟩, rfl, (show 0 = 0 ∨ 0 = 1 by first | assumption | omega)⟩
          · refine w_top (y := .int (Int32.ofInt 1)) (by rw [h7]) ?_
            refine w_fin (r := .inl (some (1))) (M' := M) rfl ?_
            exact ⟨1, rfl, ⟨by omega, by omega⟩, rfl, (show 1 = 0 ∨ 1 = 1 by first | assumption | omega)⟩
        · have h6 : ¬ (y31_5 ≥ tt - fm) := h6
          show w_W _ _ _ (39, [(0, .ref 43), (1, .int (Int32.ofInt (n))), (2, .int (Int32.ofInt (fm))), (3, .int (Int32.ofInt (tt))), (4, .int (Int32.ofInt (y31_4))), (5, .int (Int32.ofInt (y31_5)))], [], M) _
          refine w_adv (n := 1) (F' := (41, [(0, .ref 43), (1, .int (Int32.ofInt (n))), (2, .int (Int32.ofInt (fm))), (3, .int (Int32.ofInt (tt))), (4, .int (Int32.ofInt (y31_4))), (5, .int (Int32.ofInt (y31_5)))], [.int (Int32.ofInt (y31_4))], M)) rfl ?_
          refine w_br1 (a := y31_4) rfl rfl ⟨by omega, by omega⟩ (fun h8 => ?_) (fun h8 => ?_)
          · have h8 : y31_4 = 0 := h8
            show w_W _ _ _ (83, [(0, .ref 43), (1, .int (Int32.ofInt (n))), (2, .int (Int32.ofInt (fm))), (3, .int (Int32.ofInt (tt))), (4, .int (Int32.ofInt (y31_4))), (5, .int (Int32.ofInt (y31_5)))], [], M) _
            refine w_adv (n := 1) (F' := (85, [(0, .ref 43), (1, .int (Int32.ofInt (n))), (2, .int (Int32.ofInt (fm))), (3, .int (Int32.ofInt (tt))), (4, .int (Int32.ofInt (y31_4))), (5, .int (Int32.ofInt (y31_5)))], [.int (Int32.ofInt (y31_4))], M)) rfl ?_
            rcases (show y31_4 = 0 ∨ y31_4 = 1 by omega) with h9 | h9
            · refine w_top (y := .int (Int32.ofInt 0)) (by rw [h9]) ?_
              refine w_fin (r := .inl (some (0))) (M' := M) rfl ?_
              exact ⟨0, rfl, ⟨by omega, by omega⟩, rfl, (show 0 = 0 ∨ 0 = 1 by first | assumption | omega)⟩
            · refine w_top (y := .int (Int32.ofInt 1)) (by rw [h9]) ?_
              refine w_fin (r := .inl (some (1))) (M' := M) rfl ?_
              exact ⟨1, rfl, ⟨by omega, by omega⟩, rfl, (show 1 = 0 ∨ 1 = 1 by first | assumption | omega)⟩
          · have h8 : ¬ (y31_4 = 0) := h8
            show w_W _ _ _ (44, [(0, .ref 43), (1, .int (Int32.ofInt (n))), (2, .int (Int32.ofInt (fm))), (3, .int (Int32.ofInt (tt))), (4, .int (Int32.ofInt (y31_4))), (5, .int (Int32.ofInt (y31_5)))], [], M) _
            refine w_adv (n := 1) (F' := (45, [(0, .ref 43), (1, .int (Int32.ofInt (n))), (2, .int (Int32.ofInt (fm))), (3, .int (Int32.ofInt (tt))), (4, .int (Int32.ofInt (y31_4))), (5, .int (Int32.ofInt (y31_5)))], [.ref 43], M)) rfl ?_
            refine w_gf (v := .ref 50) hR rfl rfl rfl rfl ?_
            refine w_adv (n := 1) (F' := (49, [(0, .ref 43), (1, .int (Int32.ofInt (n))), (2, .int (Int32.ofInt (fm))), (3, .int (Int32.ofInt (tt))), (4, .int (Int32.ofInt (y31_4))), (5, .int (Int32.ofInt (y31_5)))], [.ref 43, .ref 50], M)) rfl ?_
            refine w_gf (v := .ref 49) hR rfl rfl rfl rfl ?_
            refine w_adv (n := 1) (F' := (53, [(0, .ref 43), (1, .int (Int32.ofInt (n))), (2, .int (Int32.ofInt (fm))), (3, .int (Int32.ofInt (tt))), (4, .int (Int32.ofInt (y31_4))), (5, .int (Int32.ofInt (y31_5)))], [.int (Int32.ofInt (n)), .ref 49, .ref 50], M)) rfl ?_
            refine w_la (n := 402) hR rfl (Or.inl ⟨rfl, rfl⟩) rfl (show 0 ≤ n by omega) (show n < (402 : Int) by omega) (by decide) ?_
            show w_W _ _ _ (54, [(0, .ref 43), (1, .int (Int32.ofInt (n))), (2, .int (Int32.ofInt (fm))), (3, .int (Int32.ofInt (tt))), (4, .int (Int32.ofInt (y31_4))), (5, .int (Int32.ofInt (y31_5)))], [.int (Int32.ofInt ((A 49) (n))), .ref 50], M) _
            refine w_adv (n := 1) (F' := (56, [(0, .ref 43), (1, .int (Int32.ofInt (n))), (2, .int (Int32.ofInt (fm))), (3, .int (Int32.ofInt (tt))), (4, .int (Int32.ofInt (y31_4))), (5, .int (Int32.ofInt (y31_5)))], [.int (Int32.ofInt (y31_5)), .int (Int32.ofInt ((A 49) (n))), .ref 50], M)) rfl ?_
            refine w_add rfl ?_
            refine w_la (n := 9648) hR rfl (Or.inr ⟨rfl, rfl⟩) rfl (show 0 ≤ ((A 49) (n)) + y31_5 by omega) (show ((A 49) (n)) + y31_5 < (9648 : Int) by omega) (by decide) ?_
            obtain ⟨r10, r11⟩ : -2147483648 ≤ (A 50) (((A 49) (n)) + y31_5) ∧ (A 50) (((A 49) (n)) + y31_5) ≤ 2147483647 := hR.ra 50 (((A 49) (n)) + y31_5)
            show w_W _ _ _ (58, [(0, .ref 43), (1, .int (Int32.ofInt (n))), (2, .int (Int32.ofInt (fm))), (3, .int (Int32.ofInt (tt))), (4, .int (Int32.ofInt (y31_4))), (5, .int (Int32.ofInt (y31_5)))], [.int (Int32.ofInt ((A 50) (((A 49) (n)) + y31_5)))], M) _
            refine w_adv (n := 1) (F' := (59, [(0, .ref 43), (1, .int (Int32.ofInt (n))), (2, .int (Int32.ofInt (fm))), (3, .int (Int32.ofInt (tt))), (4, .int (Int32.ofInt (y31_4))), (5, .int (Int32.ofInt (y31_5)))], [.ref 43, .int (Int32.ofInt ((A 50) (((A 49) (n)) + y31_5)))], M)) rfl ?_
            refine w_gf (v := .ref 44) hR rfl rfl rfl rfl ?_
            refine w_adv (n := 2) (F' := (65, [(0, .ref 43), (1, .int (Int32.ofInt (n))), (2, .int (Int32.ofInt (fm))), (3, .int (Int32.ofInt (tt))), (4, .int (Int32.ofInt (y31_4))), (5, .int (Int32.ofInt (y31_5)))], [.int (Int32.ofInt (y31_5)), .int (Int32.ofInt (fm)), .ref 44, .int (Int32.ofInt ((A 50) (((A 49) (n)) + y31_5)))], M)) rfl ?_
            refine w_add rfl ?_
            refine w_la (n := 8192) hR rfl (Or.inr ⟨rfl, rfl⟩) rfl (show 0 ≤ fm + y31_5 by omega) (show fm + y31_5 < (8192 : Int) by omega) (by decide) ?_
            obtain ⟨r12, r13⟩ : -2147483648 ≤ (A 44) (fm + y31_5) ∧ (A 44) (fm + y31_5) ≤ 2147483647 := hR.ra 44 (fm + y31_5)
            show w_W _ _ _ (67, [(0, .ref 43), (1, .int (Int32.ofInt (n))), (2, .int (Int32.ofInt (fm))), (3, .int (Int32.ofInt (tt))), (4, .int (Int32.ofInt (y31_4))), (5, .int (Int32.ofInt (y31_5)))], [.int (Int32.ofInt ((A 44) (fm + y31_5))), .int (Int32.ofInt ((A 50) (((A 49) (n)) + y31_5)))], M) _
            refine w_br2 (a := (A 50) (((A 49) (n)) + y31_5)) (b := (A 44) (fm + y31_5)) rfl rfl ⟨by omega, by omega⟩ ⟨by omega, by omega⟩ (fun h14 => ?_) (fun h14 => ?_)
            · have h14 : ¬ (A 50) (((A 49) (n)) + y31_5) = (A 44) (fm + y31_5) := h14
              show w_W _ _ _ (74, [(0, .ref 43), (1, .int (Int32.ofInt (n))), (2, .int (Int32.ofInt (fm))), (3, .int (Int32.ofInt (tt))), (4, .int (Int32.ofInt (y31_4))), (5, .int (Int32.ofInt (y31_5)))], [], M) _
              refine w_adv (n := 2) (F' := (77, [(4, .int (Int32.ofInt (0))), (0, .ref 43), (1, .int (Int32.ofInt (n))), (2, .int (Int32.ofInt (fm))), (3, .int (Int32.ofInt (tt))), (5, .int (Int32.ofInt (y31_5)))], [], M)) rfl ?_
              refine w_inc (nL := 6) (a := y31_5) rfl rfl rfl (by decide) ?_
              refine w_adv (n := 1) (F' := (31, [(5, .int (Int32.ofInt (y31_5 + 1))), (4, .int (Int32.ofInt (0))), (0, .ref 43), (1, .int (Int32.ofInt (n))), (2, .int (Int32.ofInt (fm))), (3, .int (Int32.ofInt (tt)))], [], M)) rfl ?_
              refine w_ls (ls := [(0, .ref 43), (1, .int (Int32.ofInt (n))), (2, .int (Int32.ofInt (fm))), (3, .int (Int32.ofInt (tt))), (4, .int (Int32.ofInt (0))), (5, .int (Int32.ofInt (y31_5 + 1)))]) (show List.Nodup [0, 1, 2, 3, 4, 5] by decide) (show List.Nodup [5, 4, 0, 1, 2, 3] by decide) (List.forall_mem_cons.mpr ⟨(List.Mem.tail _ (List.Mem.tail _ (List.Mem.head _))), (List.forall_mem_cons.mpr ⟨(List.Mem.tail _ (List.Mem.tail _ (List.Mem.tail _ (List.Mem.head _)))), (List.forall_mem_cons.mpr ⟨(List.Mem.tail _ (List.Mem.tail _ (List.Mem.tail _ (List.Mem.tail _ (List.Mem.head _))))), (List.forall_mem_cons.mpr ⟨(List.Mem.tail _ (List.Mem.tail _ (List.Mem.tail _ (List.Mem.tail _ (List.Mem.tail _ (List.Mem.head _)))))), (List.forall_mem_cons.mpr ⟨(List.Mem.tail _ (List.Mem.head _)), (List.forall_mem_cons.mpr ⟨(List.Mem.head _), (fun _ h => by cases h)⟩)⟩)⟩)⟩)⟩)⟩) ?_
              exact ih31  (0) (y31_5 + 1) ⟨by omega, by omega⟩ ⟨by omega, by omega⟩ (show 0 ≤ y31_5 + 1 ∧ y31_5 + 1 ≤ tt - fm ∧ (0 = 0 ∨ 0 = 1) by omega) (show tt - fm - (y31_5 + 1) < (fu31 : Int) by omega)
            · have h14 : ¬ (¬ (A 50) (((A 49) (n)) + y31_5) = (A 44) (fm + y31_5)) := h14
              show w_W _ _ _ (70, [(0, .ref 43), (1, .int (Int32.ofInt (n))), (2, .int (Int32.ofInt (fm))), (3, .int (Int32.ofInt (tt))), (4, .int (Int32.ofInt (y31_4))), (5, .int (Int32.ofInt (y31_5)))], [], M) _
              refine w_adv (n := 3) (F' := (77, [(4, .int (Int32.ofInt (1))), (0, .ref 43), (1, .int (Int32.ofInt (n))), (2, .int (Int32.ofInt (fm))), (3, .int (Int32.ofInt (tt))), (5, .int (Int32.ofInt (y31_5)))], [], M)) rfl ?_
              refine w_inc (nL := 6) (a := y31_5) rfl rfl rfl (by decide) ?_
              refine w_adv (n := 1) (F' := (31, [(5, .int (Int32.ofInt (y31_5 + 1))), (4, .int (Int32.ofInt (1))), (0, .ref 43), (1, .int (Int32.ofInt (n))), (2, .int (Int32.ofInt (fm))), (3, .int (Int32.ofInt (tt)))], [], M)) rfl ?_
              refine w_ls (ls := [(0, .ref 43), (1, .int (Int32.ofInt (n))), (2, .int (Int32.ofInt (fm))), (3, .int (Int32.ofInt (tt))), (4, .int (Int32.ofInt (1))), (5, .int (Int32.ofInt (y31_5 + 1)))]) (show List.Nodup [0, 1, 2, 3, 4, 5] by decide) (show List.Nodup [5, 4, 0, 1, 2, 3] by decide) (List.forall_mem_cons.mpr ⟨(List.Mem.tail _ (List.Mem.tail _ (List.Mem.head _))), (List.forall_mem_cons.mpr ⟨(List.Mem.tail _ (List.Mem.tail _ (List.Mem.tail _ (List.Mem.head _)))), (List.forall_mem_cons.mpr ⟨(List.Mem.tail _ (List.Mem.tail _ (List.Mem.tail _ (List.Mem.tail _ (List.Mem.head _))))), (List.forall_mem_cons.mpr ⟨(List.Mem.tail _ (List.Mem.tail _ (List.Mem.tail _ (List.Mem.tail _ (List.Mem.tail _ (List.Mem.head _)))))), (List.forall_mem_cons.mpr ⟨(List.Mem.tail _ (List.Mem.head _)), (List.forall_mem_cons.mpr ⟨(List.Mem.head _), (fun _ h => by cases h)⟩)⟩)⟩)⟩)⟩)⟩) ?_
              exact ih31  (1) (y31_5 + 1) ⟨by omega, by omega⟩ ⟨by omega, by omega⟩ (show 0 ≤ y31_5 + 1 ∧ y31_5 + 1 ≤ tt - fm ∧ (1 = 0 ∨ 1 = 1) by omega) (show tt - fm - (y31_5 + 1) < (fu31 : Int) by omega)
    refine w_ls (ls := [(0, .ref 43), (1, .int (Int32.ofInt (n))), (2, .int (Int32.ofInt (fm))), (3, .int (Int32.ofInt (tt))), (4, .int (Int32.ofInt (0))), (5, .int (Int32.ofInt (0)))]) (show List.Nodup [0, 1, 2, 3, 4, 5] by decide) (show List.Nodup [5, 4, 0, 1, 2, 3] by decide) (List.forall_mem_cons.mpr ⟨(List.Mem.tail _ (List.Mem.tail _ (List.Mem.head _))), (List.forall_mem_cons.mpr ⟨(List.Mem.tail _ (List.Mem.tail _ (List.Mem.tail _ (List.Mem.head _)))), (List.forall_mem_cons.mpr ⟨(List.Mem.tail _ (List.Mem.tail _ (List.Mem.tail _ (List.Mem.tail _ (List.Mem.head _))))), (List.forall_mem_cons.mpr ⟨(List.Mem.tail _ (List.Mem.tail _ (List.Mem.tail _ (List.Mem.tail _ (List.Mem.tail _ (List.Mem.head _)))))), (List.forall_mem_cons.mpr ⟨(List.Mem.tail _ (List.Mem.head _)), (List.forall_mem_cons.mpr ⟨(List.Mem.head _), (fun _ h => by cases h)⟩)⟩)⟩)⟩)⟩)⟩) ?_
    exact lp31 ((tt - fm - 0).toNat + 1)  (0) (0) ⟨by omega, by omega⟩ ⟨by omega, by omega⟩ (show 0 ≤ 0 ∧ 0 ≤ tt - fm ∧ (0 = 0 ∨ 0 = 1) by omega) (show tt - fm - 0 < (((tt - fm - 0).toNat + 1 : Nat) : Int) by omega)
  · have h5 : ¬ (¬ ((A 49) (n + 1)) - ((A 49) (n)) = tt - fm) := h5
    show w_W _ _ _ (21, [(0, .ref 43), (1, .int (Int32.ofInt (n))), (2, .int (Int32.ofInt (fm))), (3, .int (Int32.ofInt (tt)))], [], M) _
    refine w_adv (n := 5) (F' := (31, [(5, .int (Int32.ofInt (0))), (4, .int (Int32.ofInt (1))), (0, .ref 43), (1, .int (Int32.ofInt (n))), (2, .int (Int32.ofInt (fm))), (3, .int (Int32.ofInt (tt)))], [], M)) rfl ?_
    have lp31 : ∀ fu31 : Nat, ∀ (y31_4 : Int) (y31_5 : Int), w_in y31_4 → w_in y31_5 → 0 ≤ y31_5 ∧ y31_5 ≤ tt - fm ∧ (y31_4 = 0 ∨ y31_4 = 1) → tt - fm - y31_5 < (fu31 : Int) → w_W (z_P L xs) d 221 (31, [(0, .ref 43), (1, .int (Int32.ofInt (n))), (2, .int (Int32.ofInt (fm))), (3, .int (Int32.ofInt (tt))), (4, .int (Int32.ofInt (y31_4))), (5, .int (Int32.ofInt (y31_5)))], [], M) (m_isAtom_Q fr X u l I A B C M n fm tt) := by
      intro fu31
      induction fu31 with
      | zero =>
        intro y31_4 y31_5 ⟨ra_y31_4, rb_y31_4⟩ ⟨ra_y31_5, rb_y31_5⟩ hi31_0 hn31
        exfalso
        omega
      | succ fu31 ih31 =>
        intro y31_4 y31_5 ⟨ra_y31_4, rb_y31_4⟩ ⟨ra_y31_5, rb_y31_5⟩ hi31_0 hn31
        refine w_adv (n := 3) (F' := (35, [(0, .ref 43), (1, .int (Int32.ofInt (n))), (2, .int (Int32.ofInt (fm))), (3, .int (Int32.ofInt (tt))), (4, .int (Int32.ofInt (y31_4))), (5, .int (Int32.ofInt (y31_5)))], [.int (Int32.ofInt (fm)), .int (Int32.ofInt (tt)), .int (Int32.ofInt (y31_5))], M)) rfl ?_
        refine w_sub rfl ?_
        refine w_br2 (a := y31_5) (b := tt - fm) rfl rfl ⟨by omega, by omega⟩ ⟨by omega, by omega⟩ (fun h15 => ?_) (fun h15 => ?_)
        · have h15 : y31_5 ≥ tt - fm := h15
          show w_W _ _ _ (83, [(0, .ref 43), (1, .int (Int32.ofInt (n))), (2, .int (Int32.ofInt (fm))), (3, .int (Int32.ofInt (tt))), (4, .int (Int32.ofInt (y31_4))), (5, .int (Int32.ofInt (y31_5)))], [], M) _
          refine w_adv (n := 1) (F' := (85, [(0, .ref 43), (1, .int (Int32.ofInt (n))), (2, .int (Int32.ofInt (fm))), (3, .int (Int32.ofInt (tt))), (4, .int (Int32.ofInt (y31_4))), (5, .int (Int32.ofInt (y31_5)))], [.int (Int32.ofInt (y31_4))], M)) rfl ?_
          rcases (show y31_4 = 0 ∨ y31_4 = 1 by omega) with h16 | h16
          · refine w_top (y := .int (Int32.ofInt 0)) (by rw [h16]) ?_
            refine w_fin (r := .inl (some (0))) (M' := M) rfl ?_
            exact ⟨0, rfl, ⟨by omega, by omega⟩, rfl, (show 0 = 0 ∨ 0 = 1 by first | assumption | omega)⟩
          · refine w_top (y := .int (Int32.ofInt 1)) (by rw [h16]) ?_
            refine w_fin (r := .inl (some (1))) (M' := M) rfl ?_
            exact ⟨1, rfl, ⟨by omega, by omega⟩, rfl, (show 1 = 0 ∨ 1 = 1 by first | assumption | omega)⟩
        · have h15 : ¬ (y31_5 ≥ tt - fm) := h15
          show w_W _ _ _ (39, [(0, .ref 43), (1, .int (Int32.ofInt (n))), (2, .int (Int32.ofInt (fm))), (3, .int (Int32.ofInt (tt))), (4, .int (Int32.ofInt (y31_4))), (5, .int (Int32.ofInt (y31_5)))], [], M) _
          refine w_adv (n := 1) (F' := (41, [(0, .ref 43), (1, .int (Int32.ofInt (n))), (2, .int (Int32.ofInt (fm))), (3, .int (Int32.ofInt (tt))), (4, .int (Int32.ofInt (y31_4))), (5, .int (Int32.ofInt (y31_5)))], [.int (Int32.ofInt (y31_4))], M)) rfl ?_
          refine w_br1 (a := y31_4) rfl rfl ⟨by omega, by omega⟩ (fun h17 => ?_) (fun h17 => ?_)
          · have h17 : y31_4 = 0 := h17
            show w_W _ _ _ (83, [(0, .ref 43), (1, .int (Int32.ofInt (n))), (2, .int (Int32.ofInt (fm))), (3, .int (Int32.ofInt (tt))), (4, .int (Int32.ofInt (y31_4))), (5, .int (Int32.ofInt (y31_5)))], [], M) _
            refine w_adv (n := 1) (F' := (85, [(0, .ref 43), (1, .int (Int32.ofInt (n))), (2, .int (Int32.ofInt (fm))), (3, .int (Int32.ofInt (tt))), (4, .int (Int32.ofInt (y31_4))), (5, .int (Int32.ofInt (y31_5)))], [.int (Int32.ofInt (y31_4))], M)) rfl ?_
            rcases (show y31_4 = 0 ∨ y31_4 = 1 by omega) with h18 | h18
            · refine w_top (y := .int (Int32.ofInt 0)) (by rw [h18]) ?_
              refine w_fin (r := .inl (some (0))) (M' := M) rfl ?_
              exact ⟨0, rfl, ⟨by omega, by omega⟩, rfl, (show 0 = 0 ∨ 0 = 1 by first | assumption | omega)⟩
            · refine w_top (y := .int (Int32.ofInt 1)) (by rw [h18]) ?_
              refine w_fin (r := .inl (some (1))) (M' := M) rfl ?_
              exact ⟨1, rfl, ⟨by omega, by omega⟩, rfl, (show 1 = 0 ∨ 1 = 1 by first | assumption | omega)⟩
          · have h17 : ¬ (y31_4 = 0) := h17
            show w_W _ _ _ (44, [(0, .ref 43), (1, .int (Int32.ofInt (n))), (2, .int (Int32.ofInt (fm))), (3, .int (Int32.ofInt (tt))), (4, .int (Int32.ofInt (y31_4))), (5, .int (Int32.ofInt (y31_5)))], [], M) _
            refine w_adv (n := 1) (F' := (45, [(0, .ref 43), (1, .int (Int32.ofInt (n))), (2, .int (Int32.ofInt (fm))), (3, .int (Int32.ofInt (tt))), (4, .int (Int32.ofInt (y31_4))), (5, .int (Int32.ofInt (y31_5)))], [.ref 43], M)) rfl ?_
            refine w_gf (v := .ref 50) hR rfl rfl rfl rfl ?_
            refine w_adv (n := 1) (F' := (49, [(0, .ref 43), (1, .int (Int32.ofInt (n))), (2, .int (Int32.ofInt (fm))), (3, .int (Int32.ofInt (tt))), (4, .int (Int32.ofInt (y31_4))), (5, .int (Int32.ofInt (y31_5)))], [.ref 43, .ref 50], M)) rfl ?_
            refine w_gf (v := .ref 49) hR rfl rfl rfl rfl ?_
            refine w_adv (n := 1) (F' := (53, [(0, .ref 43), (1, .int (Int32.ofInt (n))), (2, .int (Int32.ofInt (fm))), (3, .int (Int32.ofInt (tt))), (4, .int (Int32.ofInt (y31_4))), (5, .int (Int32.ofInt (y31_5)))], [.int (Int32.ofInt (n)), .ref 49, .ref 50], M)) rfl ?_
            refine w_la (n := 402) hR rfl (Or.inl ⟨rfl, rfl⟩) rfl (show 0 ≤ n by omega) (show n < (402 : Int) by omega) (by decide) ?_
            show w_W _ _ _ (54, [(0, .ref 43), (1, .int (Int32.ofInt (n))), (2, .int (Int32.ofInt (fm))), (3, .int (Int32.ofInt (tt))), (4, .int (Int32.ofInt (y31_4))), (5, .int (Int32.ofInt (y31_5)))], [.int (Int32.ofInt ((A 49) (n))), .ref 50], M) _
            refine w_adv (n := 1) (F' := (56, [(0, .ref 43), (1, .int (Int32.ofInt (n))), (2, .int (Int32.ofInt (fm))), (3, .int (Int32.ofInt (tt))), (4, .int (Int32.ofInt (y31_4))), (5, .int (Int32.ofInt (y31_5)))], [.int (Int32.ofInt (y31_5)), .int (Int32.ofInt ((A 49) (n))), .ref 50], M)) rfl ?_
            refine w_add rfl ?_
            refine w_la (n := 9648) hR rfl (Or.inr ⟨rfl, rfl⟩) rfl (show 0 ≤ ((A 49) (n)) + y31_5 by omega) (show ((A 49) (n)) + y31_5 < (9648 : Int) by omega) (by decide) ?_
            obtain ⟨r19, r20⟩ : -2147483648 ≤ (A 50) (((A 49) (n)) + y31_5) ∧ (A 50) (((A 49) (n)) + y31_5) ≤ 2147483647 := hR.ra 50 (((A 49) (n)) + y31_5)
            show w_W _ _ _ (58, [(0, .ref 43), (1, .int (Int32.ofInt (n))), (2, .int (Int32.ofInt (fm))), (3, .int (Int32.ofInt (tt))), (4, .int (Int32.ofInt (y31_4))), (5, .int (Int32.ofInt (y31_5)))], [.int (Int32.ofInt ((A 50) (((A 49) (n)) + y31_5)))], M) _
            refine w_adv (n := 1) (F' := (59, [(0, .ref 43), (1, .int (Int32.ofInt (n))), (2, .int (Int32.ofInt (fm))), (3, .int (Int32.ofInt (tt))), (4, .int (Int32.ofInt (y31_4))), (5, .int (Int32.ofInt (y31_5)))], [.ref 43, .int (Int32.ofInt ((A 50) (((A 49) (n)) + y31_5)))], M)) rfl ?_
            refine w_gf (v := .ref 44) hR rfl rfl rfl rfl ?_
            refine w_adv (n := 2) (F' := (65, [(0, .ref 43), (1, .int (Int32.ofInt (n))), (2, .int (Int32.ofInt (fm))), (3, .int (Int32.ofInt (tt))), (4, .int (Int32.ofInt (y31_4))), (5, .int (Int32.ofInt (y31_5)))], [.int (Int32.ofInt (y31_5)), .int (Int32.ofInt (fm)), .ref 44, .int (Int32.ofInt ((A 50) (((A 49) (n)) + y31_5)))], M)) rfl ?_
            refine w_add rfl ?_
            refine w_la (n := 8192) hR rfl (Or.inr ⟨rfl, rfl⟩) rfl (show 0 ≤ fm + y31_5 by omega) (show fm + y31_5 < (8192 : Int) by omega) (by decide) ?_
            obtain ⟨r21, r22⟩ : -2147483648 ≤ (A 44) (fm + y31_5) ∧ (A 44) (fm + y31_5) ≤ 2147483647 := hR.ra 44 (fm + y31_5)
            show w_W _ _ _ (67, [(0, .ref 43), (1, .int (Int32.ofInt (n))), (2, .int (Int32.ofInt (fm))), (3, .int (Int32.ofInt (tt))), (4, .int (Int32.ofInt (y31_4))), (5, .int (Int32.ofInt (y31_5)))], [.int (Int32.ofInt ((A 44) (fm + y31_5))), .int (Int32.ofInt ((A 50) (((A 49) (n)) + y31_5)))], M) _
            refine w_br2 (a := (A 50) (((A 49) (n)) + y31_5)) (b := (A 44) (fm + y31_5)) rfl rfl ⟨by omega, by omega⟩ ⟨by omega, by omega⟩ (fun h23 => ?_) (fun h23 => ?_)
            · have h23 : ¬ (A 50) (((A 49) (n)) + y31_5) = (A 44) (fm + y31_5) := h23
              show w_W _ _ _ (74, [(0, .ref 43), (1, .int (Int32.ofInt (n))), (2, .int (Int32.ofInt (fm))), (3, .int (Int32.ofInt (tt))), (4, .int (Int32.ofInt (y31_4))), (5, .int (Int32.ofInt (y31_5)))], [], M) _
              refine w_adv (n := 2) (F' := (77, [(4, .int (Int32.ofInt (0))), (0, .ref 43), (1, .int (Int32.ofInt (n))), (2, .int (Int32.ofInt (fm))), (3, .int (Int32.ofInt (tt))), (5, .int (Int32.ofInt (y31_5)))], [], M)) rfl ?_
              refine w_inc (nL := 6) (a := y31_5) rfl rfl rfl (by decide) ?_
              refine w_adv (n := 1) (F' := (31, [(5, .int (Int32.ofInt (y31_5 + 1))), (4, .int (Int32.ofInt (0))), (0, .ref 43), (1, .int (Int32.ofInt (n))), (2, .int (Int32.ofInt (fm))), (3, .int (Int32.ofInt (tt)))], [], M)) rfl ?_
              refine w_ls (ls := [(0, .ref 43), (1, .int (Int32.ofInt (n))), (2, .int (Int32.ofInt (fm))), (3, .int (Int32.ofInt (tt))), (4, .int (Int32.ofInt (0))), (5, .int (Int32.ofInt (y31_5 + 1)))]) (show List.Nodup [0, 1, 2, 3, 4, 5] by decide) (show List.Nodup [5, 4, 0, 1, 2, 3] by decide) (List.forall_mem_cons.mpr ⟨(List.Mem.tail _ (List.Mem.tail _ (List.Mem.head _))), (List.forall_mem_cons.mpr ⟨(List.Mem.tail _ (List.Mem.tail _ (List.Mem.tail _ (List.Mem.head _)))), (List.forall_mem_cons.mpr ⟨(List.Mem.tail _ (List.Mem.tail _ (List.Mem.tail _ (List.Mem.tail _ (List.Mem.head _))))), (List.forall_mem_cons.mpr ⟨(List.Mem.tail _ (List.Mem.tail _ (List.Mem.tail _ (List.Mem.tail _ (List.Mem.tail _ (List.Mem.head _)))))), (List.forall_mem_cons.mpr ⟨(List.Mem.tail _ (List.Mem.head _)), (List.forall_mem_cons.mpr ⟨(List.Mem.head _), (fun _ h => by cases h)⟩)⟩)⟩)⟩)⟩)⟩) ?_
              exact ih31  (0) (y31_5 + 1) ⟨by omega, by omega⟩ ⟨by omega, by omega⟩ (show 0 ≤ y31_5 + 1 ∧ y31_5 + 1 ≤ tt - fm ∧ (0 = 0 ∨ 0 = 1) by omega) (show tt - fm - (y31_5 + 1) < (fu31 : Int) by omega)
            · have h23 : ¬ (¬ (A 50) (((A 49) (n)) + y31_5) = (A 44) (fm + y31_5)) := h23
              show w_W _ _ _ (70, [(0, .ref 43), (1, .int (Int32.ofInt (n))), (2, .int (Int32.ofInt (fm))), (3, .int (Int32.ofInt (tt))), (4, .int (Int32.ofInt (y31_4))), (5, .int (Int32.ofInt (y31_5)))], [], M) _
              refine w_adv (n := 3) (F' := (77, [(4, .int (Int32.ofInt (1))), (0, .ref 43), (1, .int (Int32.ofInt (n))), (2, .int (Int32.ofInt (fm))), (3, .int (Int32.ofInt (tt))), (5, .int (Int32.ofInt (y31_5)))], [], M)) rfl ?_
              refine w_inc (nL := 6) (a := y31_5) rfl rfl rfl (by decide) ?_
              refine w_adv (n := 1) (F' := (31, [(5, .int (Int32.ofInt (y31_5 + 1))), (4, .int (Int32.ofInt (1))), (0, .ref 43), (1, .int (Int32.ofInt (n))), (2, .int (Int32.ofInt (fm))), (3, .int (Int32.ofInt (tt)))], [], M)) rfl ?_
              refine w_ls (ls := [(0, .ref 43), (1, .int (Int32.ofInt (n))), (2, .int (Int32.ofInt (fm))), (3, .int (Int32.ofInt (tt))), (4, .int (Int32.ofInt (1))), (5, .int (Int32.ofInt (y31_5 + 1)))]) (show List.Nodup [0, 1, 2, 3, 4, 5] by decide) (show List.Nodup [5, 4, 0, 1, 2, 3] by decide) (List.forall_mem_cons.mpr ⟨(List.Mem.tail _ (List.Mem.tail _ (List.Mem.head _))), (List.forall_mem_cons.mpr ⟨(List.Mem.tail _ (List.Mem.tail _ (List.Mem.tail _ (List.Mem.head _)))), (List.forall_mem_cons.mpr ⟨(List.Mem.tail _ (List.Mem.tail _ (List.Mem.tail _ (List.Mem.tail _ (List.Mem.head _))))), (List.forall_mem_cons.mpr ⟨(List.Mem.tail _ (List.Mem.tail _ (List.Mem.tail _ (List.Mem.tail _ (List.Mem.tail _ (List.Mem.head _)))))), (List.forall_mem_cons.mpr ⟨(List.Mem.tail _ (List.Mem.head _)), (List.forall_mem_cons.mpr ⟨(List.Mem.head _), (fun _ h => by cases h)⟩)⟩)⟩)⟩)⟩)⟩) ?_
              exact ih31  (1) (y31_5 + 1) ⟨by omega, by omega⟩ ⟨by omega, by omega⟩ (show 0 ≤ y31_5 + 1 ∧ y31_5 + 1 ≤ tt - fm ∧ (1 = 0 ∨ 1 = 1) by omega) (show tt - fm - (y31_5 + 1) < (fu31 : Int) by omega)
    refine w_ls (ls := [(0, .ref 43), (1, .int (Int32.ofInt (n))), (2, .int (Int32.ofInt (fm))), (3, .int (Int32.ofInt (tt))), (4, .int (Int32.ofInt (1))), (5, .int (Int32.ofInt (0)))]) (show List.Nodup [0, 1, 2, 3, 4, 5] by decide) (show List.Nodup [5, 4, 0, 1, 2, 3] by decide) (List.forall_mem_cons.mpr ⟨(List.Mem.tail _ (List.Mem.tail _ (List.Mem.head _))), (List.forall_mem_cons.mpr ⟨(List.Mem.tail _ (List.Mem.tail _ (List.Mem.tail _ (List.Mem.head _)))), (List.forall_mem_cons.mpr ⟨(List.Mem.tail _ (List.Mem.tail _ (List.Mem.tail _ (List.Mem.tail _ (List.Mem.head _))))), (List.forall_mem_cons.mpr ⟨(List.Mem.tail _ (List.Mem.tail _ (List.Mem.tail _ (List.Mem.tail _ (List.Mem.tail _ (List.Mem.head _)))))), (List.forall_mem_cons.mpr ⟨(List.Mem.tail _ (List.Mem.head _)), (List.forall_mem_cons.mpr ⟨(List.Mem.head _), (fun _ h => by cases h)⟩)⟩)⟩)⟩)⟩)⟩) ?_
    exact lp31 ((tt - fm - 0).toNat + 1)  (1) (0) ⟨by omega, by omega⟩ ⟨by omega, by omega⟩ (show 0 ≤ 0 ∧ 0 ≤ tt - fm ∧ (1 = 0 ∨ 1 = 1) by omega) (show tt - fm - 0 < (((tt - fm - 0).toNat + 1 : Nat) : Int) by omega)
def m_nameOf_Q (fr : Nat → Bool) (X : Nat → Option (q_C (Nat → Int32))) (u l : Nat) (I : Nat → Int) (A : Nat → Int → Int) (B C : Nat → Nat) (M : w_M) (fm : Int) (tt : Int) : w_X → w_M → Prop := fun r M' => (∃ v : Int, (r = .inl (some v)) ∧ (w_in v) ∧ (M' = M) ∧ (-1 ≤ v ∧ v < 400)) ∨ (∃ v : Int, ∃ gb : Int → Int, (r = .inl (some v)) ∧ (w_in v) ∧ (w_Rep w_TM fr X u l (w_up I 2763 ((I 2763) + 1)) (w_upF (w_upF A 52 gb) 51 (w_upA (A 51) ((I 2763) + 1) ((A 51) ((I 2763)) + tt - fm))) B C M') ∧ (0 ≤ v ∧ v < 400) ∧ (m_NA (w_up I 2763 ((I 2763) + 1)) (w_upF (w_upF A 52 gb) 51 (w_upA (A 51) ((I 2763) + 1) ((A 51) ((I 2763)) + tt - fm)))))
set_option maxHeartbeats 100000000 in
set_option maxRecDepth 100000 in
theorem m_nameOf {L : Nat} {xs : Nat → Int32} {d : Nat} {fr : Nat → Bool} {X : Nat → Option (q_C (Nat → Int32))} {u l : Nat} {I : Nat → Int} {A : Nat → Int → Int} {B C : Nat → Nat} {M : w_M} (fm : Int) (tt : Int) (hR : w_Rep w_TM fr X u l I A B C M) (hd : 1 ≤ d) (r_fm : w_in fm) (r_tt : w_in tt) (hsz : 0 ≤ (I 2753) ∧ (I 2753) ≤ 8192) (hNA : m_NA I A) (hft : 0 ≤ fm ∧ fm ≤ tt ∧ tt ≤ (I 2753) ∧ tt - fm ≤ 24) : w_W (z_P L xs) d 222 (0, [(0, .ref 43), (1, .int (Int32.ofInt (fm))), (2, .int (Int32.ofInt (tt)))], [], M) (m_nameOf_Q fr X u l I A B C M fm tt) := by
  obtain ⟨ra_fm, rb_fm⟩ := r_fm
  obtain ⟨ra_tt, rb_tt⟩ := r_tt
  obtain ⟨d, rfl⟩ : ∃ d0, d = d0 + 1 := ⟨d - 1, by omega⟩
  obtain ⟨⟨nx1, nx2, nx3⟩, -⟩ := id hNA
  obtain ⟨⟨na1, na2⟩, na3, na4⟩ := hNA.2 (I 2763) (by omega) (by omega)
  refine w_adv (n := 2) (F' := (2, [(3, .int (Int32.ofInt (0))), (0, .ref 43), (1, .int (Int32.ofInt (fm))), (2, .int (Int32.ofInt (tt)))], [], M)) rfl ?_
  have lp2 : ∀ fu2 : Nat, ∀ (y2_3 : Int), w_in y2_3 → 0 ≤ y2_3 ∧ y2_3 ≤ (I 2763) → (I 2763) - y2_3 < (fu2 : Int) → w_W (z_P L xs) (d + 1) 222 (2, [(0, .ref 43), (1, .int (Int32.ofInt (fm))), (2, .int (Int32.ofInt (tt))), (3, .int (Int32.ofInt (y2_3)))], [], M) (m_nameOf_Q fr X u l I A B C M fm tt) := by
    intro fu2
    induction fu2 with
    | zero =>
      intro y2_3 ⟨ra_y2_3, rb_y2_3⟩ hi2_0 hn2
      exfalso
      omega
    | succ fu2 ih2 =>
      intro y2_3 ⟨ra_y2_3, rb_y2_3⟩ hi2_0 hn2
      refine w_adv (n := 2) (F' := (4, [(0, .ref 43), (1, .int (Int32.ofInt (fm))), (2, .int (Int32.ofInt (tt))), (3, .int (Int32.ofInt (y2_3)))], [.ref 43, .int (Int32.ofInt (y2_3))], M)) rfl ?_
      refine w_gf (v := .int (Int32.ofInt ((I 2763)))) hR rfl rfl rfl rfl ?_
      obtain ⟨r1, r2⟩ : -2147483648 ≤ (I 2763) ∧ (I 2763) ≤ 2147483647 := hR.ri 2763
      refine w_br2 (a := y2_3) (b := (I 2763)) rfl rfl ⟨by omega, by omega⟩ ⟨by omega, by omega⟩ (fun h3 => ?_) (fun h3 => ?_)
      · have h3 : y2_3 ≥ (I 2763) := h3
        show w_W _ _ _ (26, [(0, .ref 43), (1, .int (Int32.ofInt (fm))), (2, .int (Int32.ofInt (tt))), (3, .int (Int32.ofInt (y2_3)))], [], M) _
        refine w_adv (n := 2) (F' := (28, [(0, .ref 43), (1, .int (Int32.ofInt (fm))), (2, .int (Int32.ofInt (tt))), (3, .int (Int32.ofInt (y2_3)))], [.ref 43, .int (Int32.ofInt (y2_3))], M)) rfl ?_
        refine w_gf (v := .int (Int32.ofInt ((I 2763)))) hR rfl rfl rfl rfl ?_
        refine w_br2 (a := y2_3) (b := (I 2763)) rfl rfl ⟨by omega, by omega⟩ ⟨by omega, by omega⟩ (fun h4 => ?_) (fun h4 => ?_)
        · have h4 : y2_3 ≥ (I 2763) := h4
          show w_W _ _ _ (36, [(0, .ref 43), (1, .int (Int32.ofInt (fm))), (2, .int (Int32.ofInt (tt))), (3, .int (Int32.ofInt (y2_3)))], [], M) _
          refine w_adv (n := 1) (F' := (37, [(0, .ref 43), (1, .int (Int32.ofInt (fm))), (2, .int (Int32.ofInt (tt))), (3, .int (Int32.ofInt (y2_3)))], [.ref 43], M)) rfl ?_
          refine w_gf (v := .int (Int32.ofInt ((I 2763)))) hR rfl rfl rfl rfl ?_
          refine w_adv (n := 1) (F' := (41, [(0, .ref 43), (1, .int (Int32.ofInt (fm))), (2, .int (Int32.ofInt (tt))), (3, .int (Int32.ofInt (y2_3)))], [.ref 43, .int (Int32.ofInt ((I 2763)))], M)) rfl ?_
          refine w_gf (v := .int (Int32.ofInt ((I 2760)))) hR rfl rfl rfl rfl ?_
          obtain ⟨r5, r6⟩ : -2147483648 ≤ (I 2760) ∧ (I 2760) ≤ 2147483647 := hR.ri 2760
          refine w_add rfl ?_
          refine w_adv (n := 1) (F' := (48, [(0, .ref 43), (1, .int (Int32.ofInt (fm))), (2, .int (Int32.ofInt (tt))), (3, .int (Int32.ofInt (y2_3)))], [.int (Int32.ofInt (400)), .int (Int32.ofInt ((I 2763) + (I 2760)))], M)) rfl ?_
          refine w_br2 (a := (I 2763) + (I 2760)) (b := 400) rfl rfl ⟨by omega, by omega⟩ ⟨by omega, by omega⟩ (fun h7 => ?_) (fun h7 => ?_)
          · have h7 : ¬ (I 2763) + (I 2760) = 400 := h7
            show w_W _ _ _ (53, [(0, .ref 43), (1, .int (Int32.ofInt (fm))), (2, .int (Int32.ofInt (tt))), (3, .int (Int32.ofInt (y2_3)))], [], M) _
            refine w_adv (n := 2) (F' := (56, [(4, .int (Int32.ofInt (fm))), (0, .ref 43), (1, .int (Int32.ofInt (fm))), (2, .int (Int32.ofInt (tt))), (3, .int (Int32.ofInt (y2_3)))], [], M)) rfl ?_
            have lp56 : ∀ fu56 : Nat, ∀ (y56_4 : Int) (ga56_52 : Int → Int) (M_56 : w_M) (hR_56 : w_Rep w_TM fr X u l I (w_upF A 52 ga56_52) B C M_56), w_in y56_4 → fm ≤ y56_4 ∧ y56_4 ≤ tt → tt - y56_4 < (fu56 : Int) → w_W (z_P L xs) (d + 1) 222 (56, [(0, .ref 43), (1, .int (Int32.ofInt (fm))), (2, .int (Int32.ofInt (tt))), (3, .int (Int32.ofInt (y2_3))), (4, .int (Int32.ofInt (y56_4)))], [], M_56) (m_nameOf_Q fr X u l I A B C M fm tt) := by
              intro fu56
              induction fu56 with
              | zero =>
                intro y56_4 ga56_52 M_56 hR_56 ⟨ra_y56_4, rb_y56_4⟩ hi56_0 hn56
                exfalso
                omega
              | succ fu56 ih56 =>
                intro y56_4 ga56_52 M_56 hR_56 ⟨ra_y56_4, rb_y56_4⟩ hi56_0 hn56
                refine w_adv (n := 2) (F' := (59, [(0, .ref 43), (1, .int (Int32.ofInt (fm))), (2, .int (Int32.ofInt (tt))), (3, .int (Int32.ofInt (y2_3))), (4, .int (Int32.ofInt (y56_4)))], [.int (Int32.ofInt (tt)), .int (Int32.ofInt (y56_4))], M_56)) rfl ?_
                refine w_br2 (a := y56_4) (b := tt) rfl rfl ⟨by omega, by omega⟩ ⟨by omega, by omega⟩ (fun h8 => ?_) (fun h8 => ?_)
                · have h8 : y56_4 ≥ tt := h8
                  show w_W _ _ _ (94, [(0, .ref 43), (1, .int (Int32.ofInt (fm))), (2, .int (Int32.ofInt (tt))), (3, .int (Int32.ofInt (y2_3))), (4, .int (Int32.ofInt (y56_4)))], [], M_56) _
                  refine w_adv (n := 1) (F' := (95, [(0, .ref 43), (1, .int (Int32.ofInt (fm))), (2, .int (Int32.ofInt (tt))), (3, .int (Int32.ofInt (y2_3))), (4, .int (Int32.ofInt (y56_4)))], [.ref 43], M_56)) rfl ?_
                  refine w_gf (v := .ref 51) hR_56 rfl rfl rfl rfl ?_
                  refine w_adv (n := 1) (F' := (99, [(0, .ref 43), (1, .int (Int32.ofInt (fm))), (2, .int (Int32.ofInt (tt))), (3, .int (Int32.ofInt (y2_3))), (4, .int (Int32.ofInt (y56_4)))], [.ref 43, .ref 51], M_56)) rfl ?_
                  refine w_gf (v := .int (Int32.ofInt ((I 2763)))) hR_56 rfl rfl rfl rfl ?_
                  obtain ⟨r9, r10⟩ : -2147483648 ≤ (I 2763) ∧ (I 2763) ≤ 2147483647 := hR_56.ri 2763
                  refine w_adv (n := 1) (F' := (103, [(0, .ref 43), (1, .int (Int32.ofInt (fm))), (2, .int (Int32.ofInt (tt))), (3, .int (Int32.ofInt (y2_3))), (4, .int (Int32.ofInt (y56_4)))], [.int (Int32.ofInt (1)), .int (Int32.ofInt ((I 2763))), .ref 51], M_56)) rfl ?_
                  refine w_add rfl ?_
                  refine w_adv (n := 1) (F' := (105, [(0, .ref 43), (1, .int (Int32.ofInt (fm))), (2, .int (Int32.ofInt (tt))), (3, .int (Int32.ofInt (y2_3))), (4, .int (Int32.ofInt (y56_4)))], [.ref 43, .int (Int32.ofInt ((I 2763) + 1)), .ref 51], M_56)) rfl ?_
                  refine w_gf (v := .ref 51) hR_56 rfl rfl rfl rfl ?_
                  refine w_adv (n := 1) (F' := (109, [(0, .ref 43), (1, .int (Int32.ofInt (fm))), (2, .int (Int32.ofInt (tt))), (3, .int (Int32.ofInt (y2_3))), (4, .int (Int32.ofInt (y56_4)))], [.ref 43, .ref 51, .int (Int32.ofInt ((I 2763) + 1)), .ref 51], M_56)) rfl ?_
                  refine w_gf (v := .int (Int32.ofInt ((I 2763)))) hR_56 rfl rfl rfl rfl ?_
                  refine w_la (n := 402) hR_56 rfl (Or.inl ⟨rfl, rfl⟩) rfl (show 0 ≤ (I 2763) by omega) (show (I 2763) < (402 : Int) by omega) (by decide) ?_
                  obtain ⟨r11, r12⟩ : -2147483648 ≤ (A 51) ((I 2763)) ∧ (A 51) ((I 2763)) ≤ 2147483647 := hR_56.ra 51 ((I 2763))
                  show w_W _ _ _ (113, [(0, .ref 43), (1, .int (Int32.ofInt (fm))), (2, .int (Int32.ofInt (tt))), (3, .int (Int32.ofInt (y2_3))), (4, .int (Int32.ofInt (y56_4)))], [.int (Int32.ofInt ((A 51) ((I 2763)))), .int (Int32.ofInt ((I 2763) + 1)), .ref 51], M_56) _
                  refine w_adv (n := 1) (F' := (114, [(0, .ref 43), (1, .int (Int32.ofInt (fm))), (2, .int (Int32.ofInt (tt))), (3, .int (Int32.ofInt (y2_3))), (4, .int (Int32.ofInt (y56_4)))], [.int (Int32.ofInt (tt)), .int (Int32.ofInt ((A 51) ((I 2763)))), .int (Int32.ofInt ((I 2763) + 1)), .ref 51], M_56)) rfl ?_
                  refine w_add rfl ?_
                  refine w_adv (n := 1) (F' := (116, [(0, .ref 43), (1, .int (Int32.ofInt (fm))), (2, .int (Int32.ofInt (tt))), (3, .int (Int32.ofInt (y2_3))), (4, .int (Int32.ofInt (y56_4)))], [.int (Int32.ofInt (fm)), .int (Int32.ofInt (((A 51) ((I 2763))) + tt)), .int (Int32.ofInt ((I 2763) + 1)), .ref 51], M_56)) rfl ?_
                  refine w_sub rfl ?_
                  refine w_sai (n := 402) hR_56 rfl rfl (show 0 ≤ (I 2763) + 1 by omega) (show (I 2763) + 1 < (402 : Int) by omega) (by decide) (show w_in ((((A 51) ((I 2763))) + tt) - fm) from ⟨by omega, by omega⟩) (fun M13 hR14 => ?_)
                  replace hR14 : w_Rep w_TM fr X u l I (w_upF (w_upF A 52 ga56_52) 51 (w_upA (A 51) ((I 2763) + 1) ((((A 51) ((I 2763))) + tt) - fm))) B C M13 := hR14
                  refine w_adv (n := 2) (F' := (120, [(0, .ref 43), (1, .int (Int32.ofInt (fm))), (2, .int (Int32.ofInt (tt))), (3, .int (Int32.ofInt (y2_3))), (4, .int (Int32.ofInt (y56_4)))], [.ref 43, .ref 43], M13)) rfl ?_
                  refine w_gf (v := .int (Int32.ofInt ((I 2763)))) hR14 rfl rfl rfl rfl ?_
                  refine w_adv (n := 1) (F' := (124, [(0, .ref 43), (1, .int (Int32.ofInt (fm))), (2, .int (Int32.ofInt (tt))), (3, .int (Int32.ofInt (y2_3))), (4, .int (Int32.ofInt (y56_4)))], [.int (Int32.ofInt (1)), .int (Int32.ofInt ((I 2763))), .ref 43], M13)) rfl ?_
                  refine w_add rfl ?_
                  refine w_pf hR14 rfl rfl rfl rfl (show w_in ((I 2763) + 1) from ⟨by omega, by omega⟩) (fun h => absurd h (by decide)) (fun M15 hR16 => ?_)
                  replace hR16 : w_Rep w_TM fr X u l (w_up I 2763 ((I 2763) + 1)) (w_upF (w_upF A 52 ga56_52) 51 (w_upA (A 51) ((I 2763) + 1) ((((A 51) ((I 2763))) + tt) - fm))) B C M15 := hR16
                  refine w_adv (n := 1) (F' := (129, [(0, .ref 43), (1, .int (Int32.ofInt (fm))), (2, .int (Int32.ofInt (tt))), (3, .int (Int32.ofInt (y2_3))), (4, .int (Int32.ofInt (y56_4)))], [.ref 43], M15)) rfl ?_
                  refine w_gf (v := .int (Int32.ofInt ((I 2763) + 1))) hR16 rfl rfl rfl rfl ?_
                  refine w_adv (n := 1) (F' := (133, [(0, .ref 43), (1, .int (Int32.ofInt (fm))), (2, .int (Int32.ofInt (tt))), (3, .int (Int32.ofInt (y2_3))), (4, .int (Int32.ofInt (y56_4)))], [.int (Int32.ofInt (1)), .int (Int32.ofInt ((I 2763) + 1))], M15)) rfl ?_
                  refine w_sub rfl ?_
                  refine w_fin (r := .inl (some (((I 2763) + 1) - 1))) (M' := M15) rfl ?_
                  exact Or.inr (⟨((I 2763) + 1) - 1, ga56_52, rfl, ⟨by omega, by omega⟩, (w_Rep.up hR16 (show (w_up I 2763 ((I 2763) + 1)) = (w_up I 2763 ((I 2763) + 1)) from rfl) (show (w_upF (w_upF A 52 ga56_52) 51 (w_upA (A 51) ((I 2763) + 1) ((A 51) ((I 2763)) + tt - fm))) = (w_upF (w_upF A 52 ga56_52) 51 (w_upA (A 51) ((I 2763) + 1) ((((A 51) ((I 2763))) + tt) - fm))) from (funext fun s => if e0 : s = 51 then (by subst e0; rfl) else if e1 : s = 52 then (by subst e1; rfl) else (by simp only [w_upF_ne e0, w_upF_ne e1])))), (show 0 ≤ ((I 2763) + 1) - 1 ∧ ((I 2763) + 1) - 1 < 400 by first | assumption | omega), (show m_NA (w_up I 2763 ((I 2763) + 1)) (w_upF (w_upF A 52 ga56_52) 51 (w_upA (A 51) ((I 2763) + 1) ((A 51) ((I 2763)) + tt - fm))) by exact m_NA_up (j := (I 2763) + 1) hNA (show 0 ≤ (I 2760) ∧ 0 ≤ (I 2763) + 1 ∧ (I 2760) + ((I 2763) + 1) ≤ 400 by omega) (by first | exact Or.inl ⟨rfl, rfl⟩ | exact Or.inr ⟨rfl, rfl⟩) (show 0 ≤ (A 51 (I 2763)) + tt - fm ∧ (A 51 (I 2763)) + tt - fm ≤ 24 * ((I 2763) + 1) by omega))⟩)
                · have h8 : ¬ (y56_4 ≥ tt) := h8
                  show w_W _ _ _ (62, [(0, .ref 43), (1, .int (Int32.ofInt (fm))), (2, .int (Int32.ofInt (tt))), (3, .int (Int32.ofInt (y2_3))), (4, .int (Int32.ofInt (y56_4)))], [], M_56) _
                  refine w_adv (n := 1) (F' := (63, [(0, .ref 43), (1, .int (Int32.ofInt (fm))), (2, .int (Int32.ofInt (tt))), (3, .int (Int32.ofInt (y2_3))), (4, .int (Int32.ofInt (y56_4)))], [.ref 43], M_56)) rfl ?_
                  refine w_gf (v := .ref 52) hR_56 rfl rfl rfl rfl ?_
                  refine w_adv (n := 1) (F' := (67, [(0, .ref 43), (1, .int (Int32.ofInt (fm))), (2, .int (Int32.ofInt (tt))), (3, .int (Int32.ofInt (y2_3))), (4, .int (Int32.ofInt (y56_4)))], [.ref 43, .ref 52], M_56)) rfl ?_
                  refine w_gf (v := .ref 51) hR_56 rfl rfl rfl rfl ?_
                  refine w_adv (n := 1) (F' := (71, [(0, .ref 43), (1, .int (Int32.ofInt (fm))), (2, .int (Int32.ofInt (tt))), (3, .int (Int32.ofInt (y2_3))), (4, .int (Int32.ofInt (y56_4)))], [.ref 43, .ref 51, .ref 52], M_56)) rfl ?_
                  refine w_gf (v := .int (Int32.ofInt ((I 2763)))) hR_56 rfl rfl rfl rfl ?_
                  obtain ⟨r17, r18⟩ : -2147483648 ≤ (I 2763) ∧ (I 2763) ≤ 2147483647 := hR_56.ri 2763
                  refine w_la (n := 402) hR_56 rfl (Or.inl ⟨rfl, rfl⟩) rfl (show 0 ≤ (I 2763) by omega) (show (I 2763) < (402 : Int) by omega) (by decide) ?_
                  obtain ⟨r19, r20⟩ : -2147483648 ≤ (A 51) ((I 2763)) ∧ (A 51) ((I 2763)) ≤ 2147483647 := hR_56.ra 51 ((I 2763))
                  show w_W _ _ _ (75, [(0, .ref 43), (1, .int (Int32.ofInt (fm))), (2, .int (Int32.ofInt (tt))), (3, .int (Int32.ofInt (y2_3))), (4, .int (Int32.ofInt (y56_4)))], [.int (Int32.ofInt ((A 51) ((I 2763)))), .ref 52], M_56) _
                  refine w_adv (n := 1) (F' := (77, [(0, .ref 43), (1, .int (Int32.ofInt (fm))), (2, .int (Int32.ofInt (tt))), (3, .int (Int32.ofInt (y2_3))), (4, .int (Int32.ofInt (y56_4)))], [.int (Int32.ofInt (y56_4)), .int (Int32.ofInt ((A 51) ((I 2763)))), .ref 52], M_56)) rfl ?_
                  refine w_add rfl ?_
                  refine w_adv (n := 1) (F' := (79, [(0, .ref 43), (1, .int (Int32.ofInt (fm))), (2, .int (Int32.ofInt (tt))), (3, .int (Int32.ofInt (y2_3))), (4, .int (Int32.ofInt (y56_4)))], [.int (Int32.ofInt (fm)), .int (Int32.ofInt (((A 51) ((I 2763))) + y56_4)), .ref 52], M_56)) rfl ?_
                  refine w_sub rfl ?_
                  refine w_adv (n := 1) (F' := (81, [(0, .ref 43), (1, .int (Int32.ofInt (fm))), (2, .int (Int32.ofInt (tt))), (3, .int (Int32.ofInt (y2_3))), (4, .int (Int32.ofInt (y56_4)))], [.ref 43, .int (Int32.ofInt ((((A 51) ((I 2763))) + y56_4) - fm)), .ref 52], M_56)) rfl ?_
                  refine w_gf (v := .ref 44) hR_56 rfl rfl rfl rfl ?_
                  refine w_adv (n := 1) (F' := (86, [(0, .ref 43), (1, .int (Int32.ofInt (fm))), (2, .int (Int32.ofInt (tt))), (3, .int (Int32.ofInt (y2_3))), (4, .int (Int32.ofInt (y56_4)))], [.int (Int32.ofInt (y56_4)), .ref 44, .int (Int32.ofInt ((((A 51) ((I 2763))) + y56_4) - fm)), .ref 52], M_56)) rfl ?_
                  refine w_la (n := 8192) hR_56 rfl (Or.inr ⟨rfl, rfl⟩) rfl (show 0 ≤ y56_4 by omega) (show y56_4 < (8192 : Int) by omega) (by decide) ?_
                  obtain ⟨r21, r22⟩ : -2147483648 ≤ (A 44) (y56_4) ∧ (A 44) (y56_4) ≤ 2147483647 := hR_56.ra 44 (y56_4)
                  show w_W _ _ _ (87, [(0, .ref 43), (1, .int (Int32.ofInt (fm))), (2, .int (Int32.ofInt (tt))), (3, .int (Int32.ofInt (y2_3))), (4, .int (Int32.ofInt (y56_4)))], [.int (Int32.ofInt ((A 44) (y56_4))), .int (Int32.ofInt ((((A 51) ((I 2763))) + y56_4) - fm)), .ref 52], M_56) _
                  refine w_sab (n := 9648) hR_56 rfl rfl (show 0 ≤ (((A 51) ((I 2763))) + y56_4) - fm by omega) (show (((A 51) ((I 2763))) + y56_4) - fm < (9648 : Int) by omega) (by decide) (fun M23 hR24 => ?_)
                  replace hR24 : w_Rep w_TM fr X u l I (w_upF (w_upF A 52 ga56_52) 52 (w_upA ga56_52 ((((A 51) ((I 2763))) + y56_4) - fm) (w_nb ((A 44) (y56_4))))) B C M23 := hR24
                  refine w_inc (nL := 5) (a := y56_4) rfl rfl rfl (by decide) ?_
                  refine w_adv (n := 1) (F' := (56, [(4, .int (Int32.ofInt (y56_4 + 1))), (0, .ref 43), (1, .int (Int32.ofInt (fm))), (2, .int (Int32.ofInt (tt))), (3, .int (Int32.ofInt (y2_3)))], [], M23)) rfl ?_
                  refine w_ls (ls := [(0, .ref 43), (1, .int (Int32.ofInt (fm))), (2, .int (Int32.ofInt (tt))), (3, .int (Int32.ofInt (y2_3))), (4, .int (Int32.ofInt (y56_4 + 1)))]) (show List.Nodup [0, 1, 2, 3, 4] by decide) (show List.Nodup [4, 0, 1, 2, 3] by decide) (List.forall_mem_cons.mpr ⟨(List.Mem.tail _ (List.Mem.head _)), (List.forall_mem_cons.mpr ⟨(List.Mem.tail _ (List.Mem.tail _ (List.Mem.head _))), (List.forall_mem_cons.mpr ⟨(List.Mem.tail _ (List.Mem.tail _ (List.Mem.tail _ (List.Mem.head _)))), (List.forall_mem_cons.mpr ⟨(List.Mem.tail _ (List.Mem.tail _ (List.Mem.tail _ (List.Mem.tail _ (List.Mem.head _))))), (List.forall_mem_cons.mpr ⟨(List.Mem.head _), (fun _ h => by cases h)⟩)⟩)⟩)⟩)⟩) ?_
                  exact ih56  (y56_4 + 1) ((w_upA ga56_52 ((((A 51) ((I 2763))) + y56_4) - fm) (w_nb ((A 44) (y56_4))))) M23 (w_Rep.up hR24 (show I = I from rfl) (show (w_upF A 52 (w_upA ga56_52 ((((A 51) ((I 2763))) + y56_4) - fm) (w_nb ((A 44) (y56_4))))) = (w_upF (w_upF A 52 ga56_52) 52 (w_upA ga56_52 ((((A 51) ((I 2763))) + y56_4) - fm) (w_nb ((A 44) (y56_4))))) from (funext fun s => if e0 : s = 52 then (by subst e0; rfl) else (by simp only [w_upF_ne e0])))) ⟨by omega, by omega⟩ (show fm ≤ y56_4 + 1 ∧ y56_4 + 1 ≤ tt by omega) (show tt - (y56_4 + 1) < (fu56 : Int) by omega)
            refine w_ls (ls := [(0, .ref 43), (1, .int (Int32.ofInt (fm))), (2, .int (Int32.ofInt (tt))), (3, .int (Int32.ofInt (y2_3))), (4, .int (Int32.ofInt (fm)))]) (show List.Nodup [0, 1, 2, 3, 4] by decide) (show List.Nodup [4, 0, 1, 2, 3] by decide) (List.forall_mem_cons.mpr ⟨(List.Mem.tail _ (List.Mem.head _)), (List.forall_mem_cons.mpr ⟨(List.Mem.tail _ (List.Mem.tail _ (List.Mem.head _))), (List.forall_mem_cons.mpr ⟨(List.Mem.tail _ (List.Mem.tail _ (List.Mem.tail _ (List.Mem.head _)))), (List.forall_mem_cons.mpr ⟨(List.Mem.tail _ (List.Mem.tail _ (List.Mem.tail _ (List.Mem.tail _ (List.Mem.head _))))), (List.forall_mem_cons.mpr ⟨(List.Mem.head _), (fun _ h => by cases h)⟩)⟩)⟩)⟩)⟩) ?_
            exact lp56 ((tt - fm).toNat + 1)  (fm) ((A 52)) M (w_Rep.up hR (show I = I from rfl) (show (w_upF A 52 (A 52)) = A from (funext fun s => if e0 : s = 52 then (by subst e0; rfl) else (by simp only [w_upF_ne e0])))) ⟨by omega, by omega⟩ (show fm ≤ fm ∧ fm ≤ tt by omega) (show tt - fm < (((tt - fm).toNat + 1 : Nat) : Int) by omega)
          · have h7 : ¬ (¬ (I 2763) + (I 2760) = 400) := h7
            show w_W _ _ _ (51, [(0, .ref 43), (1, .int (Int32.ofInt (fm))), (2, .int (Int32.ofInt (tt))), (3, .int (Int32.ofInt (y2_3)))], [], M) _
            refine w_adv (n := 1) (F' := (52, [(0, .ref 43), (1, .int (Int32.ofInt (fm))), (2, .int (Int32.ofInt (tt))), (3, .int (Int32.ofInt (y2_3)))], [.int (Int32.ofInt ((-1)))], M)) rfl ?_
            refine w_fin (r := .inl (some ((-1)))) (M' := M) rfl ?_
            first
              | exact Or.inl ⟨(-1), rfl, ⟨by omega, by omega⟩, rfl, (show -1 ≤ (-1) ∧ (-1) < 400 by first | assumption | omega)⟩
              | exact Or.inr (⟨(-1), (A 52), rfl, ⟨by omega, by omega⟩, (w_Rep.up hR (show (w_up I 2763 ((I 2763) + 1)) = I from (funext fun s => if e0 : s = 2763 then (by subst e0; rfl) else (by simp only [w_up_ne e0]))) (show (w_upF (w_upF A 52 (A 52)) 51 (w_upA (A 51) ((I 2763) + 1) ((A 51) ((I 2763)) + tt - fm))) = A from (funext fun s => if e0 : s = 51 then (by subst e0; rfl) else if e1 : s = 52 then (by subst e1; rfl) else (by simp only [w_upF_ne e0, w_upF_ne e1])))), (show 0 ≤ (-1) ∧ (-1) < 400 by first | assumption | omega), (show m_NA (w_up I 2763 ((I 2763) + 1)) (w_upF (w_upF A 52 (A 52)) 51 (w_upA (A 51) ((I 2763) + 1) ((A 51) ((I 2763)) + tt - fm))) by exact m_NA_up (j := (I 2763) + 1) hNA (show 0 ≤ (I 2760) ∧ 0 ≤ (I 2763) ∧ (I 2760) + (I 2763) ≤ 400 by omega) (by first | exact Or.inl ⟨rfl, rfl⟩ | exact Or.inr ⟨rfl, rfl⟩) (show 0 ≤ (A 51 (I 2763)) + tt - fm ∧ (A 51 (I 2763)) + tt - fm ≤ 24 * ((I 2763) + 1) by omega))⟩)
        · have h4 : ¬ (y2_3 ≥ (I 2763)) := h4
          show w_W _ _ _ (34, [(0, .ref 43), (1, .int (Int32.ofInt (fm))), (2, .int (Int32.ofInt (tt))), (3, .int (Int32.ofInt (y2_3)))], [], M) _
          refine w_adv (n := 1) (F' := (35, [(0, .ref 43), (1, .int (Int32.ofInt (fm))), (2, .int (Int32.ofInt (tt))), (3, .int (Int32.ofInt (y2_3)))], [.int (Int32.ofInt (y2_3))], M)) rfl ?_
          refine w_fin (r := .inl (some (y2_3))) (M' := M) rfl ?_
          first
            | exact Or.inl ⟨y2_3, rfl, ⟨by omega, by omega⟩, rfl, (show -1 ≤ y2_3 ∧ y2_3 < 400 by first | assumption | omega)⟩
            | exact Or.inr (⟨y2_3, (A 52), rfl, ⟨by omega, by omega⟩, (w_Rep.up hR (show (w_up I 2763 ((I 2763) + 1)) = I from (funext fun s => if e0 : s = 2763 then (by subst e0; rfl) else (by simp only [w_up_ne e0]))) (show (w_upF (w_upF A 52 (A 52)) 51 (w_upA (A 51) ((I 2763) + 1) ((A 51) ((I 2763)) + tt - fm))) = A from (funext fun s => if e0 : s = 51 then (by subst e0; rfl) else if e1 : s = 52 then (by subst e1; rfl) else (by simp only [w_upF_ne e0, w_upF_ne e1])))), (show 0 ≤ y2_3 ∧ y2_3 < 400 by first | assumption | omega), (show m_NA (w_up I 2763 ((I 2763) + 1)) (w_upF (w_upF A 52 (A 52)) 51 (w_upA (A 51) ((I 2763) + 1) ((A 51) ((I 2763)) + tt - fm))) by exact m_NA_up (j := (I 2763) + 1) hNA (show 0 ≤ (I 2760) ∧ 0 ≤ (I 2763) ∧ (I 2760) + (I 2763) ≤ 400 by omega) (by first | exact Or.inl ⟨rfl, rfl⟩ | exact Or.inr ⟨rfl, rfl⟩) (show 0 ≤ (A 51 (I 2763)) + tt - fm ∧ (A 51 (I 2763)) + tt - fm ≤ 24 * ((I 2763) + 1) by omega))⟩)
      · have h3 : ¬ (y2_3 ≥ (I 2763)) := h3
        show w_W _ _ _ (10, [(0, .ref 43), (1, .int (Int32.ofInt (fm))), (2, .int (Int32.ofInt (tt))), (3, .int (Int32.ofInt (y2_3)))], [], M) _
        refine w_adv (n := 4) (F' := (14, [(0, .ref 43), (1, .int (Int32.ofInt (fm))), (2, .int (Int32.ofInt (tt))), (3, .int (Int32.ofInt (y2_3)))], [.int (Int32.ofInt (tt)), .int (Int32.ofInt (fm)), .int (Int32.ofInt (y2_3)), .ref 43], M)) rfl ?_
        refine w_call (cm := 223) (as := [(0, .ref 43), (1, .int (Int32.ofInt (y2_3))), (2, .int (Int32.ofInt (fm))), (3, .int (Int32.ofInt (tt)))]) (rest := []) (o := some (9, 43)) rfl (w_fitR hR rfl) (m_isName (y2_3) (fm) (tt) hR ⟨by omega, by omega⟩ ⟨by omega, by omega⟩ ⟨by omega, by omega⟩ (show 0 ≤ (I 2753) ∧ (I 2753) ≤ 8192 by first | assumption | omega) (show m_NA I A by first | assumption | omega) (show 0 ≤ fm ∧ fm ≤ tt ∧ tt ≤ (I 2753) ∧ tt - fm ≤ 24 by first | assumption | omega) (show 0 ≤ y2_3 ∧ y2_3 ≤ 400 by first | assumption | omega)) (fun r25 M26 q27 => ?_)
        rcases q27 with ⟨v28, e29, ⟨r30, r31⟩, e32, f33⟩
        rw [e29, e32]
        replace f33 : v28 = 0 ∨ v28 = 1 := f33
        show w_W _ _ _ (17, [(0, .ref 43), (1, .int (Int32.ofInt (fm))), (2, .int (Int32.ofInt (tt))), (3, .int (Int32.ofInt (y2_3)))], [.int (Int32.ofInt (v28))], M) _
        refine w_br1 (a := v28) rfl rfl ⟨by omega, by omega⟩ (fun h34 => ?_) (fun h34 => ?_)
        · have h34 : ¬ v28 = 0 := h34
          show w_W _ _ _ (26, [(0, .ref 43), (1, .int (Int32.ofInt (fm))), (2, .int (Int32.ofInt (tt))), (3, .int (Int32.ofInt (y2_3)))], [], M) _
          refine w_adv (n := 2) (F' := (28, [(0, .ref 43), (1, .int (Int32.ofInt (fm))), (2, .int (Int32.ofInt (tt))), (3, .int (Int32.ofInt (y2_3)))], [.ref 43, .int (Int32.ofInt (y2_3))], M)) rfl ?_
          refine w_gf (v := .int (Int32.ofInt ((I 2763)))) hR rfl rfl rfl rfl ?_
          refine w_br2 (a := y2_3) (b := (I 2763)) rfl rfl ⟨by omega, by omega⟩ ⟨by omega, by omega⟩ (fun h35 => ?_) (fun h35 => ?_)
          · have h35 : y2_3 ≥ (I 2763) := h35
            show w_W _ _ _ (36, [(0, .ref 43), (1, .int (Int32.ofInt (fm))), (2, .int (Int32.ofInt (tt))), (3, .int (Int32.ofInt (y2_3)))], [], M) _
            refine w_adv (n := 1) (F' := (37, [(0, .ref 43), (1, .int (Int32.ofInt (fm))), (2, .int (Int32.ofInt (tt))), (3, .int (Int32.ofInt (y2_3)))], [.ref 43], M)) rfl ?_
            refine w_gf (v := .int (Int32.ofInt ((I 2763)))) hR rfl rfl rfl rfl ?_
            refine w_adv (n := 1) (F' := (41, [(0, .ref 43), (1, .int (Int32.ofInt (fm))), (2, .int (Int32.ofInt (tt))), (3, .int (Int32.ofInt (y2_3)))], [.ref 43, .int (Int32.ofInt ((I 2763)))], M)) rfl ?_
            refine w_gf (v := .int (Int32.ofInt ((I 2760)))) hR rfl rfl rfl rfl ?_
            obtain ⟨r36, r37⟩ : -2147483648 ≤ (I 2760) ∧ (I 2760) ≤ 2147483647 := hR.ri 2760
            refine w_add rfl ?_
            refine w_adv (n := 1) (F' := (48, [(0, .ref 43), (1, .int (Int32.ofInt (fm))), (2, .int (Int32.ofInt (tt))), (3, .int (Int32.ofInt (y2_3)))], [.int (Int32.ofInt (400)), .int (Int32.ofInt ((I 2763) + (I 2760)))], M)) rfl ?_
            refine w_br2 (a := (I 2763) + (I 2760)) (b := 400) rfl rfl ⟨by omega, by omega⟩ ⟨by omega, by omega⟩ (fun h38 => ?_) (fun h38 => ?_)
            · have h38 : ¬ (I 2763) + (I 2760) = 400 := h38
              show w_W _ _ _ (53, [(0, .ref 43), (1, .int (Int32.ofInt (fm))), (2, .int (Int32.ofInt (tt))), (3, .int (Int32.ofInt (y2_3)))], [], M) _
              refine w_adv (n := 2) (F' := (56, [(4, .int (Int32.ofInt (fm))), (0, .ref 43), (1, .int (Int32.ofInt (fm))), (2, .int (Int32.ofInt (tt))), (3, .int (Int32.ofInt (y2_3)))], [], M)) rfl ?_
              have lp56 : ∀ fu56 : Nat, ∀ (y56_4 : Int) (ga56_52 : Int → Int) (M_56 : w_M) (hR_56 : w_Rep w_TM fr X u l I (w_upF A 52 ga56_52) B C M_56), w_in y56_4 → fm ≤ y56_4 ∧ y56_4 ≤ tt → tt - y56_4 < (fu56 : Int) → w_W (z_P L xs) (d + 1) 222 (56, [(0, .ref 43), (1, .int (Int32.ofInt (fm))), (2, .int (Int32.ofInt (tt))), (3, .int (Int32.ofInt (y2_3))), (4, .int (Int32.ofInt (y56_4)))], [], M_56) (m_nameOf_Q fr X u l I A B C M fm tt) := by
                intro fu56
                induction fu56 with
                | zero =>
                  intro y56_4 ga56_52 M_56 hR_56 ⟨ra_y56_4, rb_y56_4⟩ hi56_0 hn56
                  exfalso
                  omega
                | succ fu56 ih56 =>
                  intro y56_4 ga56_52 M_56 hR_56 ⟨ra_y56_4, rb_y56_4⟩ hi56_0 hn56
                  refine w_adv (n := 2) (F' := (59, [(0, .ref 43), (1, .int (Int32.ofInt (fm))), (2, .int (Int32.ofInt (tt))), (3, .int (Int32.ofInt (y2_3))), (4, .int (Int32.ofInt (y56_4)))], [.int (Int32.ofInt (tt)), .int (Int32.ofInt (y56_4))], M_56)) rfl ?_
                  refine w_br2 (a := y56_4) (b := tt) rfl rfl ⟨by omega, by omega⟩ ⟨by omega, by omega⟩ (fun h39 => ?_) (fun h39 => ?_)
                  · have h39 : y56_4 ≥ tt := h39
                    show w_W _ _ _ (94, [(0, .ref 43), (1, .int (Int32.ofInt (fm))), (2, .int (Int32.ofInt (tt))), (3, .int (Int32.ofInt (y2_3))), (4, .int (Int32.ofInt (y56_4)))], [], M_56) _
                    refine w_adv (n := 1) (F' := (95, [(0, .ref 43), (1, .int (Int32.ofInt (fm))), (2, .int (Int32.ofInt (tt))), (3, .int (Int32.ofInt (y2_3))), (4, .int (Int32.ofInt (y56_4)))], [.ref 43], M_56)) rfl ?_
                    refine w_gf (v := .ref 51) hR_56 rfl rfl rfl rfl ?_
                    refine w_adv (n := 1) (F' := (99, [(0, .ref 43), (1, .int (Int32.ofInt (fm))), (2, .int (Int32.ofInt (tt))), (3, .int (Int32.ofInt (y2_3))), (4, .int (Int32.ofInt (y56_4)))], [.ref 43, .ref 51], M_56)) rfl ?_
                    refine w_gf (v := .int (Int32.ofInt ((I 2763)))) hR_56 rfl rfl rfl rfl ?_
                    obtain ⟨r40, r41⟩ : -2147483648 ≤ (I 2763) ∧ (I 2763) ≤ 2147483647 := hR_56.ri 2763
                    refine w_adv (n := 1) (F' := (103, [(0, .ref 43), (1, .int (Int32.ofInt (fm))), (2, .int (Int32.ofInt (tt))), (3, .int (Int32.ofInt (y2_3))), (4, .int (Int32.ofInt (y56_4)))], [.int (Int32.ofInt (1)), .int (Int32.ofInt ((I 2763))), .ref 51], M_56)) rfl ?_
                    refine w_add rfl ?_
                    refine w_adv (n := 1) (F' := (105, [(0, .ref 43), (1, .int (Int32.ofInt (fm))), (2, .int (Int32.ofInt (tt))), (3, .int (Int32.ofInt (y2_3))), (4, .int (Int32.ofInt (y56_4)))], [.ref 43, .int (Int32.ofInt ((I 2763) + 1)), .ref 51], M_56)) rfl ?_
                    refine w_gf (v := .ref 51) hR_56 rfl rfl rfl rfl ?_
                    refine w_adv (n := 1) (F' := (109, [(0, .ref 43), (1, .int (Int32.ofInt (fm))), (2, .int (Int32.ofInt (tt))), (3, .int (Int32.ofInt (y2_3))), (4, .int (Int32.ofInt (y56_4)))], [.ref 43, .ref 51, .int (Int32.ofInt ((I 2763) + 1)), .ref 51], M_56)) rfl ?_
                    refine w_gf (v := .int (Int32.ofInt ((I 2763)))) hR_56 rfl rfl rfl rfl ?_
                    refine w_la (n := 402) hR_56 rfl (Or.inl ⟨rfl, rfl⟩) rfl (show 0 ≤ (I 2763) by omega) (show (I 2763) < (402 : Int) by omega) (by decide) ?_
                    obtain ⟨r42, r43⟩ : -2147483648 ≤ (A 51) ((I 2763)) ∧ (A 51) ((I 2763)) ≤ 2147483647 := hR_56.ra 51 ((I 2763))
                    show w_W _ _ _ (113, [(0, .ref 43), (1, .int (Int32.ofInt (fm))), (2, .int (Int32.ofInt (tt))), (3, .int (Int32.ofInt (y2_3))), (4, .int (Int32.ofInt (y56_4)))], [.int (Int32.ofInt ((A 51) ((I 2763)))), .int (Int32.ofInt ((I 2763) + 1)), .ref 51], M_56) _
                    refine w_adv (n := 1) (F' := (114, [(0, .ref 43), (1, .int (Int32.ofInt (fm))), (2, .int (Int32.ofInt (tt))), (3, .int (Int32.ofInt (y2_3))), (4, .int (Int32.ofInt (y56_4)))], [.int (Int32.ofInt (tt)), .int (Int32.ofInt ((A 51) ((I 2763)))), .int (Int32.ofInt ((I 2763) + 1)), .ref 51], M_56)) rfl ?_
                    refine w_add rfl ?_
                    refine w_adv (n := 1) (F' := (116, [(0, .ref 43), (1, .int (Int32.ofInt (fm))), (2, .int (Int32.ofInt (tt))), (3, .int (Int32.ofInt (y2_3))), (4, .int (Int32.ofInt (y56_4)))], [.int (Int32.ofInt (fm)), .int (Int32.ofInt (((A 51) ((I 2763))) + tt)), .int (Int32.ofInt ((I 2763) + 1)), .ref 51], M_56)) rfl ?_
                    refine w_sub rfl ?_
                    refine w_sai (n := 402) hR_56 rfl rfl (show 0 ≤ (I 2763) + 1 by omega) (show (I 2763) + 1 < (402 : Int) by omega) (by decide) (show w_in ((((A 51) ((I 2763))) + tt) - fm) from ⟨by omega, by omega⟩) (fun M44 hR45 => ?_)
                    replace hR45 : w_Rep w_TM fr X u l I (w_upF (w_upF A 52 ga56_52) 51 (w_upA (A 51) ((I 2763) + 1) ((((A 51) ((I 2763))) + tt) - fm))) B C M44 := hR45
                    refine w_adv (n := 2) (F' := (120, [(0, .ref 43), (1, .int (Int32.ofInt (fm))), (2, .int (Int32.ofInt (tt))), (3, .int (Int32.ofInt (y2_3))), (4, .int (Int32.ofInt (y56_4)))], [.ref 43, .ref 43], M44)) rfl ?_
                    refine w_gf (v := .int (Int32.ofInt ((I 2763)))) hR45 rfl rfl rfl rfl ?_
                    refine w_adv (n := 1) (F' := (124, [(0, .ref 43), (1, .int (Int32.ofInt (fm))), (2, .int (Int32.ofInt (tt))), (3, .int (Int32.ofInt (y2_3))), (4, .int (Int32.ofInt (y56_4)))], [.int (Int32.ofInt (1)), .int (Int32.ofInt ((I 2763))), .ref 43], M44)) rfl ?_
                    refine w_add rfl ?_
                    refine w_pf hR45 rfl rfl rfl rfl (show w_in ((I 2763) + 1) from ⟨by omega, by omega⟩) (fun h => absurd h (by decide)) (fun M46 hR47 => ?_)
                    replace hR47 : w_Rep w_TM fr X u l (w_up I 2763 ((I 2763) + 1)) (w_upF (w_upF A 52 ga56_52) 51 (w_upA (A 51) ((I 2763) + 1) ((((A 51) ((I 2763))) + tt) - fm))) B C M46 := hR47
                    refine w_adv (n := 1) (F' := (129, [(0, .ref 43), (1, .int (Int32.ofInt (fm))), (2, .int (Int32.ofInt (tt))), (3, .int (Int32.ofInt (y2_3))), (4, .int (Int32.ofInt (y56_4)))], [.ref 43], M46)) rfl ?_
                    refine w_gf (v := .int (Int32.ofInt ((I 2763) + 1))) hR47 rfl rfl rfl rfl ?_
                    refine w_adv (n := 1) (F' := (133, [(0, .ref 43), (1, .int (Int32.ofInt (fm))), (2, .int (Int32.ofInt (tt))), (3, .int (Int32.ofInt (y2_3))), (4, .int (Int32.ofInt (y56_4)))], [.int (Int32.ofInt (1)), .int (Int32.ofInt ((I 2763) + 1))], M46)) rfl ?_
                    refine w_sub rfl ?_
                    refine w_fin (r := .inl (some (((I 2763) + 1) - 1))) (M' := M46) rfl ?_
                    exact Or.inr (⟨((I 2763) + 1) - 1, ga56_52, rfl, ⟨by omega, by omega⟩, (w_Rep.up hR47 (show (w_up I 2763 ((I 2763) + 1)) = (w_up I 2763 ((I 2763) + 1)) from rfl) (show (w_upF (w_upF A 52 ga56_52) 51 (w_upA (A 51) ((I 2763) + 1) ((A 51) ((I 2763)) + tt - fm))) = (w_upF (w_upF A 52 ga56_52) 51 (w_upA (A 51) ((I 2763) + 1) ((((A 51) ((I 2763))) + tt) - fm))) from (funext fun s => if e0 : s = 51 then (by subst e0; rfl) else if e1 : s = 52 then (by subst e1; rfl) else (by simp only [w_upF_ne e0, w_upF_ne e1])))), (show 0 ≤ ((I 2763) + 1) - 1 ∧ ((I 2763) + 1) - 1 < 400 by first | assumption | omega), (show m_NA (w_up I 2763 ((I 2763) + 1)) (w_upF (w_upF A 52 ga56_52) 51 (w_upA (A 51) ((I 2763) + 1) ((A 51) ((I 2763)) + tt - fm))) by exact m_NA_up (j := (I 2763) + 1) hNA (show 0 ≤ (I 2760) ∧ 0 ≤ (I 2763) + 1 ∧ (I 2760) + ((I 2763) + 1) ≤ 400 by omega) (by first | exact Or.inl ⟨rfl, rfl⟩ | exact Or.inr ⟨rfl, rfl⟩) (show 0 ≤ (A 51 (I 2763)) + tt - fm ∧ (A 51 (I 2763)) + tt - fm ≤ 24 * ((I 2763) + 1) by omega))⟩)
                  · have h39 : ¬ (y56_4 ≥ tt) := h39
                    show w_W _ _ _ (62, [(0, .ref 43), (1, .int (Int32.ofInt (fm))), (2, .int (Int32.ofInt (tt))), (3, .int (Int32.ofInt (y2_3))), (4, .int (Int32.ofInt (y56_4)))], [], M_56) _
                    refine w_adv (n := 1) (F' := (63, [(0, .ref 43), (1, .int (Int32.ofInt (fm))), (2, .int (Int32.ofInt (tt))), (3, .int (Int32.ofInt (y2_3))), (4, .int (Int32.ofInt (y56_4)))], [.ref 43], M_56)) rfl ?_
                    refine w_gf (v := .ref 52) hR_56 rfl rfl rfl rfl ?_
                    refine w_adv (n := 1) (F' := (67, [(0, .ref 43), (1, .int (Int32.ofInt (fm))), (2, .int (Int32.ofInt (tt))), (3, .int (Int32.ofInt (y2_3))), (4, .int (Int32.ofInt (y56_4)))], [.ref 43, .ref 52], M_56)) rfl ?_
                    refine w_gf (v := .ref 51) hR_56 rfl rfl rfl rfl ?_
                    refine w_adv (n := 1) (F' := (71, [(0, .ref 43), (1, .int (Int32.ofInt (fm))), (2, .int (Int32.ofInt (tt))), (3, .int (Int32.ofInt (y2_3))), (4, .int (Int32.ofInt (y56_4)))], [.ref 43, .ref 51, .ref 52], M_56)) rfl ?_
                    refine w_gf (v := .int (Int32.ofInt ((I 2763)))) hR_56 rfl rfl rfl rfl ?_
                    obtain ⟨r48, r49⟩ : -2147483648 ≤ (I 2763) ∧ (I 2763) ≤ 2147483647 := hR_56.ri 2763
                    refine w_la (n := 402) hR_56 rfl (Or.inl ⟨rfl, rfl⟩) rfl (show 0 ≤ (I 2763) by omega) (show (I 2763) < (402 : Int) by omega) (by decide) ?_
                    obtain ⟨r50, r51⟩ : -2147483648 ≤ (A 51) ((I 2763)) ∧ (A 51) ((I 2763)) ≤ 2147483647 := hR_56.ra 51 ((I 2763))
                    show w_W _ _ _ (75, [(0, .ref 43), (1, .int (Int32.ofInt (fm))), (2, .int (Int32.ofInt (tt))), (3, .int (Int32.ofInt (y2_3))), (4, .int (Int32.ofInt (y56_4)))], [.int (Int32.ofInt ((A 51) ((I 2763)))), .ref 52], M_56) _
                    refine w_adv (n := 1) (F' := (77, [(0, .ref 43), (1, .int (Int32.ofInt (fm))), (2, .int (Int32.ofInt (tt))), (3, .int (Int32.ofInt (y2_3))), (4, .int (Int32.ofInt (y56_4)))], [.int (Int32.ofInt (y56_4)), .int (Int32.ofInt ((A 51) ((I 2763)))), .ref 52], M_56)) rfl ?_
                    refine w_add rfl ?_
                    refine w_adv (n := 1) (F' := (79, [(0, .ref 43), (1, .int (Int32.ofInt (fm))), (2, .int (Int32.ofInt (tt))), (3, .int (Int32.ofInt (y2_3))), (4, .int (Int32.ofInt (y56_4)))], [.int (Int32.ofInt (fm)), .int (Int32.ofInt (((A 51) ((I 2763))) + y56_4)), .ref 52], M_56)) rfl ?_
                    refine w_sub rfl ?_
                    refine w_adv (n := 1) (F' := (81, [(0, .ref 43), (1, .int (Int32.ofInt (fm))), (2, .int (Int32.ofInt (tt))), (3, .int (Int32.ofInt (y2_3))), (4, .int (Int32.ofInt (y56_4)))], [.ref 43, .int (Int32.ofInt ((((A 51) ((I 2763))) + y56_4) - fm)), .ref 52], M_56)) rfl ?_
                    refine w_gf (v := .ref 44) hR_56 rfl rfl rfl rfl ?_
                    refine w_adv (n := 1) (F' := (86, [(0, .ref 43), (1, .int (Int32.ofInt (fm))), (2, .int (Int32.ofInt (tt))), (3, .int (Int32.ofInt (y2_3))), (4, .int (Int32.ofInt (y56_4)))], [.int (Int32.ofInt (y56_4)), .ref 44, .int (Int32.ofInt ((((A 51) ((I 2763))) + y56_4) - fm)), .ref 52], M_56)) rfl ?_
                    refine w_la (n := 8192) hR_56 rfl (Or.inr ⟨rfl, rfl⟩) rfl (show 0 ≤ y56_4 by omega) (show y56_4 < (8192 : Int) by omega) (by decide) ?_
                    obtain ⟨r52, r53⟩ : -2147483648 ≤ (A 44) (y56_4) ∧ (A 44) (y56_4) ≤ 2147483647 := hR_56.ra 44 (y56_4)
                    show w_W _ _ _ (87, [(0, .ref 43), (1, .int (Int32.ofInt (fm))), (2, .int (Int32.ofInt (tt))), (3, .int (Int32.ofInt (y2_3))), (4, .int (Int32.ofInt (y56_4)))], [.int (Int32.ofInt ((A 44) (y56_4))), .int (Int32.ofInt ((((A 51) ((I 2763))) + y56_4) - fm)), .ref 52], M_56) _
                    refine w_sab (n := 9648) hR_56 rfl rfl (show 0 ≤ (((A 51) ((I 2763))) + y56_4) - fm by omega) (show (((A 51) ((I 2763))) + y56_4) - fm < (9648 : Int) by omega) (by decide) (fun M54 hR55 => ?_)
                    replace hR55 : w_Rep w_TM fr X u l I (w_upF (w_upF A 52 ga56_52) 52 (w_upA ga56_52 ((((A 51) ((I 2763))) + y56_4) - fm) (w_nb ((A 44) (y56_4))))) B C M54 := hR55
                    refine w_inc (nL := 5) (a := y56_4) rfl rfl rfl (by decide) ?_
                    refine w_adv (n := 1) (F' := (56, [(4, .int (Int32.ofInt (y56_4 + 1))), (0, .ref 43), (1, .int (Int32.ofInt (fm))), (2, .int (Int32.ofInt (tt))), (3, .int (Int32.ofInt (y2_3)))], [], M54)) rfl ?_
                    refine w_ls (ls := [(0, .ref 43), (1, .int (Int32.ofInt (fm))), (2, .int (Int32.ofInt (tt))), (3, .int (Int32.ofInt (y2_3))), (4, .int (Int32.ofInt (y56_4 + 1)))]) (show List.Nodup [0, 1, 2, 3, 4] by decide) (show List.Nodup [4, 0, 1, 2, 3] by decide) (List.forall_mem_cons.mpr ⟨(List.Mem.tail _ (List.Mem.head _)), (List.forall_mem_cons.mpr ⟨(List.Mem.tail _ (List.Mem.tail _ (List.Mem.head _))), (List.forall_mem_cons.mpr ⟨(List.Mem.tail _ (List.Mem.tail _ (List.Mem.tail _ (List.Mem.head _)))), (List.forall_mem_cons.mpr ⟨(List.Mem.tail _ (List.Mem.tail _ (List.Mem.tail _ (List.Mem.tail _ (List.Mem.head _))))), (List.forall_mem_cons.mpr ⟨(List.Mem.head _), (fun _ h => by cases h)⟩)⟩)⟩)⟩)⟩) ?_
                    exact ih56  (y56_4 + 1) ((w_upA ga56_52 ((((A 51) ((I 2763))) + y56_4) - fm) (w_nb ((A 44) (y56_4))))) M54 (w_Rep.up hR55 (show I = I from rfl) (show (w_upF A 52 (w_upA ga56_52 ((((A 51) ((I 2763))) + y56_4) - fm) (w_nb ((A 44) (y56_4))))) = (w_upF (w_upF A 52 ga56_52) 52 (w_upA ga56_52 ((((A 51) ((I 2763))) + y56_4) - fm) (w_nb ((A 44) (y56_4))))) from (funext fun s => if e0 : s = 52 then (by subst e0; rfl) else (by simp only [w_upF_ne e0])))) ⟨by omega, by omega⟩ (show fm ≤ y56_4 + 1 ∧ y56_4 + 1 ≤ tt by omega) (show tt - (y56_4 + 1) < (fu56 : Int) by omega)
              refine w_ls (ls := [(0, .ref 43), (1, .int (Int32.ofInt (fm))), (2, .int (Int32.ofInt (tt))), (3, .int (Int32.ofInt (y2_3))), (4, .int (Int32.ofInt (fm)))]) (show List.Nodup [0, 1, 2, 3, 4] by decide) (show List.Nodup [4, 0, 1, 2, 3] by decide) (List.forall_mem_cons.mpr ⟨(List.Mem.tail _ (List.Mem.head _)), (List.forall_mem_cons.mpr ⟨(List.Mem.tail _ (List.Mem.tail _ (List.Mem.head _))), (List.forall_mem_cons.mpr ⟨(List.Mem.tail _ (List.Mem.tail _ (List.Mem.tail _ (List.Mem.head _)))), (List.forall_mem_cons.mpr ⟨(List.Mem.tail _ (List.Mem.tail _ (List.Mem.tail _ (List.Mem.tail _ (List.Mem.head _))))), (List.forall_mem_cons.mpr ⟨(List.Mem.head _), (fun _ h => by cases h)⟩)⟩)⟩)⟩)⟩) ?_
              exact lp56 ((tt - fm).toNat + 1)  (fm) ((A 52)) M (w_Rep.up hR (show I = I from rfl) (show (w_upF A 52 (A 52)) = A from (funext fun s => if e0 : s = 52 then (by subst e0; rfl) else (by simp only [w_upF_ne e0])))) ⟨by omega, by omega⟩ (show fm ≤ fm ∧ fm ≤ tt by omega) (show tt - fm < (((tt - fm).toNat + 1 : Nat) : Int) by omega)
            · have h38 : ¬ (¬ (I 2763) + (I 2760) = 400) := h38
              show w_W _ _ _ (51, [(0, .ref 43), (1, .int (Int32.ofInt (fm))), (2, .int (Int32.ofInt (tt))), (3, .int (Int32.ofInt (y2_3)))], [], M) _
              refine w_adv (n := 1) (F' := (52, [(0, .ref 43), (1, .int (Int32.ofInt (fm))), (2, .int (Int32.ofInt (tt))), (3, .int (Int32.ofInt (y2_3)))], [.int (Int32.ofInt ((-1)))], M)) rfl ?_
              refine w_fin (r := .inl (some ((-1)))) (M' := M) rfl ?_
              first
                | exact Or.inl ⟨(-1), rfl, ⟨by omega, by omega⟩, rfl, (show -1 ≤ (-1) ∧ (-1) < 400 by first | assumption | omega)⟩
                | exact Or.inr (⟨(-1), (A 52), rfl, ⟨by omega, by omega⟩, (w_Rep.up hR (show (w_up I 2763 ((I 2763) + 1)) = I from (funext fun s => if e0 : s = 2763 then (by subst e0; rfl) else (by simp only [w_up_ne e0]))) (show (w_upF (w_upF A 52 (A 52)) 51 (w_upA (A 51) ((I 2763) + 1) ((A 51) ((I 2763)) + tt - fm))) = A from (funext fun s => if e0 : s = 51 then (by subst e0; rfl) else if e1 : s = 52 then (by subst e1; rfl) else (by simp only [w_upF_ne e0, w_upF_ne e1])))), (show 0 ≤ (-1) ∧ (-1) < 400 by first | assumption | omega), (show m_NA (w_up I 2763 ((I 2763) + 1)) (w_upF (w_upF A 52 (A 52)) 51 (w_upA (A 51) ((I 2763) + 1) ((A 51) ((I 2763)) + tt - fm))) by exact m_NA_up (j := (I 2763) + 1) hNA (show 0 ≤ (I 2760) ∧ 0 ≤ (I 2763) ∧ (I 2760) + (I 2763) ≤ 400 by omega) (by first | exact Or.inl ⟨rfl, rfl⟩ | exact Or.inr ⟨rfl, rfl⟩) (show 0 ≤ (A 51 (I 2763)) + tt - fm ∧ (A 51 (I 2763)) + tt - fm ≤ 24 * ((I 2763) + 1) by omega))⟩)
          · have h35 : ¬ (y2_3 ≥ (I 2763)) := h35
            show w_W _ _ _ (34, [(0, .ref 43), (1, .int (Int32.ofInt (fm))), (2, .int (Int32.ofInt (tt))), (3, .int (Int32.ofInt (y2_3)))], [], M) _
            refine w_adv (n := 1) (F' := (35, [(0, .ref 43), (1, .int (Int32.ofInt (fm))), (2, .int (Int32.ofInt (tt))), (3, .int (Int32.ofInt (y2_3)))], [.int (Int32.ofInt (y2_3))], M)) rfl ?_
            refine w_fin (r := .inl (some (y2_3))) (M' := M) rfl ?_
            first
              | exact Or.inl ⟨y2_3, rfl, ⟨by omega, by omega⟩, rfl, (show -1 ≤ y2_3 ∧ y2_3 < 400 by first | assumption | omega)⟩
              | exact Or.inr (⟨y2_3, (A 52), rfl, ⟨by omega, by omega⟩, (w_Rep.up hR (show (w_up I 2763 ((I 2763) + 1)) = I from (funext fun s => if e0 : s = 2763 then (by subst e0; rfl) else (by simp only [w_up_ne e0]))) (show (w_upF (w_upF A 52 (A 52)) 51 (w_upA (A 51) ((I 2763) + 1) ((A 51) ((I 2763)) + tt - fm))) = A from (funext fun s => if e0 : s = 51 then (by subst e0; rfl) else if e1 : s = 52 then (by subst e1; rfl) else (by simp only [w_upF_ne e0, w_upF_ne e1])))), (show 0 ≤ y2_3 ∧ y2_3 < 400 by first | assumption | omega), (show m_NA (w_up I 2763 ((I 2763) + 1)) (w_upF (w_upF A 52 (A 52)) 51 (w_upA (A 51) ((I 2763) + 1) ((A 51) ((I 2763)) + tt - fm))) by exact m_NA_up (j := (I 2763) + 1) hNA (show 0 ≤ (I 2760) ∧ 0 ≤ (I 2763) ∧ (I 2760) + (I 2763) ≤ 400 by omega) (by first | exact Or.inl ⟨rfl, rfl⟩ | exact Or.inr ⟨rfl, rfl⟩) (show 0 ≤ (A 51 (I 2763)) + tt - fm ∧ (A 51 (I 2763)) + tt - fm ≤ 24 * ((I 2763) + 1) by omega))⟩)
        · have h34 : ¬ (¬ v28 = 0) := h34
          show w_W _ _ _ (20, [(0, .ref 43), (1, .int (Int32.ofInt (fm))), (2, .int (Int32.ofInt (tt))), (3, .int (Int32.ofInt (y2_3)))], [], M) _
          refine w_inc (nL := 5) (a := y2_3) rfl rfl rfl (by decide) ?_
          refine w_adv (n := 1) (F' := (2, [(3, .int (Int32.ofInt (y2_3 + 1))), (0, .ref 43), (1, .int (Int32.ofInt (fm))), (2, .int (Int32.ofInt (tt)))], [], M)) rfl ?_
          refine w_ls (ls := [(0, .ref 43), (1, .int (Int32.ofInt (fm))), (2, .int (Int32.ofInt (tt))), (3, .int (Int32.ofInt (y2_3 + 1)))]) (show List.Nodup [0, 1, 2, 3] by decide) (show List.Nodup [3, 0, 1, 2] by decide) (List.forall_mem_cons.mpr ⟨(List.Mem.tail _ (List.Mem.head _)), (List.forall_mem_cons.mpr ⟨(List.Mem.tail _ (List.Mem.tail _ (List.Mem.head _))), (List.forall_mem_cons.mpr ⟨(List.Mem.tail _ (List.Mem.tail _ (List.Mem.tail _ (List.Mem.head _)))), (List.forall_mem_cons.mpr ⟨(List.Mem.head _), (fun _ h => by cases h)⟩)⟩)⟩)⟩) ?_
          exact ih2  (y2_3 + 1) ⟨by omega, by omega⟩ (show 0 ≤ y2_3 + 1 ∧ y2_3 + 1 ≤ (I 2763) by omega) (show (I 2763) - (y2_3 + 1) < (fu2 : Int) by omega)
  refine w_ls (ls := [(0, .ref 43), (1, .int (Int32.ofInt (fm))), (2, .int (Int32.ofInt (tt))), (3, .int (Int32.ofInt (0)))]) (show List.Nodup [0, 1, 2, 3] by decide) (show List.Nodup [3, 0, 1, 2] by decide) (List.forall_mem_cons.mpr ⟨(List.Mem.tail _ (List.Mem.head _)), (List.forall_mem_cons.mpr ⟨(List.Mem.tail _ (List.Mem.tail _ (List.Mem.head _))), (List.forall_mem_cons.mpr ⟨(List.Mem.tail _ (List.Mem.tail _ (List.Mem.tail _ (List.Mem.head _)))), (List.forall_mem_cons.mpr ⟨(List.Mem.head _), (fun _ h => by cases h)⟩)⟩)⟩)⟩) ?_
  exact lp2 (((I 2763) - 0).toNat + 1)  (0) ⟨by omega, by omega⟩ (show 0 ≤ 0 ∧ 0 ≤ (I 2763) by omega) (show (I 2763) - 0 < ((((I 2763) - 0).toNat + 1 : Nat) : Int) by omega)
def m_atomOf_Q (fr : Nat → Bool) (X : Nat → Option (q_C (Nat → Int32))) (u l : Nat) (I : Nat → Int) (A : Nat → Int → Int) (B C : Nat → Nat) (M : w_M) (fm : Int) (tt : Int) : w_X → w_M → Prop := fun r M' => (∃ v : Int, (r = .inl (some v)) ∧ (w_in v) ∧ (M' = M) ∧ (-1 ≤ v ∧ v < 400)) ∨ (∃ v : Int, ∃ gb : Int → Int, (r = .inl (some v)) ∧ (w_in v) ∧ (w_Rep w_TM fr X u l (w_up I 2760 ((I 2760) + 1)) (w_upF (w_upF A 50 gb) 49 (w_upA (A 49) ((I 2760) + 1) ((A 49) ((I 2760)) + tt - fm))) B C M') ∧ (0 ≤ v ∧ v < 400) ∧ (m_NA (w_up I 2760 ((I 2760) + 1)) (w_upF (w_upF A 50 gb) 49 (w_upA (A 49) ((I 2760) + 1) ((A 49) ((I 2760)) + tt - fm)))))
set_option maxHeartbeats 100000000 in
set_option maxRecDepth 100000 in
theorem m_atomOf {L : Nat} {xs : Nat → Int32} {d : Nat} {fr : Nat → Bool} {X : Nat → Option (q_C (Nat → Int32))} {u l : Nat} {I : Nat → Int} {A : Nat → Int → Int} {B C : Nat → Nat} {M : w_M} (fm : Int) (tt : Int) (hR : w_Rep w_TM fr X u l I A B C M) (hd : 1 ≤ d) (r_fm : w_in fm) (r_tt : w_in tt) (hsz : 0 ≤ (I 2753) ∧ (I 2753) ≤ 8192) (hNA : m_NA I A) (hft : 0 ≤ fm ∧ fm ≤ tt ∧ tt ≤ (I 2753) ∧ tt - fm ≤ 24) : w_W (z_P L xs) d 220 (0, [(0, .ref 43), (1, .int (Int32.ofInt (fm))), (2, .int (Int32.ofInt (tt)))], [], M) (m_atomOf_Q fr X u l I A B C M fm tt) := by
  obtain ⟨ra_fm, rb_fm⟩ := r_fm
  obtain ⟨ra_tt, rb_tt⟩ := r_tt
  obtain ⟨d, rfl⟩ : ∃ d0, d = d0 + 1 := ⟨d - 1, by omega⟩
  obtain ⟨⟨nx1, nx2, nx3⟩, -⟩ := id hNA
  obtain ⟨⟨na1, na2⟩, na3, na4⟩ := hNA.2 (I 2760) (by omega) (by omega)
  refine w_adv (n := 2) (F' := (2, [(3, .int (Int32.ofInt (0))), (0, .ref 43), (1, .int (Int32.ofInt (fm))), (2, .int (Int32.ofInt (tt)))], [], M)) rfl ?_
  have lp2 : ∀ fu2 : Nat, ∀ (y2_3 : Int), w_in y2_3 → 0 ≤ y2_3 ∧ y2_3 ≤ (I 2760) → (I 2760) - y2_3 < (fu2 : Int) → w_W (z_P L xs) (d + 1) 220 (2, [(0, .ref 43), (1, .int (Int32.ofInt (fm))), (2, .int (Int32.ofInt (tt))), (3, .int (Int32.ofInt (y2_3)))], [], M) (m_atomOf_Q fr X u l I A B C M fm tt) := by
    intro fu2
    induction fu2 with
    | zero =>
      intro y2_3 ⟨ra_y2_3, rb_y2_3⟩ hi2_0 hn2
      exfalso
      omega
    | succ fu2 ih2 =>
      intro y2_3 ⟨ra_y2_3, rb_y2_3⟩ hi2_0 hn2
      refine w_adv (n := 2) (F' := (4, [(0, .ref 43), (1, .int (Int32.ofInt (fm))), (2, .int (Int32.ofInt (tt))), (3, .int (Int32.ofInt (y2_3)))], [.ref 43, .int (Int32.ofInt (y2_3))], M)) rfl ?_
      refine w_gf (v := .int (Int32.ofInt ((I 2760)))) hR rfl rfl rfl rfl ?_
      obtain ⟨r1, r2⟩ : -2147483648 ≤ (I 2760) ∧ (I 2760) ≤ 2147483647 := hR.ri 2760
      refine w_br2 (a := y2_3) (b := (I 2760)) rfl rfl ⟨by omega, by omega⟩ ⟨by omega, by omega⟩ (fun h3 => ?_) (fun h3 => ?_)
      · have h3 : y2_3 ≥ (I 2760) := h3
        show w_W _ _ _ (26, [(0, .ref 43), (1, .int (Int32.ofInt (fm))), (2, .int (Int32.ofInt (tt))), (3, .int (Int32.ofInt (y2_3)))], [], M) _
        refine w_adv (n := 2) (F' := (28, [(0, .ref 43), (1, .int (Int32.ofInt (fm))), (2, .int (Int32.ofInt (tt))), (3, .int (Int32.ofInt (y2_3)))], [.ref 43, .int (Int32.ofInt (y2_3))], M)) rfl ?_
        refine w_gf (v := .int (Int32.ofInt ((I 2760)))) hR rfl rfl rfl rfl ?_
        refine w_br2 (a := y2_3) (b := (I 2760)) rfl rfl ⟨by omega, by omega⟩ ⟨by omega, by omega⟩ (fun h4 => ?_) (fun h4 => ?_)
        · have h4 : y2_3 ≥ (I 2760) := h4
          show w_W _ _ _ (36, [(0, .ref 43), (1, .int (Int32.ofInt (fm))), (2, .int (Int32.ofInt (tt))), (3, .int (Int32.ofInt (y2_3)))], [], M) _
          refine w_adv (n := 1) (F' := (37, [(0, .ref 43), (1, .int (Int32.ofInt (fm))), (2, .int (Int32.ofInt (tt))), (3, .int (Int32.ofInt (y2_3)))], [.ref 43], M)) rfl ?_
          refine w_gf (v := .int (Int32.ofInt ((I 2763)))) hR rfl rfl rfl rfl ?_
          obtain ⟨r5, r6⟩ : -2147483648 ≤ (I 2763) ∧ (I 2763) ≤ 2147483647 := hR.ri 2763
          refine w_adv (n := 1) (F' := (41, [(0, .ref 43), (1, .int (Int32.ofInt (fm))), (2, .int (Int32.ofInt (tt))), (3, .int (Int32.ofInt (y2_3)))], [.ref 43, .int (Int32.ofInt ((I 2763)))], M)) rfl ?_
          refine w_gf (v := .int (Int32.ofInt ((I 2760)))) hR rfl rfl rfl rfl ?_
          refine w_add rfl ?_
          refine w_adv (n := 1) (F' := (48, [(0, .ref 43), (1, .int (Int32.ofInt (fm))), (2, .int (Int32.ofInt (tt))), (3, .int (Int32.ofInt (y2_3)))], [.int (Int32.ofInt (400)), .int (Int32.ofInt ((I 2763) + (I 2760)))], M)) rfl ?_
          refine w_br2 (a := (I 2763) + (I 2760)) (b := 400) rfl rfl ⟨by omega, by omega⟩ ⟨by omega, by omega⟩ (fun h7 => ?_) (fun h7 => ?_)
          · have h7 : ¬ (I 2763) + (I 2760) = 400 := h7
            show w_W _ _ _ (53, [(0, .ref 43), (1, .int (Int32.ofInt (fm))), (2, .int (Int32.ofInt (tt))), (3, .int (Int32.ofInt (y2_3)))], [], M) _
            refine w_adv (n := 2) (F' := (56, [(4, .int (Int32.ofInt (fm))), (0, .ref 43), (1, .int (Int32.ofInt (fm))), (2, .int (Int32.ofInt (tt))), (3, .int (Int32.ofInt (y2_3)))], [], M)) rfl ?_
            have lp56 : ∀ fu56 : Nat, ∀ (y56_4 : Int) (ga56_50 : Int → Int) (M_56 : w_M) (hR_56 : w_Rep w_TM fr X u l I (w_upF A 50 ga56_50) B C M_56), w_in y56_4 → fm ≤ y56_4 ∧ y56_4 ≤ tt → tt - y56_4 < (fu56 : Int) → w_W (z_P L xs) (d + 1) 220 (56, [(0, .ref 43), (1, .int (Int32.ofInt (fm))), (2, .int (Int32.ofInt (tt))), (3, .int (Int32.ofInt (y2_3))), (4, .int (Int32.ofInt (y56_4)))], [], M_56) (m_atomOf_Q fr X u l I A B C M fm tt) := by
              intro fu56
              induction fu56 with
              | zero =>
                intro y56_4 ga56_50 M_56 hR_56 ⟨ra_y56_4, rb_y56_4⟩ hi56_0 hn56
                exfalso
                omega
              | succ fu56 ih56 =>
                intro y56_4 ga56_50 M_56 hR_56 ⟨ra_y56_4, rb_y56_4⟩ hi56_0 hn56
                refine w_adv (n := 2) (F' := (59, [(0, .ref 43), (1, .int (Int32.ofInt (fm))), (2, .int (Int32.ofInt (tt))), (3, .int (Int32.ofInt (y2_3))), (4, .int (Int32.ofInt (y56_4)))], [.int (Int32.ofInt (tt)), .int (Int32.ofInt (y56_4))], M_56)) rfl ?_
                refine w_br2 (a := y56_4) (b := tt) rfl rfl ⟨by omega, by omega⟩ ⟨by omega, by omega⟩ (fun h8 => ?_) (fun h8 => ?_)
                · have h8 : y56_4 ≥ tt := h8
                  show w_W _ _ _ (94, [(0, .ref 43), (1, .int (Int32.ofInt (fm))), (2, .int (Int32.ofInt (tt))), (3, .int (Int32.ofInt (y2_3))), (4, .int (Int32.ofInt (y56_4)))], [], M_56) _
                  refine w_adv (n := 1) (F' := (95, [(0, .ref 43), (1, .int (Int32.ofInt (fm))), (2, .int (Int32.ofInt (tt))), (3, .int (Int32.ofInt (y2_3))), (4, .int (Int32.ofInt (y56_4)))], [.ref 43], M_56)) rfl ?_
                  refine w_gf (v := .ref 49) hR_56 rfl rfl rfl rfl ?_
                  refine w_adv (n := 1) (F' := (99, [(0, .ref 43), (1, .int (Int32.ofInt (fm))), (2, .int (Int32.ofInt (tt))), (3, .int (Int32.ofInt (y2_3))), (4, .int (Int32.ofInt (y56_4)))], [.ref 43, .ref 49], M_56)) rfl ?_
                  refine w_gf (v := .int (Int32.ofInt ((I 2760)))) hR_56 rfl rfl rfl rfl ?_
                  obtain ⟨r9, r10⟩ : -2147483648 ≤ (I 2760) ∧ (I 2760) ≤ 2147483647 := hR_56.ri 2760
                  refine w_adv (n := 1) (F' := (103, [(0, .ref 43), (1, .int (Int32.ofInt (fm))), (2, .int (Int32.ofInt (tt))), (3, .int (Int32.ofInt (y2_3))), (4, .int (Int32.ofInt (y56_4)))], [.int (Int32.ofInt (1)), .int (Int32.ofInt ((I 2760))), .ref 49], M_56)) rfl ?_
                  refine w_add rfl ?_
                  refine w_adv (n := 1) (F' := (105, [(0, .ref 43), (1, .int (Int32.ofInt (fm))), (2, .int (Int32.ofInt (tt))), (3, .int (Int32.ofInt (y2_3))), (4, .int (Int32.ofInt (y56_4)))], [.ref 43, .int (Int32.ofInt ((I 2760) + 1)), .ref 49], M_56)) rfl ?_
                  refine w_gf (v := .ref 49) hR_56 rfl rfl rfl rfl ?_
                  refine w_adv (n := 1) (F' := (109, [(0, .ref 43), (1, .int (Int32.ofInt (fm))), (2, .int (Int32.ofInt (tt))), (3, .int (Int32.ofInt (y2_3))), (4, .int (Int32.ofInt (y56_4)))], [.ref 43, .ref 49, .int (Int32.ofInt ((I 2760) + 1)), .ref 49], M_56)) rfl ?_
                  refine w_gf (v := .int (Int32.ofInt ((I 2760)))) hR_56 rfl rfl rfl rfl ?_
                  refine w_la (n := 402) hR_56 rfl (Or.inl ⟨rfl, rfl⟩) rfl (show 0 ≤ (I 2760) by omega) (show (I 2760) < (402 : Int) by omega) (by decide) ?_
                  obtain ⟨r11, r12⟩ : -2147483648 ≤ (A 49) ((I 2760)) ∧ (A 49) ((I 2760)) ≤ 2147483647 := hR_56.ra 49 ((I 2760))
                  show w_W _ _ _ (113, [(0, .ref 43), (1, .int (Int32.ofInt (fm))), (2, .int (Int32.ofInt (tt))), (3, .int (Int32.ofInt (y2_3))), (4, .int (Int32.ofInt (y56_4)))], [.int (Int32.ofInt ((A 49) ((I 2760)))), .int (Int32.ofInt ((I 2760) + 1)), .ref 49], M_56) _
                  refine w_adv (n := 1) (F' := (114, [(0, .ref 43), (1, .int (Int32.ofInt (fm))), (2, .int (Int32.ofInt (tt))), (3, .int (Int32.ofInt (y2_3))), (4, .int (Int32.ofInt (y56_4)))], [.int (Int32.ofInt (tt)), .int (Int32.ofInt ((A 49) ((I 2760)))), .int (Int32.ofInt ((I 2760) + 1)), .ref 49], M_56)) rfl ?_
                  refine w_add rfl ?_
                  refine w_adv (n := 1) (F' := (116, [(0, .ref 43), (1, .int (Int32.ofInt (fm))), (2, .int (Int32.ofInt (tt))), (3, .int (Int32.ofInt (y2_3))), (4, .int (Int32.ofInt (y56_4)))], [.int (Int32.ofInt (fm)), .int (Int32.ofInt (((A 49) ((I 2760))) + tt)), .int (Int32.ofInt ((I 2760) + 1)), .ref 49], M_56)) rfl ?_
                  refine w_sub rfl ?_
                  refine w_sai (n := 402) hR_56 rfl rfl (show 0 ≤ (I 2760) + 1 by omega) (show (I 2760) + 1 < (402 : Int) by omega) (by decide) (show w_in ((((A 49) ((I 2760))) + tt) - fm) from ⟨by omega, by omega⟩) (fun M13 hR14 => ?_)
                  replace hR14 : w_Rep w_TM fr X u l I (w_upF (w_upF A 50 ga56_50) 49 (w_upA (A 49) ((I 2760) + 1) ((((A 49) ((I 2760))) + tt) - fm))) B C M13 := hR14
                  refine w_adv (n := 2) (F' := (120, [(0, .ref 43), (1, .int (Int32.ofInt (fm))), (2, .int (Int32.ofInt (tt))), (3, .int (Int32.ofInt (y2_3))), (4, .int (Int32.ofInt (y56_4)))], [.ref 43, .ref 43], M13)) rfl ?_
                  refine w_gf (v := .int (Int32.ofInt ((I 2760)))) hR14 rfl rfl rfl rfl ?_
                  refine w_adv (n := 1) (F' := (124, [(0, .ref 43), (1, .int (Int32.ofInt (fm))), (2, .int (Int32.ofInt (tt))), (3, .int (Int32.ofInt (y2_3))), (4, .int (Int32.ofInt (y56_4)))], [.int (Int32.ofInt (1)), .int (Int32.ofInt ((I 2760))), .ref 43], M13)) rfl ?_
                  refine w_add rfl ?_
                  refine w_pf hR14 rfl rfl rfl rfl (show w_in ((I 2760) + 1) from ⟨by omega, by omega⟩) (fun h => absurd h (by decide)) (fun M15 hR16 => ?_)
                  replace hR16 : w_Rep w_TM fr X u l (w_up I 2760 ((I 2760) + 1)) (w_upF (w_upF A 50 ga56_50) 49 (w_upA (A 49) ((I 2760) + 1) ((((A 49) ((I 2760))) + tt) - fm))) B C M15 := hR16
                  refine w_adv (n := 1) (F' := (129, [(0, .ref 43), (1, .int (Int32.ofInt (fm))), (2, .int (Int32.ofInt (tt))), (3, .int (Int32.ofInt (y2_3))), (4, .int (Int32.ofInt (y56_4)))], [.ref 43], M15)) rfl ?_
                  refine w_gf (v := .int (Int32.ofInt ((I 2760) + 1))) hR16 rfl rfl rfl rfl ?_
                  refine w_adv (n := 1) (F' := (133, [(0, .ref 43), (1, .int (Int32.ofInt (fm))), (2, .int (Int32.ofInt (tt))), (3, .int (Int32.ofInt (y2_3))), (4, .int (Int32.ofInt (y56_4)))], [.int (Int32.ofInt (1)), .int (Int32.ofInt ((I 2760) + 1))], M15)) rfl ?_
                  refine w_sub rfl ?_
                  refine w_fin (r := .inl (some (((I 2760) + 1) - 1))) (M' := M15) rfl ?_
                  exact Or.inr (⟨((I 2760) + 1) - 1, ga56_50, rfl, ⟨by omega, by omega⟩, (w_Rep.up hR16 (show (w_up I 2760 ((I 2760) + 1)) = (w_up I 2760 ((I 2760) + 1)) from rfl) (show (w_upF (w_upF A 50 ga56_50) 49 (w_upA (A 49) ((I 2760) + 1) ((A 49) ((I 2760)) + tt - fm))) = (w_upF (w_upF A 50 ga56_50) 49 (w_upA (A 49) ((I 2760) + 1) ((((A 49) ((I 2760))) + tt) - fm))) from (funext fun s => if e0 : s = 49 then (by subst e0; rfl) else if e1 : s = 50 then (by subst e1; rfl) else (by simp only [w_upF_ne e0, w_upF_ne e1])))), (show 0 ≤ ((I 2760) + 1) - 1 ∧ ((I 2760) + 1) - 1 < 400 by first | assumption | omega), (show m_NA (w_up I 2760 ((I 2760) + 1)) (w_upF (w_upF A 50 ga56_50) 49 (w_upA (A 49) ((I 2760) + 1) ((A 49) ((I 2760)) + tt - fm))) by exact m_NA_up (j := (I 2760) + 1) hNA (show 0 ≤ (I 2760) + 1 ∧ 0 ≤ (I 2763) ∧ ((I 2760) + 1) + (I 2763) ≤ 400 by omega) (by first | exact Or.inl ⟨rfl, rfl⟩ | exact Or.inr ⟨rfl, rfl⟩) (show 0 ≤ (A 49 (I 2760)) + tt - fm ∧ (A 49 (I 2760)) + tt - fm ≤ 24 * ((I 2760) + 1) by omega))⟩)
                · have h8 : ¬ (y56_4 ≥ tt) := h8
                  show w_W _ _ _ (62, [(0, .ref 43), (1, .int (Int32.ofInt (fm))), (2, .int (Int32.ofInt (tt))), (3, .int (Int32.ofInt (y2_3))), (4, .int (Int32.ofInt (y56_4)))], [], M_56) _
                  refine w_adv (n := 1) (F' := (63, [(0, .ref 43), (1, .int (Int32.ofInt (fm))), (2, .int (Int32.ofInt (tt))), (3, .int (Int32.ofInt (y2_3))), (4, .int (Int32.ofInt (y56_4)))], [.ref 43], M_56)) rfl ?_
                  refine w_gf (v := .ref 50) hR_56 rfl rfl rfl rfl ?_
                  refine w_adv (n := 1) (F' := (67, [(0, .ref 43), (1, .int (Int32.ofInt (fm))), (2, .int (Int32.ofInt (tt))), (3, .int (Int32.ofInt (y2_3))), (4, .int (Int32.ofInt (y56_4)))], [.ref 43, .ref 50], M_56)) rfl ?_
                  refine w_gf (v := .ref 49) hR_56 rfl rfl rfl rfl ?_
                  refine w_adv (n := 1) (F' := (71, [(0, .ref 43), (1, .int (Int32.ofInt (fm))), (2, .int (Int32.ofInt (tt))), (3, .int (Int32.ofInt (y2_3))), (4, .int (Int32.ofInt (y56_4)))], [.ref 43, .ref 49, .ref 50], M_56)) rfl ?_
                  refine w_gf (v := .int (Int32.ofInt ((I 2760)))) hR_56 rfl rfl rfl rfl ?_
                  obtain ⟨r17, r18⟩ : -2147483648 ≤ (I 2760) ∧ (I 2760) ≤ 2147483647 := hR_56.ri 2760
                  refine w_la (n := 402) hR_56 rfl (Or.inl ⟨rfl, rfl⟩) rfl (show 0 ≤ (I 2760) by omega) (show (I 2760) < (402 : Int) by omega) (by decide) ?_
                  obtain ⟨r19, r20⟩ : -2147483648 ≤ (A 49) ((I 2760)) ∧ (A 49) ((I 2760)) ≤ 2147483647 := hR_56.ra 49 ((I 2760))
                  show w_W _ _ _ (75, [(0, .ref 43), (1, .int (Int32.ofInt (fm))), (2, .int (Int32.ofInt (tt))), (3, .int (Int32.ofInt (y2_3))), (4, .int (Int32.ofInt (y56_4)))], [.int (Int32.ofInt ((A 49) ((I 2760)))), .ref 50], M_56) _
                  refine w_adv (n := 1) (F' := (77, [(0, .ref 43), (1, .int (Int32.ofInt (fm))), (2, .int (Int32.ofInt (tt))), (3, .int (Int32.ofInt (y2_3))), (4, .int (Int32.ofInt (y56_4)))], [.int (Int32.ofInt (y56_4)), .int (Int32.ofInt ((A 49) ((I 2760)))), .ref 50], M_56)) rfl ?_
                  refine w_add rfl ?_
                  refine w_adv (n := 1) (F' := (79, [(0, .ref 43), (1, .int (Int32.ofInt (fm))), (2, .int (Int32.ofInt (tt))), (3, .int (Int32.ofInt (y2_3))), (4, .int (Int32.ofInt (y56_4)))], [.int (Int32.ofInt (fm)), .int (Int32.ofInt (((A 49) ((I 2760))) + y56_4)), .ref 50], M_56)) rfl ?_
                  refine w_sub rfl ?_
                  refine w_adv (n := 1) (F' := (81, [(0, .ref 43), (1, .int (Int32.ofInt (fm))), (2, .int (Int32.ofInt (tt))), (3, .int (Int32.ofInt (y2_3))), (4, .int (Int32.ofInt (y56_4)))], [.ref 43, .int (Int32.ofInt ((((A 49) ((I 2760))) + y56_4) - fm)), .ref 50], M_56)) rfl ?_
                  refine w_gf (v := .ref 44) hR_56 rfl rfl rfl rfl ?_
                  refine w_adv (n := 1) (F' := (86, [(0, .ref 43), (1, .int (Int32.ofInt (fm))), (2, .int (Int32.ofInt (tt))), (3, .int (Int32.ofInt (y2_3))), (4, .int (Int32.ofInt (y56_4)))], [.int (Int32.ofInt (y56_4)), .ref 44, .int (Int32.ofInt ((((A 49) ((I 2760))) + y56_4) - fm)), .ref 50], M_56)) rfl ?_
                  refine w_la (n := 8192) hR_56 rfl (Or.inr ⟨rfl, rfl⟩) rfl (show 0 ≤ y56_4 by omega) (show y56_4 < (8192 : Int) by omega) (by decide) ?_
                  obtain ⟨r21, r22⟩ : -2147483648 ≤ (A 44) (y56_4) ∧ (A 44) (y56_4) ≤ 2147483647 := hR_56.ra 44 (y56_4)
                  show w_W _ _ _ (87, [(0, .ref 43), (1, .int (Int32.ofInt (fm))), (2, .int (Int32.ofInt (tt))), (3, .int (Int32.ofInt (y2_3))), (4, .int (Int32.ofInt (y56_4)))], [.int (Int32.ofInt ((A 44) (y56_4))), .int (Int32.ofInt ((((A 49) ((I 2760))) + y56_4) - fm)), .ref 50], M_56) _
                  refine w_sab (n := 9648) hR_56 rfl rfl (show 0 ≤ (((A 49) ((I 2760))) + y56_4) - fm by omega) (show (((A 49) ((I 2760))) + y56_4) - fm < (9648 : Int) by omega) (by decide) (fun M23 hR24 => ?_)
                  replace hR24 : w_Rep w_TM fr X u l I (w_upF (w_upF A 50 ga56_50) 50 (w_upA ga56_50 ((((A 49) ((I 2760))) + y56_4) - fm) (w_nb ((A 44) (y56_4))))) B C M23 := hR24
                  refine w_inc (nL := 5) (a := y56_4) rfl rfl rfl (by decide) ?_
                  refine w_adv (n := 1) (F' := (56, [(4, .int (Int32.ofInt (y56_4 + 1))), (0, .ref 43), (1, .int (Int32.ofInt (fm))), (2, .int (Int32.ofInt (tt))), (3, .int (Int32.ofInt (y2_3)))], [], M23)) rfl ?_
                  refine w_ls (ls := [(0, .ref 43), (1, .int (Int32.ofInt (fm))), (2, .int (Int32.ofInt (tt))), (3, .int (Int32.ofInt (y2_3))), (4, .int (Int32.ofInt (y56_4 + 1)))]) (show List.Nodup [0, 1, 2, 3, 4] by decide) (show List.Nodup [4, 0, 1, 2, 3] by decide) (List.forall_mem_cons.mpr ⟨(List.Mem.tail _ (List.Mem.head _)), (List.forall_mem_cons.mpr ⟨(List.Mem.tail _ (List.Mem.tail _ (List.Mem.head _))), (List.forall_mem_cons.mpr ⟨(List.Mem.tail _ (List.Mem.tail _ (List.Mem.tail _ (List.Mem.head _)))), (List.forall_mem_cons.mpr ⟨(List.Mem.tail _ (List.Mem.tail _ (List.Mem.tail _ (List.Mem.tail _ (List.Mem.head _))))), (List.forall_mem_cons.mpr ⟨(List.Mem.head _), (fun _ h => by cases h)⟩)⟩)⟩)⟩)⟩) ?_
                  exact ih56  (y56_4 + 1) ((w_upA ga56_50 ((((A 49) ((I 2760))) + y56_4) - fm) (w_nb ((A 44) (y56_4))))) M23 (w_Rep.up hR24 (show I = I from rfl) (show (w_upF A 50 (w_upA ga56_50 ((((A 49) ((I 2760))) + y56_4) - fm) (w_nb ((A 44) (y56_4))))) = (w_upF (w_upF A 50 ga56_50) 50 (w_upA ga56_50 ((((A 49) ((I 2760))) + y56_4) - fm) (w_nb ((A 44) (y56_4))))) from (funext fun s => if e0 : s = 50 then (by subst e0; rfl) else (by simp only [w_upF_ne e0])))) ⟨by omega, by omega⟩ (show fm ≤ y56_4 + 1 ∧ y56_4 + 1 ≤ tt by omega) (show tt - (y56_4 + 1) < (fu56 : Int) by omega)
            refine w_ls (ls := [(0, .ref 43), (1, .int (Int32.ofInt (fm))), (2, .int (Int32.ofInt (tt))), (3, .int (Int32.ofInt (y2_3))), (4, .int (Int32.ofInt (fm)))]) (show List.Nodup [0, 1, 2, 3, 4] by decide) (show List.Nodup [4, 0, 1, 2, 3] by decide) (List.forall_mem_cons.mpr ⟨(List.Mem.tail _ (List.Mem.head _)), (List.forall_mem_cons.mpr ⟨(List.Mem.tail _ (List.Mem.tail _ (List.Mem.head _))), (List.forall_mem_cons.mpr ⟨(List.Mem.tail _ (List.Mem.tail _ (List.Mem.tail _ (List.Mem.head _)))), (List.forall_mem_cons.mpr ⟨(List.Mem.tail _ (List.Mem.tail _ (List.Mem.tail _ (List.Mem.tail _ (List.Mem.head _))))), (List.forall_mem_cons.mpr ⟨(List.Mem.head _), (fun _ h => by cases h)⟩)⟩)⟩)⟩)⟩) ?_
            exact lp56 ((tt - fm).toNat + 1)  (fm) ((A 50)) M (w_Rep.up hR (show I = I from rfl) (show (w_upF A 50 (A 50)) = A from (funext fun s => if e0 : s = 50 then (by subst e0; rfl) else (by simp only [w_upF_ne e0])))) ⟨by omega, by omega⟩ (show fm ≤ fm ∧ fm ≤ tt by omega) (show tt - fm < (((tt - fm).toNat + 1 : Nat) : Int) by omega)
          · have h7 : ¬ (¬ (I 2763) + (I 2760) = 400) := h7
            show w_W _ _ _ (51, [(0, .ref 43), (1, .int (Int32.ofInt (fm))), (2, .int (Int32.ofInt (tt))), (3, .int (Int32.ofInt (y2_3)))], [], M) _
            refine w_adv (n := 1) (F' := (52, [(0, .ref 43), (1, .int (Int32.ofInt (fm))), (2, .int (Int32.ofInt (tt))), (3, .int (Int32.ofInt (y2_3)))], [.int (Int32.ofInt ((-1)))], M)) rfl ?_
            refine w_fin (r := .inl (some ((-1)))) (M' := M) rfl ?_
            first
              | exact Or.inl ⟨(-1), rfl, ⟨by omega, by omega⟩, rfl, (show -1 ≤ (-1) ∧ (-1) < 400 by first | assumption | omega)⟩
              | exact Or.inr (⟨(-1), (A 50), rfl, ⟨by omega, by omega⟩, (w_Rep.up hR (show (w_up I 2760 ((I 2760) + 1)) = I from (funext fun s => if e0 : s = 2760 then (by subst e0; rfl) else (by simp only [w_up_ne e0]))) (show (w_upF (w_upF A 50 (A 50)) 49 (w_upA (A 49) ((I 2760) + 1) ((A 49) ((I 2760)) + tt - fm))) = A from (funext fun s => if e0 : s = 49 then (by subst e0; rfl) else if e1 : s = 50 then (by subst e1; rfl) else (by simp only [w_upF_ne e0, w_upF_ne e1])))), (show 0 ≤ (-1) ∧ (-1) < 400 by first | assumption | omega), (show m_NA (w_up I 2760 ((I 2760) + 1)) (w_upF (w_upF A 50 (A 50)) 49 (w_upA (A 49) ((I 2760) + 1) ((A 49) ((I 2760)) + tt - fm))) by exact m_NA_up (j := (I 2760) + 1) hNA (show 0 ≤ (I 2760) ∧ 0 ≤ (I 2763) ∧ (I 2760) + (I 2763) ≤ 400 by omega) (by first | exact Or.inl ⟨rfl, rfl⟩ | exact Or.inr ⟨rfl, rfl⟩) (show 0 ≤ (A 49 (I 2760)) + tt - fm ∧ (A 49 (I 2760)) + tt - fm ≤ 24 * ((I 2760) + 1) by omega))⟩)
        · have h4 : ¬ (y2_3 ≥ (I 2760)) := h4
          show w_W _ _ _ (34, [(0, .ref 43), (1, .int (Int32.ofInt (fm))), (2, .int (Int32.ofInt (tt))), (3, .int (Int32.ofInt (y2_3)))], [], M) _
          refine w_adv (n := 1) (F' := (35, [(0, .ref 43), (1, .int (Int32.ofInt (fm))), (2, .int (Int32.ofInt (tt))), (3, .int (Int32.ofInt (y2_3)))], [.int (Int32.ofInt (y2_3))], M)) rfl ?_
          refine w_fin (r := .inl (some (y2_3))) (M' := M) rfl ?_
          first
            | exact Or.inl ⟨y2_3, rfl, ⟨by omega, by omega⟩, rfl, (show -1 ≤ y2_3 ∧ y2_3 < 400 by first | assumption | omega)⟩
            | exact Or.inr (⟨y2_3, (A 50), rfl, ⟨by omega, by omega⟩, (w_Rep.up hR (show (w_up I 2760 ((I 2760) + 1)) = I from (funext fun s => if e0 : s = 2760 then (by subst e0; rfl) else (by simp only [w_up_ne e0]))) (show (w_upF (w_upF A 50 (A 50)) 49 (w_upA (A 49) ((I 2760) + 1) ((A 49) ((I 2760)) + tt - fm))) = A from (funext fun s => if e0 : s = 49 then (by subst e0; rfl) else if e1 : s = 50 then (by subst e1; rfl) else (by simp only [w_upF_ne e0, w_upF_ne e1])))), (show 0 ≤ y2_3 ∧ y2_3 < 400 by first | assumption | omega), (show m_NA (w_up I 2760 ((I 2760) + 1)) (w_upF (w_upF A 50 (A 50)) 49 (w_upA (A 49) ((I 2760) + 1) ((A 49) ((I 2760)) + tt - fm))) by exact m_NA_up (j := (I 2760) + 1) hNA (show 0 ≤ (I 2760) ∧ 0 ≤ (I 2763) ∧ (I 2760) + (I 2763) ≤ 400 by omega) (by first | exact Or.inl ⟨rfl, rfl⟩ | exact Or.inr ⟨rfl, rfl⟩) (show 0 ≤ (A 49 (I 2760)) + tt - fm ∧ (A 49 (I 2760)) + tt - fm ≤ 24 * ((I 2760) + 1) by omega))⟩)
      · have h3 : ¬ (y2_3 ≥ (I 2760)) := h3
        show w_W _ _ _ (10, [(0, .ref 43), (1, .int (Int32.ofInt (fm))), (2, .int (Int32.ofInt (tt))), (3, .int (Int32.ofInt (y2_3)))], [], M) _
        refine w_adv (n := 4) (F' := (14, [(0, .ref 43), (1, .int (Int32.ofInt (fm))), (2, .int (Int32.ofInt (tt))), (3, .int (Int32.ofInt (y2_3)))], [.int (Int32.ofInt (tt)), .int (Int32.ofInt (fm)), .int (Int32.ofInt (y2_3)), .ref 43], M)) rfl ?_
        refine w_call (cm := 221) (as := [(0, .ref 43), (1, .int (Int32.ofInt (y2_3))), (2, .int (Int32.ofInt (fm))), (3, .int (Int32.ofInt (tt)))]) (rest := []) (o := some (9, 43)) rfl (w_fitR hR rfl) (m_isAtom (y2_3) (fm) (tt) hR ⟨by omega, by omega⟩ ⟨by omega, by omega⟩ ⟨by omega, by omega⟩ (show 0 ≤ (I 2753) ∧ (I 2753) ≤ 8192 by first | assumption | omega) (show m_NA I A by first | assumption | omega) (show 0 ≤ fm ∧ fm ≤ tt ∧ tt ≤ (I 2753) ∧ tt - fm ≤ 24 by first | assumption | omega) (show 0 ≤ y2_3 ∧ y2_3 ≤ 400 by first | assumption | omega)) (fun r25 M26 q27 => ?_)
        rcases q27 with ⟨v28, e29, ⟨r30, r31⟩, e32, f33⟩
        rw [e29, e32]
        replace f33 : v28 = 0 ∨ v28 = 1 := f33
        show w_W _ _ _ (17, [(0, .ref 43), (1, .int (Int32.ofInt (fm))), (2, .int (Int32.ofInt (tt))), (3, .int (Int32.ofInt (y2_3)))], [.int (Int32.ofInt (v28))], M) _
        refine w_br1 (a := v28) rfl rfl ⟨by omega, by omega⟩ (fun h34 => ?_) (fun h34 => ?_)
        · have h34 : ¬ v28 = 0 := h34
          show w_W _ _ _ (26, [(0, .ref 43), (1, .int (Int32.ofInt (fm))), (2, .int (Int32.ofInt (tt))), (3, .int (Int32.ofInt (y2_3)))], [], M) _
          refine w_adv (n := 2) (F' := (28, [(0, .ref 43), (1, .int (Int32.ofInt (fm))), (2, .int (Int32.ofInt (tt))), (3, .int (Int32.ofInt (y2_3)))], [.ref 43, .int (Int32.ofInt (y2_3))], M)) rfl ?_
          refine w_gf (v := .int (Int32.ofInt ((I 2760)))) hR rfl rfl rfl rfl ?_
          refine w_br2 (a := y2_3) (b := (I 2760)) rfl rfl ⟨by omega, by omega⟩ ⟨by omega, by omega⟩ (fun h35 => ?_) (fun h35 => ?_)
          · have h35 : y2_3 ≥ (I 2760) := h35
            show w_W _ _ _ (36, [(0, .ref 43), (1, .int (Int32.ofInt (fm))), (2, .int (Int32.ofInt (tt))), (3, .int (Int32.ofInt (y2_3)))], [], M) _
            refine w_adv (n := 1) (F' := (37, [(0, .ref 43), (1, .int (Int32.ofInt (fm))), (2, .int (Int32.ofInt (tt))), (3, .int (Int32.ofInt (y2_3)))], [.ref 43], M)) rfl ?_
            refine w_gf (v := .int (Int32.ofInt ((I 2763)))) hR rfl rfl rfl rfl ?_
            obtain ⟨r36, r37⟩ : -2147483648 ≤ (I 2763) ∧ (I 2763) ≤ 2147483647 := hR.ri 2763
            refine w_adv (n := 1) (F' := (41, [(0, .ref 43), (1, .int (Int32.ofInt (fm))), (2, .int (Int32.ofInt (tt))), (3, .int (Int32.ofInt (y2_3)))], [.ref 43, .int (Int32.ofInt ((I 2763)))], M)) rfl ?_
            refine w_gf (v := .int (Int32.ofInt ((I 2760)))) hR rfl rfl rfl rfl ?_
            refine w_add rfl ?_
            refine w_adv (n := 1) (F' := (48, [(0, .ref 43), (1, .int (Int32.ofInt (fm))), (2, .int (Int32.ofInt (tt))), (3, .int (Int32.ofInt (y2_3)))], [.int (Int32.ofInt (400)), .int (Int32.ofInt ((I 2763) + (I 2760)))], M)) rfl ?_
            refine w_br2 (a := (I 2763) + (I 2760)) (b := 400) rfl rfl ⟨by omega, by omega⟩ ⟨by omega, by omega⟩ (fun h38 => ?_) (fun h38 => ?_)
            · have h38 : ¬ (I 2763) + (I 2760) = 400 := h38
              show w_W _ _ _ (53, [(0, .ref 43), (1, .int (Int32.ofInt (fm))), (2, .int (Int32.ofInt (tt))), (3, .int (Int32.ofInt (y2_3)))], [], M) _
              refine w_adv (n := 2) (F' := (56, [(4, .int (Int32.ofInt (fm))), (0, .ref 43), (1, .int (Int32.ofInt (fm))), (2, .int (Int32.ofInt (tt))), (3, .int (Int32.ofInt (y2_3)))], [], M)) rfl ?_
              have lp56 : ∀ fu56 : Nat, ∀ (y56_4 : Int) (ga56_50 : Int → Int) (M_56 : w_M) (hR_56 : w_Rep w_TM fr X u l I (w_upF A 50 ga56_50) B C M_56), w_in y56_4 → fm ≤ y56_4 ∧ y56_4 ≤ tt → tt - y56_4 < (fu56 : Int) → w_W (z_P L xs) (d + 1) 220 (56, [(0, .ref 43), (1, .int (Int32.ofInt (fm))), (2, .int (Int32.ofInt (tt))), (3, .int (Int32.ofInt (y2_3))), (4, .int (Int32.ofInt (y56_4)))], [], M_56) (m_atomOf_Q fr X u l I A B C M fm tt) := by
                intro fu56
                induction fu56 with
                | zero =>
                  intro y56_4 ga56_50 M_56 hR_56 ⟨ra_y56_4, rb_y56_4⟩ hi56_0 hn56
                  exfalso
                  omega
                | succ fu56 ih56 =>
                  intro y56_4 ga56_50 M_56 hR_56 ⟨ra_y56_4, rb_y56_4⟩ hi56_0 hn56
                  refine w_adv (n := 2) (F' := (59, [(0, .ref 43), (1, .int (Int32.ofInt (fm))), (2, .int (Int32.ofInt (tt))), (3, .int (Int32.ofInt (y2_3))), (4, .int (Int32.ofInt (y56_4)))], [.int (Int32.ofInt (tt)), .int (Int32.ofInt (y56_4))], M_56)) rfl ?_
                  refine w_br2 (a := y56_4) (b := tt) rfl rfl ⟨by omega, by omega⟩ ⟨by omega, by omega⟩ (fun h39 => ?_) (fun h39 => ?_)
                  · have h39 : y56_4 ≥ tt := h39
                    show w_W _ _ _ (94, [(0, .ref 43), (1, .int (Int32.ofInt (fm))), (2, .int (Int32.ofInt (tt))), (3, .int (Int32.ofInt (y2_3))), (4, .int (Int32.ofInt (y56_4)))], [], M_56) _
                    refine w_adv (n := 1) (F' := (95, [(0, .ref 43), (1, .int (Int32.ofInt (fm))), (2, .int (Int32.ofInt (tt))), (3, .int (Int32.ofInt (y2_3))), (4, .int (Int32.ofInt (y56_4)))], [.ref 43], M_56)) rfl ?_
                    refine w_gf (v := .ref 49) hR_56 rfl rfl rfl rfl ?_
                    refine w_adv (n := 1) (F' := (99, [(0, .ref 43), (1, .int (Int32.ofInt (fm))), (2, .int (Int32.ofInt (tt))), (3, .int (Int32.ofInt (y2_3))), (4, .int (Int32.ofInt (y56_4)))], [.ref 43, .ref 49], M_56)) rfl ?_
                    refine w_gf (v := .int (Int32.ofInt ((I 2760)))) hR_56 rfl rfl rfl rfl ?_
                    obtain ⟨r40, r41⟩ : -2147483648 ≤ (I 2760) ∧ (I 2760) ≤ 2147483647 := hR_56.ri 2760
                    refine w_adv (n := 1) (F' := (103, [(0, .ref 43), (1, .int (Int32.ofInt (fm))), (2, .int (Int32.ofInt (tt))), (3, .int (Int32.ofInt (y2_3))), (4, .int (Int32.ofInt (y56_4)))], [.int (Int32.ofInt (1)), .int (Int32.ofInt ((I 2760))), .ref 49], M_56)) rfl ?_
                    refine w_add rfl ?_
                    refine w_adv (n := 1) (F' := (105, [(0, .ref 43), (1, .int (Int32.ofInt (fm))), (2, .int (Int32.ofInt (tt))), (3, .int (Int32.ofInt (y2_3))), (4, .int (Int32.ofInt (y56_4)))], [.ref 43, .int (Int32.ofInt ((I 2760) + 1)), .ref 49], M_56)) rfl ?_
                    refine w_gf (v := .ref 49) hR_56 rfl rfl rfl rfl ?_
                    refine w_adv (n := 1) (F' := (109, [(0, .ref 43), (1, .int (Int32.ofInt (fm))), (2, .int (Int32.ofInt (tt))), (3, .int (Int32.ofInt (y2_3))), (4, .int (Int32.ofInt (y56_4)))], [.ref 43, .ref 49, .int (Int32.ofInt ((I 2760) + 1)), .ref 49], M_56)) rfl ?_
                    refine w_gf (v := .int (Int32.ofInt ((I 2760)))) hR_56 rfl rfl rfl rfl ?_
                    refine w_la (n := 402) hR_56 rfl (Or.inl ⟨rfl, rfl⟩) rfl (show 0 ≤ (I 2760) by omega) (show (I 2760) < (402 : Int) by omega) (by decide) ?_
                    obtain ⟨r42, r43⟩ : -2147483648 ≤ (A 49) ((I 2760)) ∧ (A 49) ((I 2760)) ≤ 2147483647 := hR_56.ra 49 ((I 2760))
                    show w_W _ _ _ (113, [(0, .ref 43), (1, .int (Int32.ofInt (fm))), (2, .int (Int32.ofInt (tt))), (3, .int (Int32.ofInt (y2_3))), (4, .int (Int32.ofInt (y56_4)))], [.int (Int32.ofInt ((A 49) ((I 2760)))), .int (Int32.ofInt ((I 2760) + 1)), .ref 49], M_56) _
                    refine w_adv (n := 1) (F' := (114, [(0, .ref 43), (1, .int (Int32.ofInt (fm))), (2, .int (Int32.ofInt (tt))), (3, .int (Int32.ofInt (y2_3))), (4, .int (Int32.ofInt (y56_4)))], [.int (Int32.ofInt (tt)), .int (Int32.ofInt ((A 49) ((I 2760)))), .int (Int32.ofInt ((I 2760) + 1)), .ref 49], M_56)) rfl ?_
                    refine w_add rfl ?_
                    refine w_adv (n := 1) (F' := (116, [(0, .ref 43), (1, .int (Int32.ofInt (fm))), (2, .int (Int32.ofInt (tt))), (3, .int (Int32.ofInt (y2_3))), (4, .int (Int32.ofInt (y56_4)))], [.int (Int32.ofInt (fm)), .int (Int32.ofInt (((A 49) ((I 2760))) + tt)), .int (Int32.ofInt ((I 2760) + 1)), .ref 49], M_56)) rfl ?_
                    refine w_sub rfl ?_
                    refine w_sai (n := 402) hR_56 rfl rfl (show 0 ≤ (I 2760) + 1 by omega) (show (I 2760) + 1 < (402 : Int) by omega) (by decide) (show w_in ((((A 49) ((I 2760))) + tt) - fm) from ⟨by omega, by omega⟩) (fun M44 hR45 => ?_)
                    replace hR45 : w_Rep w_TM fr X u l I (w_upF (w_upF A 50 ga56_50) 49 (w_upA (A 49) ((I 2760) + 1) ((((A 49) ((I 2760))) + tt) - fm))) B C M44 := hR45
                    refine w_adv (n := 2) (F' := (120, [(0, .ref 43), (1, .int (Int32.ofInt (fm))), (2, .int (Int32.ofInt (tt))), (3, .int (Int32.ofInt (y2_3))), (4, .int (Int32.ofInt (y56_4)))], [.ref 43, .ref 43], M44)) rfl ?_
                    refine w_gf (v := .int (Int32.ofInt ((I 2760)))) hR45 rfl rfl rfl rfl ?_
                    refine w_adv (n := 1) (F' := (124, [(0, .ref 43), (1, .int (Int32.ofInt (fm))), (2, .int (Int32.ofInt (tt))), (3, .int (Int32.ofInt (y2_3))), (4, .int (Int32.ofInt (y56_4)))], [.int (Int32.ofInt (1)), .int (Int32.ofInt ((I 2760))), .ref 43], M44)) rfl ?_
                    refine w_add rfl ?_
                    refine w_pf hR45 rfl rfl rfl rfl (show w_in ((I 2760) + 1) from ⟨by omega, by omega⟩) (fun h => absurd h (by decide)) (fun M46 hR47 => ?_)
                    replace hR47 : w_Rep w_TM fr X u l (w_up I 2760 ((I 2760) + 1)) (w_upF (w_upF A 50 ga56_50) 49 (w_upA (A 49) ((I 2760) + 1) ((((A 49) ((I 2760))) + tt) - fm))) B C M46 := hR47
                    refine w_adv (n := 1) (F' := (129, [(0, .ref 43), (1, .int (Int32.ofInt (fm))), (2, .int (Int32.ofInt (tt))), (3, .int (Int32.ofInt (y2_3))), (4, .int (Int32.ofInt (y56_4)))], [.ref 43], M46)) rfl ?_
                    refine w_gf (v := .int (Int32.ofInt ((I 2760) + 1))) hR47 rfl rfl rfl rfl ?_
                    refine w_adv (n := 1) (F' := (133, [(0, .ref 43), (1, .int (Int32.ofInt (fm))), (2, .int (Int32.ofInt (tt))), (3, .int (Int32.ofInt (y2_3))), (4, .int (Int32.ofInt (y56_4)))], [.int (Int32.ofInt (1)), .int (Int32.ofInt ((I 2760) + 1))], M46)) rfl ?_
                    refine w_sub rfl ?_
                    refine w_fin (r := .inl (some (((I 2760) + 1) - 1))) (M' := M46) rfl ?_
                    exact Or.inr (⟨((I 2760) + 1) - 1, ga56_50, rfl, ⟨by omega, by omega⟩, (w_Rep.up hR47 (show (w_up I 2760 ((I 2760) + 1)) = (w_up I 2760 ((I 2760) + 1)) from rfl) (show (w_upF (w_upF A 50 ga56_50) 49 (w_upA (A 49) ((I 2760) + 1) ((A 49) ((I 2760)) + tt - fm))) = (w_upF (w_upF A 50 ga56_50) 49 (w_upA (A 49) ((I 2760) + 1) ((((A 49) ((I 2760))) + tt) - fm))) from (funext fun s => if e0 : s = 49 then (by subst e0; rfl) else if e1 : s = 50 then (by subst e1; rfl) else (by simp only [w_upF_ne e0, w_upF_ne e1])))), (show 0 ≤ ((I 2760) + 1) - 1 ∧ ((I 2760) + 1) - 1 < 400 by first | assumption | omega), (show m_NA (w_up I 2760 ((I 2760) + 1)) (w_upF (w_upF A 50 ga56_50) 49 (w_upA (A 49) ((I 2760) + 1) ((A 49) ((I 2760)) + tt - fm))) by exact m_NA_up (j := (I 2760) + 1) hNA (show 0 ≤ (I 2760) + 1 ∧ 0 ≤ (I 2763) ∧ ((I 2760) + 1) + (I 2763) ≤ 400 by omega) (by first | exact Or.inl ⟨rfl, rfl⟩ | exact Or.inr ⟨rfl, rfl⟩) (show 0 ≤ (A 49 (I 2760)) + tt - fm ∧ (A 49 (I 2760)) + tt - fm ≤ 24 * ((I 2760) + 1) by omega))⟩)
                  · have h39 : ¬ (y56_4 ≥ tt) := h39
                    show w_W _ _ _ (62, [(0, .ref 43), (1, .int (Int32.ofInt (fm))), (2, .int (Int32.ofInt (tt))), (3, .int (Int32.ofInt (y2_3))), (4, .int (Int32.ofInt (y56_4)))], [], M_56) _
                    refine w_adv (n := 1) (F' := (63, [(0, .ref 43), (1, .int (Int32.ofInt (fm))), (2, .int (Int32.ofInt (tt))), (3, .int (Int32.ofInt (y2_3))), (4, .int (Int32.ofInt (y56_4)))], [.ref 43], M_56)) rfl ?_
                    refine w_gf (v := .ref 50) hR_56 rfl rfl rfl rfl ?_
                    refine w_adv (n := 1) (F' := (67, [(0, .ref 43), (1, .int (Int32.ofInt (fm))), (2, .int (Int32.ofInt (tt))), (3, .int (Int32.ofInt (y2_3))), (4, .int (Int32.ofInt (y56_4)))], [.ref 43, .ref 50], M_56)) rfl ?_
                    refine w_gf (v := .ref 49) hR_56 rfl rfl rfl rfl ?_
                    refine w_adv (n := 1) (F' := (71, [(0, .ref 43), (1, .int (Int32.ofInt (fm))), (2, .int (Int32.ofInt (tt))), (3, .int (Int32.ofInt (y2_3))), (4, .int (Int32.ofInt (y56_4)))], [.ref 43, .ref 49, .ref 50], M_56)) rfl ?_
                    refine w_gf (v := .int (Int32.ofInt ((I 2760)))) hR_56 rfl rfl rfl rfl ?_
                    obtain ⟨r48, r49⟩ : -2147483648 ≤ (I 2760) ∧ (I 2760) ≤ 2147483647 := hR_56.ri 2760
                    refine w_la (n := 402) hR_56 rfl (Or.inl ⟨rfl, rfl⟩) rfl (show 0 ≤ (I 2760) by omega) (show (I 2760) < (402 : Int) by omega) (by decide) ?_
                    obtain ⟨r50, r51⟩ : -2147483648 ≤ (A 49) ((I 2760)) ∧ (A 49) ((I 2760)) ≤ 2147483647 := hR_56.ra 49 ((I 2760))
                    show w_W _ _ _ (75, [(0, .ref 43), (1, .int (Int32.ofInt (fm))), (2, .int (Int32.ofInt (tt))), (3, .int (Int32.ofInt (y2_3))), (4, .int (Int32.ofInt (y56_4)))], [.int (Int32.ofInt ((A 49) ((I 2760)))), .ref 50], M_56) _
                    refine w_adv (n := 1) (F' := (77, [(0, .ref 43), (1, .int (Int32.ofInt (fm))), (2, .int (Int32.ofInt (tt))), (3, .int (Int32.ofInt (y2_3))), (4, .int (Int32.ofInt (y56_4)))], [.int (Int32.ofInt (y56_4)), .int (Int32.ofInt ((A 49) ((I 2760)))), .ref 50], M_56)) rfl ?_
                    refine w_add rfl ?_
                    refine w_adv (n := 1) (F' := (79, [(0, .ref 43), (1, .int (Int32.ofInt (fm))), (2, .int (Int32.ofInt (tt))), (3, .int (Int32.ofInt (y2_3))), (4, .int (Int32.ofInt (y56_4)))], [.int (Int32.ofInt (fm)), .int (Int32.ofInt (((A 49) ((I 2760))) + y56_4)), .ref 50], M_56)) rfl ?_
                    refine w_sub rfl ?_
                    refine w_adv (n := 1) (F' := (81, [(0, .ref 43), (1, .int (Int32.ofInt (fm))), (2, .int (Int32.ofInt (tt))), (3, .int (Int32.ofInt (y2_3))), (4, .int (Int32.ofInt (y56_4)))], [.ref 43, .int (Int32.ofInt ((((A 49) ((I 2760))) + y56_4) - fm)), .ref 50], M_56)) rfl ?_
                    refine w_gf (v := .ref 44) hR_56 rfl rfl rfl rfl ?_
                    refine w_adv (n := 1) (F' := (86, [(0, .ref 43), (1, .int (Int32.ofInt (fm))), (2, .int (Int32.ofInt (tt))), (3, .int (Int32.ofInt (y2_3))), (4, .int (Int32.ofInt (y56_4)))], [.int (Int32.ofInt (y56_4)), .ref 44, .int (Int32.ofInt ((((A 49) ((I 2760))) + y56_4) - fm)), .ref 50], M_56)) rfl ?_
                    refine w_la (n := 8192) hR_56 rfl (Or.inr ⟨rfl, rfl⟩) rfl (show 0 ≤ y56_4 by omega) (show y56_4 < (8192 : Int) by omega) (by decide) ?_
                    obtain ⟨r52, r53⟩ : -2147483648 ≤ (A 44) (y56_4) ∧ (A 44) (y56_4) ≤ 2147483647 := hR_56.ra 44 (y56_4)
                    show w_W _ _ _ (87, [(0, .ref 43), (1, .int (Int32.ofInt (fm))), (2, .int (Int32.ofInt (tt))), (3, .int (Int32.ofInt (y2_3))), (4, .int (Int32.ofInt (y56_4)))], [.int (Int32.ofInt ((A 44) (y56_4))), .int (Int32.ofInt ((((A 49) ((I 2760))) + y56_4) - fm)), .ref 50], M_56) _
                    refine w_sab (n := 9648) hR_56 rfl rfl (show 0 ≤ (((A 49) ((I 2760))) + y56_4) - fm by omega) (show (((A 49) ((I 2760))) + y56_4) - fm < (9648 : Int) by omega) (by decide) (fun M54 hR55 => ?_)
                    replace hR55 : w_Rep w_TM fr X u l I (w_upF (w_upF A 50 ga56_50) 50 (w_upA ga56_50 ((((A 49) ((I 2760))) + y56_4) - fm) (w_nb ((A 44) (y56_4))))) B C M54 := hR55
                    refine w_inc (nL := 5) (a := y56_4) rfl rfl rfl (by decide) ?_
                    refine w_adv (n := 1) (F' := (56, [(4, .int (Int32.ofInt (y56_4 + 1))), (0, .ref 43), (1, .int (Int32.ofInt (fm))), (2, .int (Int32.ofInt (tt))), (3, .int (Int32.ofInt (y2_3)))], [], M54)) rfl ?_
                    refine w_ls (ls := [(0, .ref 43), (1, .int (Int32.ofInt (fm))), (2, .int (Int32.ofInt (tt))), (3, .int (Int32.ofInt (y2_3))), (4, .int (Int32.ofInt (y56_4 + 1)))]) (show List.Nodup [0, 1, 2, 3, 4] by decide) (show List.Nodup [4, 0, 1, 2, 3] by decide) (List.forall_mem_cons.mpr ⟨(List.Mem.tail _ (List.Mem.head _)), (List.forall_mem_cons.mpr ⟨(List.Mem.tail _ (List.Mem.tail _ (List.Mem.head _))), (List.forall_mem_cons.mpr ⟨(List.Mem.tail _ (List.Mem.tail _ (List.Mem.tail _ (List.Mem.head _)))), (List.forall_mem_cons.mpr ⟨(List.Mem.tail _ (List.Mem.tail _ (List.Mem.tail _ (List.Mem.tail _ (List.Mem.head _))))), (List.forall_mem_cons.mpr ⟨(List.Mem.head _), (fun _ h => by cases h)⟩)⟩)⟩)⟩)⟩) ?_
                    exact ih56  (y56_4 + 1) ((w_upA ga56_50 ((((A 49) ((I 2760))) + y56_4) - fm) (w_nb ((A 44) (y56_4))))) M54 (w_Rep.up hR55 (show I = I from rfl) (show (w_upF A 50 (w_upA ga56_50 ((((A 49) ((I 2760))) + y56_4) - fm) (w_nb ((A 44) (y56_4))))) = (w_upF (w_upF A 50 ga56_50) 50 (w_upA ga56_50 ((((A 49) ((I 2760))) + y56_4) - fm) (w_nb ((A 44) (y56_4))))) from (funext fun s => if e0 : s = 50 then (by subst e0; rfl) else (by simp only [w_upF_ne e0])))) ⟨by omega, by omega⟩ (show fm ≤ y56_4 + 1 ∧ y56_4 + 1 ≤ tt by omega) (show tt - (y56_4 + 1) < (fu56 : Int) by omega)
              refine w_ls (ls := [(0, .ref 43), (1, .int (Int32.ofInt (fm))), (2, .int (Int32.ofInt (tt))), (3, .int (Int32.ofInt (y2_3))), (4, .int (Int32.ofInt (fm)))]) (show List.Nodup [0, 1, 2, 3, 4] by decide) (show List.Nodup [4, 0, 1, 2, 3] by decide) (List.forall_mem_cons.mpr ⟨(List.Mem.tail _ (List.Mem.head _)), (List.forall_mem_cons.mpr ⟨(List.Mem.tail _ (List.Mem.tail _ (List.Mem.head _))), (List.forall_mem_cons.mpr ⟨(List.Mem.tail _ (List.Mem.tail _ (List.Mem.tail _ (List.Mem.head _)))), (List.forall_mem_cons.mpr ⟨(List.Mem.tail _ (List.Mem.tail _ (List.Mem.tail _ (List.Mem.tail _ (List.Mem.head _))))), (List.forall_mem_cons.mpr ⟨(List.Mem.head _), (fun _ h => by cases h)⟩)⟩)⟩)⟩)⟩) ?_
              exact lp56 ((tt - fm).toNat + 1)  (fm) ((A 50)) M (w_Rep.up hR (show I = I from rfl) (show (w_upF A 50 (A 50)) = A from (funext fun s => if e0 : s = 50 then (by subst e0; rfl) else (by simp only [w_upF_ne e0])))) ⟨by omega, by omega⟩ (show fm ≤ fm ∧ fm ≤ tt by omega) (show tt - fm < (((tt - fm).toNat + 1 : Nat) : Int) by omega)
            · have h38 : ¬ (¬ (I 2763) + (I 2760) = 400) := h38
              show w_W _ _ _ (51, [(0, .ref 43), (1, .int (Int32.ofInt (fm))), (2, .int (Int32.ofInt (tt))), (3, .int (Int32.ofInt (y2_3)))], [], M) _
              refine w_adv (n := 1) (F' := (52, [(0, .ref 43), (1, .int (Int32.ofInt (fm))), (2, .int (Int32.ofInt (tt))), (3, .int (Int32.ofInt (y2_3)))], [.int (Int32.ofInt ((-1)))], M)) rfl ?_
              refine w_fin (r := .inl (some ((-1)))) (M' := M) rfl ?_
              first
                | exact Or.inl ⟨(-1), rfl, ⟨by omega, by omega⟩, rfl, (show -1 ≤ (-1) ∧ (-1) < 400 by first | assumption | omega)⟩
                | exact Or.inr (⟨(-1), (A 50), rfl, ⟨by omega, by omega⟩, (w_Rep.up hR (show (w_up I 2760 ((I 2760) + 1)) = I from (funext fun s => if e0 : s = 2760 then (by subst e0; rfl) else (by simp only [w_up_ne e0]))) (show (w_upF (w_upF A 50 (A 50)) 49 (w_upA (A 49) ((I 2760) + 1) ((A 49) ((I 2760)) + tt - fm))) = A from (funext fun s => if e0 : s = 49 then (by subst e0; rfl) else if e1 : s = 50 then (by subst e1; rfl) else (by simp only [w_upF_ne e0, w_upF_ne e1])))), (show 0 ≤ (-1) ∧ (-1) < 400 by first | assumption | omega), (show m_NA (w_up I 2760 ((I 2760) + 1)) (w_upF (w_upF A 50 (A 50)) 49 (w_upA (A 49) ((I 2760) + 1) ((A 49) ((I 2760)) + tt - fm))) by exact m_NA_up (j := (I 2760) + 1) hNA (show 0 ≤ (I 2760) ∧ 0 ≤ (I 2763) ∧ (I 2760) + (I 2763) ≤ 400 by omega) (by first | exact Or.inl ⟨rfl, rfl⟩ | exact Or.inr ⟨rfl, rfl⟩) (show 0 ≤ (A 49 (I 2760)) + tt - fm ∧ (A 49 (I 2760)) + tt - fm ≤ 24 * ((I 2760) + 1) by omega))⟩)
          · have h35 : ¬ (y2_3 ≥ (I 2760)) := h35
            show w_W _ _ _ (34, [(0, .ref 43), (1, .int (Int32.ofInt (fm))), (2, .int (Int32.ofInt (tt))), (3, .int (Int32.ofInt (y2_3)))], [], M) _
            refine w_adv (n := 1) (F' := (35, [(0, .ref 43), (1, .int (Int32.ofInt (fm))), (2, .int (Int32.ofInt (tt))), (3, .int (Int32.ofInt (y2_3)))], [.int (Int32.ofInt (y2_3))], M)) rfl ?_
            refine w_fin (r := .inl (some (y2_3))) (M' := M) rfl ?_
            first
              | exact Or.inl ⟨y2_3, rfl, ⟨by omega, by omega⟩, rfl, (show -1 ≤ y2_3 ∧ y2_3 < 400 by first | assumption | omega)⟩
              | exact Or.inr (⟨y2_3, (A 50), rfl, ⟨by omega, by omega⟩, (w_Rep.up hR (show (w_up I 2760 ((I 2760) + 1)) = I from (funext fun s => if e0 : s = 2760 then (by subst e0; rfl) else (by simp only [w_up_ne e0]))) (show (w_upF (w_upF A 50 (A 50)) 49 (w_upA (A 49) ((I 2760) + 1) ((A 49) ((I 2760)) + tt - fm))) = A from (funext fun s => if e0 : s = 49 then (by subst e0; rfl) else if e1 : s = 50 then (by subst e1; rfl) else (by simp only [w_upF_ne e0, w_upF_ne e1])))), (show 0 ≤ y2_3 ∧ y2_3 < 400 by first | assumption | omega), (show m_NA (w_up I 2760 ((I 2760) + 1)) (w_upF (w_upF A 50 (A 50)) 49 (w_upA (A 49) ((I 2760) + 1) ((A 49) ((I 2760)) + tt - fm))) by exact m_NA_up (j := (I 2760) + 1) hNA (show 0 ≤ (I 2760) ∧ 0 ≤ (I 2763) ∧ (I 2760) + (I 2763) ≤ 400 by omega) (by first | exact Or.inl ⟨rfl, rfl⟩ | exact Or.inr ⟨rfl, rfl⟩) (show 0 ≤ (A 49 (I 2760)) + tt - fm ∧ (A 49 (I 2760)) + tt - fm ≤ 24 * ((I 2760) + 1) by omega))⟩)
        · have h34 : ¬ (¬ v28 = 0) := h34
          show w_W _ _ _ (20, [(0, .ref 43), (1, .int (Int32.ofInt (fm))), (2, .int (Int32.ofInt (tt))), (3, .int (Int32.ofInt (y2_3)))], [], M) _
          refine w_inc (nL := 5) (a := y2_3) rfl rfl rfl (by decide) ?_
          refine w_adv (n := 1) (F' := (2, [(3, .int (Int32.ofInt (y2_3 + 1))), (0, .ref 43), (1, .int (Int32.ofInt (fm))), (2, .int (Int32.ofInt (tt)))], [], M)) rfl ?_
          refine w_ls (ls := [(0, .ref 43), (1, .int (Int32.ofInt (fm))), (2, .int (Int32.ofInt (tt))), (3, .int (Int32.ofInt (y2_3 + 1)))]) (show List.Nodup [0, 1, 2, 3] by decide) (show List.Nodup [3, 0, 1, 2] by decide) (List.forall_mem_cons.mpr ⟨(List.Mem.tail _ (List.Mem.head _)), (List.forall_mem_cons.mpr ⟨(List.Mem.tail _ (List.Mem.tail _ (List.Mem.head _))), (List.forall_mem_cons.mpr ⟨(List.Mem.tail _ (List.Mem.tail _ (List.Mem.tail _ (List.Mem.head _)))), (List.forall_mem_cons.mpr ⟨(List.Mem.head _), (fun _ h => by cases h)⟩)⟩)⟩)⟩) ?_
          exact ih2  (y2_3 + 1) ⟨by omega, by omega⟩ (show 0 ≤ y2_3 + 1 ∧ y2_3 + 1 ≤ (I 2760) by omega) (show (I 2760) - (y2_3 + 1) < (fu2 : Int) by omega)
  refine w_ls (ls := [(0, .ref 43), (1, .int (Int32.ofInt (fm))), (2, .int (Int32.ofInt (tt))), (3, .int (Int32.ofInt (0)))]) (show List.Nodup [0, 1, 2, 3] by decide) (show List.Nodup [3, 0, 1, 2] by decide) (List.forall_mem_cons.mpr ⟨(List.Mem.tail _ (List.Mem.head _)), (List.forall_mem_cons.mpr ⟨(List.Mem.tail _ (List.Mem.tail _ (List.Mem.head _))), (List.forall_mem_cons.mpr ⟨(List.Mem.tail _ (List.Mem.tail _ (List.Mem.tail _ (List.Mem.head _)))), (List.forall_mem_cons.mpr ⟨(List.Mem.head _), (fun _ h => by cases h)⟩)⟩)⟩)⟩) ?_
  exact lp2 (((I 2760) - 0).toNat + 1)  (0) ⟨by omega, by omega⟩ (show 0 ≤ 0 ∧ 0 ≤ (I 2760) by omega) (show (I 2760) - 0 < ((((I 2760) - 0).toNat + 1 : Nat) : Int) by omega)
