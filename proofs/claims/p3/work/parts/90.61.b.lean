def m_past_Q (fr : Nat → Bool) (X : Nat → Option (q_C (Nat → Int32))) (u l : Nat) (I : Nat → Int) (A : Nat → Int → Int) (B C : Nat → Nat) (M : w_M) (i : Int) : w_X → w_M → Prop := fun r M' => (∃ v : Int, (r = .inl (some v)) ∧ (w_in v) ∧ (M' = M) ∧ (i ≤ v ∧ v ≤ (I 2753)))
set_option maxHeartbeats 100000000 in
set_option maxRecDepth 100000 in
theorem m_past {L : Nat} {xs : Nat → Int32} {d : Nat} {fr : Nat → Bool} {X : Nat → Option (q_C (Nat → Int32))} {u l : Nat} {I : Nat → Int} {A : Nat → Int → Int} {B C : Nat → Nat} {M : w_M} (i : Int) (hR : w_Rep w_TM fr X u l I A B C M) (hd : 1 ≤ d) (r_i : w_in i) (hsz : 0 ≤ (I 2753) ∧ (I 2753) ≤ 8192) (h0 : 0 ≤ i ∧ i ≤ (I 2753)) : w_W (z_P L xs) d 211 (0, [(0, .ref 43), (1, .int (Int32.ofInt (i)))], [], M) (m_past_Q fr X u l I A B C M i) := by
  obtain ⟨ra_i, rb_i⟩ := r_i
  obtain ⟨d, rfl⟩ : ∃ d0, d = d0 + 1 := ⟨d - 1, by omega⟩
  refine w_adv (n := 4) (F' := (4, [(3, .int (Int32.ofInt (1))), (2, .int (Int32.ofInt (i))), (0, .ref 43), (1, .int (Int32.ofInt (i)))], [], M)) rfl ?_
  have lp4 : ∀ fu4 : Nat, ∀ (y4_2 : Int) (y4_3 : Int), w_in y4_2 → w_in y4_3 → i ≤ y4_2 ∧ y4_2 ≤ (I 2753) ∧ (y4_3 = 0 ∨ y4_3 = 1) → 2 * ((I 2753) - y4_2) + y4_3 < (fu4 : Int) → w_W (z_P L xs) (d + 1) 211 (4, [(0, .ref 43), (1, .int (Int32.ofInt (i))), (2, .int (Int32.ofInt (y4_2))), (3, .int (Int32.ofInt (y4_3)))], [], M) (m_past_Q fr X u l I A B C M i) := by
    intro fu4
    induction fu4 with
    | zero =>
      intro y4_2 y4_3 ⟨ra_y4_2, rb_y4_2⟩ ⟨ra_y4_3, rb_y4_3⟩ hi4_0 hn4
      exfalso
      omega
    | succ fu4 ih4 =>
      intro y4_2 y4_3 ⟨ra_y4_2, rb_y4_2⟩ ⟨ra_y4_3, rb_y4_3⟩ hi4_0 hn4
      refine w_adv (n := 1) (F' := (5, [(0, .ref 43), (1, .int (Int32.ofInt (i))), (2, .int (Int32.ofInt (y4_2))), (3, .int (Int32.ofInt (y4_3)))], [.int (Int32.ofInt (y4_3))], M)) rfl ?_
      refine w_br1 (a := y4_3) rfl rfl ⟨by omega, by omega⟩ (fun h1 => ?_) (fun h1 => ?_)
      · have h1 : y4_3 = 0 := h1
        show w_W _ _ _ (109, [(0, .ref 43), (1, .int (Int32.ofInt (i))), (2, .int (Int32.ofInt (y4_2))), (3, .int (Int32.ofInt (y4_3)))], [], M) _
        refine w_adv (n := 1) (F' := (110, [(0, .ref 43), (1, .int (Int32.ofInt (i))), (2, .int (Int32.ofInt (y4_2))), (3, .int (Int32.ofInt (y4_3)))], [.int (Int32.ofInt (y4_2))], M)) rfl ?_
        refine w_fin (r := .inl (some (y4_2))) (M' := M) rfl ?_
        exact ⟨y4_2, rfl, ⟨by omega, by omega⟩, rfl, (show i ≤ y4_2 ∧ y4_2 ≤ (I 2753) by first | assumption | omega)⟩
      · have h1 : ¬ (y4_3 = 0) := h1
        show w_W _ _ _ (8, [(0, .ref 43), (1, .int (Int32.ofInt (i))), (2, .int (Int32.ofInt (y4_2))), (3, .int (Int32.ofInt (y4_3)))], [], M) _
        refine w_adv (n := 2) (F' := (10, [(0, .ref 43), (1, .int (Int32.ofInt (i))), (2, .int (Int32.ofInt (y4_2))), (3, .int (Int32.ofInt (y4_3)))], [.int (Int32.ofInt (y4_2)), .ref 43], M)) rfl ?_
        refine w_call (cm := 212) (as := [(0, .ref 43), (1, .int (Int32.ofInt (y4_2)))]) (rest := []) (o := some (9, 43)) rfl (w_fitR hR rfl) (m_byteAt (y4_2) hR ⟨by omega, by omega⟩ (show 0 ≤ (I 2753) ∧ (I 2753) ≤ 8192 by first | assumption | omega) (show 0 ≤ y4_2 by first | assumption | omega)) (fun r2 M3 q4 => ?_)
        rcases q4 with ⟨v5, e6, ⟨r7, r8⟩, e9, f10, f11⟩
        rw [e6, e9]
        replace f10 : v5 = m_by (A 44) (I 2753) (y4_2) := f10
        replace f11 : (I 2753) ≤ y4_2 → v5 = 0 := f11
        show w_W _ _ _ (13, [(0, .ref 43), (1, .int (Int32.ofInt (i))), (2, .int (Int32.ofInt (y4_2))), (3, .int (Int32.ofInt (y4_3)))], [.int (Int32.ofInt (v5))], M) _
        refine w_adv (n := 1) (F' := (15, [(4, .int (Int32.ofInt (v5))), (0, .ref 43), (1, .int (Int32.ofInt (i))), (2, .int (Int32.ofInt (y4_2))), (3, .int (Int32.ofInt (y4_3)))], [], M)) rfl ?_
        have jn63 : ∀ (k63_0 : Int), w_in k63_0 → (k63_0 = 0 ∨ (k63_0 = 1 ∧ y4_2 < (I 2753))) → w_W (z_P L xs) (d + 1) 211 (63, [(0, .ref 43), (1, .int (Int32.ofInt (i))), (2, .int (Int32.ofInt (y4_2))), (3, .int (Int32.ofInt (y4_3))), (4, .int (Int32.ofInt (v5)))], [.int (Int32.ofInt (k63_0))], M) (m_past_Q fr X u l I A B C M i) := by
          intro k63_0 ⟨ra_k63_0, rb_k63_0⟩ hj63_0
          refine w_adv (n := 2) (F' := (65, [(3, .int (Int32.ofInt (k63_0))), (0, .ref 43), (1, .int (Int32.ofInt (i))), (2, .int (Int32.ofInt (y4_2))), (4, .int (Int32.ofInt (v5)))], [.int (Int32.ofInt (k63_0))], M)) rfl ?_
          refine w_br1 (a := k63_0) rfl rfl ⟨by omega, by omega⟩ (fun h12 => ?_) (fun h12 => ?_)
          · have h12 : k63_0 = 0 := h12
            show w_W _ _ _ (99, [(3, .int (Int32.ofInt (k63_0))), (0, .ref 43), (1, .int (Int32.ofInt (i))), (2, .int (Int32.ofInt (y4_2))), (4, .int (Int32.ofInt (v5)))], [], M) _
            refine w_adv (n := 1) (F' := (100, [(3, .int (Int32.ofInt (k63_0))), (0, .ref 43), (1, .int (Int32.ofInt (i))), (2, .int (Int32.ofInt (y4_2))), (4, .int (Int32.ofInt (v5)))], [.int (Int32.ofInt (k63_0))], M)) rfl ?_
            refine w_br1 (a := k63_0) rfl rfl ⟨by omega, by omega⟩ (fun h13 => ?_) (fun h13 => ?_)
            · have h13 : k63_0 = 0 := h13
              show w_W _ _ _ (106, [(3, .int (Int32.ofInt (k63_0))), (0, .ref 43), (1, .int (Int32.ofInt (i))), (2, .int (Int32.ofInt (y4_2))), (4, .int (Int32.ofInt (v5)))], [], M) _
              refine w_adv (n := 1) (F' := (4, [(3, .int (Int32.ofInt (k63_0))), (0, .ref 43), (1, .int (Int32.ofInt (i))), (2, .int (Int32.ofInt (y4_2))), (4, .int (Int32.ofInt (v5)))], [], M)) rfl ?_
              refine w_ls (ls := [(0, .ref 43), (1, .int (Int32.ofInt (i))), (2, .int (Int32.ofInt (y4_2))), (3, .int (Int32.ofInt (k63_0)))]) (show List.Nodup [0, 1, 2, 3] by decide) (show List.Nodup [3, 0, 1, 2, 4] by decide) (List.forall_mem_cons.mpr ⟨(List.Mem.tail _ (List.Mem.head _)), (List.forall_mem_cons.mpr ⟨(List.Mem.tail _ (List.Mem.tail _ (List.Mem.head _))), (List.forall_mem_cons.mpr ⟨(List.Mem.tail _ (List.Mem.tail _ (List.Mem.tail _ (List.Mem.head _)))), (List.forall_mem_cons.mpr ⟨(List.Mem.head _), (fun _ h => by cases h)⟩)⟩)⟩)⟩) ?_
              exact ih4  (y4_2) (k63_0) ⟨by omega, by omega⟩ ⟨by omega, by omega⟩ (show i ≤ y4_2 ∧ y4_2 ≤ (I 2753) ∧ (k63_0 = 0 ∨ k63_0 = 1) by omega) (show 2 * ((I 2753) - y4_2) + k63_0 < (fu4 : Int) by omega)
            · have h13 : ¬ (k63_0 = 0) := h13
              show w_W _ _ _ (103, [(3, .int (Int32.ofInt (k63_0))), (0, .ref 43), (1, .int (Int32.ofInt (i))), (2, .int (Int32.ofInt (y4_2))), (4, .int (Int32.ofInt (v5)))], [], M) _
              refine w_inc (nL := 5) (a := y4_2) rfl rfl rfl (by decide) ?_
              refine w_adv (n := 1) (F' := (4, [(2, .int (Int32.ofInt (y4_2 + 1))), (3, .int (Int32.ofInt (k63_0))), (0, .ref 43), (1, .int (Int32.ofInt (i))), (4, .int (Int32.ofInt (v5)))], [], M)) rfl ?_
              refine w_ls (ls := [(0, .ref 43), (1, .int (Int32.ofInt (i))), (2, .int (Int32.ofInt (y4_2 + 1))), (3, .int (Int32.ofInt (k63_0)))]) (show List.Nodup [0, 1, 2, 3] by decide) (show List.Nodup [2, 3, 0, 1, 4] by decide) (List.forall_mem_cons.mpr ⟨(List.Mem.tail _ (List.Mem.tail _ (List.Mem.head _))), (List.forall_mem_cons.mpr ⟨(List.Mem.tail _ (List.Mem.tail _ (List.Mem.tail _ (List.Mem.head _)))), (List.forall_mem_cons.mpr ⟨(List.Mem.head _), (List.forall_mem_cons.mpr ⟨(List.Mem.tail _ (List.Mem.head _)), (fun _ h => by cases h)⟩)⟩)⟩)⟩) ?_
              exact ih4  (y4_2 + 1) (k63_0) ⟨by omega, by omega⟩ ⟨by omega, by omega⟩ (show i ≤ y4_2 + 1 ∧ y4_2 + 1 ≤ (I 2753) ∧ (k63_0 = 0 ∨ k63_0 = 1) by omega) (show 2 * ((I 2753) - (y4_2 + 1)) + k63_0 < (fu4 : Int) by omega)
          · have h12 : ¬ (k63_0 = 0) := h12
            show w_W _ _ _ (68, [(3, .int (Int32.ofInt (k63_0))), (0, .ref 43), (1, .int (Int32.ofInt (i))), (2, .int (Int32.ofInt (y4_2))), (4, .int (Int32.ofInt (v5)))], [], M) _
            refine w_adv (n := 2) (F' := (72, [(3, .int (Int32.ofInt (k63_0))), (0, .ref 43), (1, .int (Int32.ofInt (i))), (2, .int (Int32.ofInt (y4_2))), (4, .int (Int32.ofInt (v5)))], [.int (Int32.ofInt (37)), .int (Int32.ofInt (v5))], M)) rfl ?_
            refine w_br2 (a := v5) (b := 37) rfl rfl ⟨by omega, by omega⟩ ⟨by omega, by omega⟩ (fun h14 => ?_) (fun h14 => ?_)
            · have h14 : ¬ v5 = 37 := h14
              show w_W _ _ _ (99, [(3, .int (Int32.ofInt (k63_0))), (0, .ref 43), (1, .int (Int32.ofInt (i))), (2, .int (Int32.ofInt (y4_2))), (4, .int (Int32.ofInt (v5)))], [], M) _
              refine w_adv (n := 1) (F' := (100, [(3, .int (Int32.ofInt (k63_0))), (0, .ref 43), (1, .int (Int32.ofInt (i))), (2, .int (Int32.ofInt (y4_2))), (4, .int (Int32.ofInt (v5)))], [.int (Int32.ofInt (k63_0))], M)) rfl ?_
              refine w_br1 (a := k63_0) rfl rfl ⟨by omega, by omega⟩ (fun h15 => ?_) (fun h15 => ?_)
              · have h15 : k63_0 = 0 := h15
                show w_W _ _ _ (106, [(3, .int (Int32.ofInt (k63_0))), (0, .ref 43), (1, .int (Int32.ofInt (i))), (2, .int (Int32.ofInt (y4_2))), (4, .int (Int32.ofInt (v5)))], [], M) _
                refine w_adv (n := 1) (F' := (4, [(3, .int (Int32.ofInt (k63_0))), (0, .ref 43), (1, .int (Int32.ofInt (i))), (2, .int (Int32.ofInt (y4_2))), (4, .int (Int32.ofInt (v5)))], [], M)) rfl ?_
                refine w_ls (ls := [(0, .ref 43), (1, .int (Int32.ofInt (i))), (2, .int (Int32.ofInt (y4_2))), (3, .int (Int32.ofInt (k63_0)))]) (show List.Nodup [0, 1, 2, 3] by decide) (show List.Nodup [3, 0, 1, 2, 4] by decide) (List.forall_mem_cons.mpr ⟨(List.Mem.tail _ (List.Mem.head _)), (List.forall_mem_cons.mpr ⟨(List.Mem.tail _ (List.Mem.tail _ (List.Mem.head _))), (List.forall_mem_cons.mpr ⟨(List.Mem.tail _ (List.Mem.tail _ (List.Mem.tail _ (List.Mem.head _)))), (List.forall_mem_cons.mpr ⟨(List.Mem.head _), (fun _ h => by cases h)⟩)⟩)⟩)⟩) ?_
                exact ih4  (y4_2) (k63_0) ⟨by omega, by omega⟩ ⟨by omega, by omega⟩ (show i ≤ y4_2 ∧ y4_2 ≤ (I 2753) ∧ (k63_0 = 0 ∨ k63_0 = 1) by omega) (show 2 * ((I 2753) - y4_2) + k63_0 < (fu4 : Int) by omega)
              · have h15 : ¬ (k63_0 = 0) := h15
                show w_W _ _ _ (103, [(3, .int (Int32.ofInt (k63_0))), (0, .ref 43), (1, .int (Int32.ofInt (i))), (2, .int (Int32.ofInt (y4_2))), (4, .int (Int32.ofInt (v5)))], [], M) _
                refine w_inc (nL := 5) (a := y4_2) rfl rfl rfl (by decide) ?_
                refine w_adv (n := 1) (F' := (4, [(2, .int (Int32.ofInt (y4_2 + 1))), (3, .int (Int32.ofInt (k63_0))), (0, .ref 43), (1, .int (Int32.ofInt (i))), (4, .int (Int32.ofInt (v5)))], [], M)) rfl ?_
                refine w_ls (ls := [(0, .ref 43), (1, .int (Int32.ofInt (i))), (2, .int (Int32.ofInt (y4_2 + 1))), (3, .int (Int32.ofInt (k63_0)))]) (show List.Nodup [0, 1, 2, 3] by decide) (show List.Nodup [2, 3, 0, 1, 4] by decide) (List.forall_mem_cons.mpr ⟨(List.Mem.tail _ (List.Mem.tail _ (List.Mem.head _))), (List.forall_mem_cons.mpr ⟨(List.Mem.tail _ (List.Mem.tail _ (List.Mem.tail _ (List.Mem.head _)))), (List.forall_mem_cons.mpr ⟨(List.Mem.head _), (List.forall_mem_cons.mpr ⟨(List.Mem.tail _ (List.Mem.head _)), (fun _ h => by cases h)⟩)⟩)⟩)⟩) ?_
                exact ih4  (y4_2 + 1) (k63_0) ⟨by omega, by omega⟩ ⟨by omega, by omega⟩ (show i ≤ y4_2 + 1 ∧ y4_2 + 1 ≤ (I 2753) ∧ (k63_0 = 0 ∨ k63_0 = 1) by omega) (show 2 * ((I 2753) - (y4_2 + 1)) + k63_0 < (fu4 : Int) by omega)
            · have h14 : ¬ (¬ v5 = 37) := h14
              show w_W _ _ _ (75, [(3, .int (Int32.ofInt (k63_0))), (0, .ref 43), (1, .int (Int32.ofInt (i))), (2, .int (Int32.ofInt (y4_2))), (4, .int (Int32.ofInt (v5)))], [], M) _
              have lp75 : ∀ fu75 : Nat, ∀ (y75_2 : Int), w_in y75_2 → y4_2 ≤ y75_2 ∧ y75_2 ≤ (I 2753) → (I 2753) - y75_2 < (fu75 : Int) → w_W (z_P L xs) (d + 1) 211 (75, [(0, .ref 43), (1, .int (Int32.ofInt (i))), (2, .int (Int32.ofInt (y75_2))), (3, .int (Int32.ofInt (k63_0))), (4, .int (Int32.ofInt (v5)))], [], M) (m_past_Q fr X u l I A B C M i) := by
                intro fu75
                induction fu75 with
                | zero =>
                  intro y75_2 ⟨ra_y75_2, rb_y75_2⟩ hi75_0 hn75
                  exfalso
                  omega
                | succ fu75 ih75 =>
                  intro y75_2 ⟨ra_y75_2, rb_y75_2⟩ hi75_0 hn75
                  refine w_adv (n := 2) (F' := (77, [(0, .ref 43), (1, .int (Int32.ofInt (i))), (2, .int (Int32.ofInt (y75_2))), (3, .int (Int32.ofInt (k63_0))), (4, .int (Int32.ofInt (v5)))], [.ref 43, .int (Int32.ofInt (y75_2))], M)) rfl ?_
                  refine w_gf (v := .int (Int32.ofInt ((I 2753)))) hR rfl rfl rfl rfl ?_
                  obtain ⟨r16, r17⟩ : -2147483648 ≤ (I 2753) ∧ (I 2753) ≤ 2147483647 := hR.ri 2753
                  refine w_br2 (a := y75_2) (b := (I 2753)) rfl rfl ⟨by omega, by omega⟩ ⟨by omega, by omega⟩ (fun h18 => ?_) (fun h18 => ?_)
                  · have h18 : y75_2 ≥ (I 2753) := h18
                    show w_W _ _ _ (106, [(0, .ref 43), (1, .int (Int32.ofInt (i))), (2, .int (Int32.ofInt (y75_2))), (3, .int (Int32.ofInt (k63_0))), (4, .int (Int32.ofInt (v5)))], [], M) _
                    refine w_adv (n := 1) (F' := (4, [(0, .ref 43), (1, .int (Int32.ofInt (i))), (2, .int (Int32.ofInt (y75_2))), (3, .int (Int32.ofInt (k63_0))), (4, .int (Int32.ofInt (v5)))], [], M)) rfl ?_
                    refine w_ls (ls := [(0, .ref 43), (1, .int (Int32.ofInt (i))), (2, .int (Int32.ofInt (y75_2))), (3, .int (Int32.ofInt (k63_0)))]) (show List.Nodup [0, 1, 2, 3] by decide) (show List.Nodup [0, 1, 2, 3, 4] by decide) (List.forall_mem_cons.mpr ⟨(List.Mem.head _), (List.forall_mem_cons.mpr ⟨(List.Mem.tail _ (List.Mem.head _)), (List.forall_mem_cons.mpr ⟨(List.Mem.tail _ (List.Mem.tail _ (List.Mem.head _))), (List.forall_mem_cons.mpr ⟨(List.Mem.tail _ (List.Mem.tail _ (List.Mem.tail _ (List.Mem.head _)))), (fun _ h => by cases h)⟩)⟩)⟩)⟩) ?_
                    exact ih4  (y75_2) (k63_0) ⟨by omega, by omega⟩ ⟨by omega, by omega⟩ (show i ≤ y75_2 ∧ y75_2 ≤ (I 2753) ∧ (k63_0 = 0 ∨ k63_0 = 1) by omega) (show 2 * ((I 2753) - y75_2) + k63_0 < (fu4 : Int) by omega)
                  · have h18 : ¬ (y75_2 ≥ (I 2753)) := h18
                    show w_W _ _ _ (83, [(0, .ref 43), (1, .int (Int32.ofInt (i))), (2, .int (Int32.ofInt (y75_2))), (3, .int (Int32.ofInt (k63_0))), (4, .int (Int32.ofInt (v5)))], [], M) _
                    refine w_adv (n := 2) (F' := (85, [(0, .ref 43), (1, .int (Int32.ofInt (i))), (2, .int (Int32.ofInt (y75_2))), (3, .int (Int32.ofInt (k63_0))), (4, .int (Int32.ofInt (v5)))], [.int (Int32.ofInt (y75_2)), .ref 43], M)) rfl ?_
                    refine w_call (cm := 212) (as := [(0, .ref 43), (1, .int (Int32.ofInt (y75_2)))]) (rest := []) (o := some (9, 43)) rfl (w_fitR hR rfl) (m_byteAt (y75_2) hR ⟨by omega, by omega⟩ (show 0 ≤ (I 2753) ∧ (I 2753) ≤ 8192 by first | assumption | omega) (show 0 ≤ y75_2 by first | assumption | omega)) (fun r19 M20 q21 => ?_)
                    rcases q21 with ⟨v22, e23, ⟨r24, r25⟩, e26, f27, f28⟩
                    rw [e23, e26]
                    replace f27 : v22 = m_by (A 44) (I 2753) (y75_2) := f27
                    replace f28 : (I 2753) ≤ y75_2 → v22 = 0 := f28
                    have pq : y75_2 = y4_2 → v22 = 37 := fun h => by rw [f27, h]; omega
                    show w_W _ _ _ (88, [(0, .ref 43), (1, .int (Int32.ofInt (i))), (2, .int (Int32.ofInt (y75_2))), (3, .int (Int32.ofInt (k63_0))), (4, .int (Int32.ofInt (v5)))], [.int (Int32.ofInt (v22))], M) _
                    refine w_adv (n := 1) (F' := (90, [(0, .ref 43), (1, .int (Int32.ofInt (i))), (2, .int (Int32.ofInt (y75_2))), (3, .int (Int32.ofInt (k63_0))), (4, .int (Int32.ofInt (v5)))], [.int (Int32.ofInt (10)), .int (Int32.ofInt (v22))], M)) rfl ?_
                    refine w_br2 (a := v22) (b := 10) rfl rfl ⟨by omega, by omega⟩ ⟨by omega, by omega⟩ (fun h29 => ?_) (fun h29 => ?_)
                    · have h29 : v22 = 10 := h29
                      show w_W _ _ _ (106, [(0, .ref 43), (1, .int (Int32.ofInt (i))), (2, .int (Int32.ofInt (y75_2))), (3, .int (Int32.ofInt (k63_0))), (4, .int (Int32.ofInt (v5)))], [], M) _
                      refine w_adv (n := 1) (F' := (4, [(0, .ref 43), (1, .int (Int32.ofInt (i))), (2, .int (Int32.ofInt (y75_2))), (3, .int (Int32.ofInt (k63_0))), (4, .int (Int32.ofInt (v5)))], [], M)) rfl ?_
                      refine w_ls (ls := [(0, .ref 43), (1, .int (Int32.ofInt (i))), (2, .int (Int32.ofInt (y75_2))), (3, .int (Int32.ofInt (k63_0)))]) (show List.Nodup [0, 1, 2, 3] by decide) (show List.Nodup [0, 1, 2, 3, 4] by decide) (List.forall_mem_cons.mpr ⟨(List.Mem.head _), (List.forall_mem_cons.mpr ⟨(List.Mem.tail _ (List.Mem.head _)), (List.forall_mem_cons.mpr ⟨(List.Mem.tail _ (List.Mem.tail _ (List.Mem.head _))), (List.forall_mem_cons.mpr ⟨(List.Mem.tail _ (List.Mem.tail _ (List.Mem.tail _ (List.Mem.head _)))), (fun _ h => by cases h)⟩)⟩)⟩)⟩) ?_
                      exact ih4  (y75_2) (k63_0) ⟨by omega, by omega⟩ ⟨by omega, by omega⟩ (show i ≤ y75_2 ∧ y75_2 ≤ (I 2753) ∧ (k63_0 = 0 ∨ k63_0 = 1) by omega) (show 2 * ((I 2753) - y75_2) + k63_0 < (fu4 : Int) by omega)
                    · have h29 : ¬ (v22 = 10) := h29
                      show w_W _ _ _ (93, [(0, .ref 43), (1, .int (Int32.ofInt (i))), (2, .int (Int32.ofInt (y75_2))), (3, .int (Int32.ofInt (k63_0))), (4, .int (Int32.ofInt (v5)))], [], M) _
                      refine w_inc (nL := 5) (a := y75_2) rfl rfl rfl (by decide) ?_
                      refine w_adv (n := 1) (F' := (75, [(2, .int (Int32.ofInt (y75_2 + 1))), (0, .ref 43), (1, .int (Int32.ofInt (i))), (3, .int (Int32.ofInt (k63_0))), (4, .int (Int32.ofInt (v5)))], [], M)) rfl ?_
                      refine w_ls (ls := [(0, .ref 43), (1, .int (Int32.ofInt (i))), (2, .int (Int32.ofInt (y75_2 + 1))), (3, .int (Int32.ofInt (k63_0))), (4, .int (Int32.ofInt (v5)))]) (show List.Nodup [0, 1, 2, 3, 4] by decide) (show List.Nodup [2, 0, 1, 3, 4] by decide) (List.forall_mem_cons.mpr ⟨(List.Mem.tail _ (List.Mem.head _)), (List.forall_mem_cons.mpr ⟨(List.Mem.tail _ (List.Mem.tail _ (List.Mem.head _))), (List.forall_mem_cons.mpr ⟨(List.Mem.head _), (List.forall_mem_cons.mpr ⟨(List.Mem.tail _ (List.Mem.tail _ (List.Mem.tail _ (List.Mem.head _)))), (List.forall_mem_cons.mpr ⟨(List.Mem.tail _ (List.Mem.tail _ (List.Mem.tail _ (List.Mem.tail _ (List.Mem.head _))))), (fun _ h => by cases h)⟩)⟩)⟩)⟩)⟩) ?_
                      exact ih75  (y75_2 + 1) ⟨by omega, by omega⟩ (show y4_2 ≤ y75_2 + 1 ∧ y75_2 + 1 ≤ (I 2753) by omega) (show (I 2753) - (y75_2 + 1) < (fu75 : Int) by omega)
              refine w_ls (ls := [(0, .ref 43), (1, .int (Int32.ofInt (i))), (2, .int (Int32.ofInt (y4_2))), (3, .int (Int32.ofInt (k63_0))), (4, .int (Int32.ofInt (v5)))]) (show List.Nodup [0, 1, 2, 3, 4] by decide) (show List.Nodup [3, 0, 1, 2, 4] by decide) (List.forall_mem_cons.mpr ⟨(List.Mem.tail _ (List.Mem.head _)), (List.forall_mem_cons.mpr ⟨(List.Mem.tail _ (List.Mem.tail _ (List.Mem.head _))), (List.forall_mem_cons.mpr ⟨(List.Mem.tail _ (List.Mem.tail _ (List.Mem.tail _ (List.Mem.head _)))), (List.forall_mem_cons.mpr ⟨(List.Mem.head _), (List.forall_mem_cons.mpr ⟨(List.Mem.tail _ (List.Mem.tail _ (List.Mem.tail _ (List.Mem.tail _ (List.Mem.head _))))), (fun _ h => by cases h)⟩)⟩)⟩)⟩)⟩) ?_
              exact lp75 (((I 2753) - y4_2).toNat + 1)  (y4_2) ⟨by omega, by omega⟩ (show y4_2 ≤ y4_2 ∧ y4_2 ≤ (I 2753) by omega) (show (I 2753) - y4_2 < ((((I 2753) - y4_2).toNat + 1 : Nat) : Int) by omega)
        refine w_adv (n := 2) (F' := (17, [(4, .int (Int32.ofInt (v5))), (0, .ref 43), (1, .int (Int32.ofInt (i))), (2, .int (Int32.ofInt (y4_2))), (3, .int (Int32.ofInt (y4_3)))], [.ref 43, .int (Int32.ofInt (y4_2))], M)) rfl ?_
        refine w_gf (v := .int (Int32.ofInt ((I 2753)))) hR rfl rfl rfl rfl ?_
        obtain ⟨r30, r31⟩ : -2147483648 ≤ (I 2753) ∧ (I 2753) ≤ 2147483647 := hR.ri 2753
        refine w_br2 (a := y4_2) (b := (I 2753)) rfl rfl ⟨by omega, by omega⟩ ⟨by omega, by omega⟩ (fun h32 => ?_) (fun h32 => ?_)
        · have h32 : y4_2 ≥ (I 2753) := h32
          show w_W _ _ _ (62, [(4, .int (Int32.ofInt (v5))), (0, .ref 43), (1, .int (Int32.ofInt (i))), (2, .int (Int32.ofInt (y4_2))), (3, .int (Int32.ofInt (y4_3)))], [], M) _
          refine w_adv (n := 1) (F' := (63, [(4, .int (Int32.ofInt (v5))), (0, .ref 43), (1, .int (Int32.ofInt (i))), (2, .int (Int32.ofInt (y4_2))), (3, .int (Int32.ofInt (y4_3)))], [.int (Int32.ofInt (0))], M)) rfl ?_
          refine w_ls (ls := [(0, .ref 43), (1, .int (Int32.ofInt (i))), (2, .int (Int32.ofInt (y4_2))), (3, .int (Int32.ofInt (y4_3))), (4, .int (Int32.ofInt (v5)))]) (show List.Nodup [0, 1, 2, 3, 4] by decide) (show List.Nodup [4, 0, 1, 2, 3] by decide) (List.forall_mem_cons.mpr ⟨(List.Mem.tail _ (List.Mem.head _)), (List.forall_mem_cons.mpr ⟨(List.Mem.tail _ (List.Mem.tail _ (List.Mem.head _))), (List.forall_mem_cons.mpr ⟨(List.Mem.tail _ (List.Mem.tail _ (List.Mem.tail _ (List.Mem.head _)))), (List.forall_mem_cons.mpr ⟨(List.Mem.tail _ (List.Mem.tail _ (List.Mem.tail _ (List.Mem.tail _ (List.Mem.head _))))), (List.forall_mem_cons.mpr ⟨(List.Mem.head _), (fun _ h => by cases h)⟩)⟩)⟩)⟩)⟩) ?_
          exact jn63 (0) ⟨by omega, by omega⟩ (show 0 = 0 ∨ (0 = 1 ∧ y4_2 < (I 2753)) by first | assumption | omega)
        · have h32 : ¬ (y4_2 ≥ (I 2753)) := h32
          show w_W _ _ _ (23, [(4, .int (Int32.ofInt (v5))), (0, .ref 43), (1, .int (Int32.ofInt (i))), (2, .int (Int32.ofInt (y4_2))), (3, .int (Int32.ofInt (y4_3)))], [], M) _
          refine w_adv (n := 2) (F' := (27, [(4, .int (Int32.ofInt (v5))), (0, .ref 43), (1, .int (Int32.ofInt (i))), (2, .int (Int32.ofInt (y4_2))), (3, .int (Int32.ofInt (y4_3)))], [.int (Int32.ofInt (9)), .int (Int32.ofInt (v5))], M)) rfl ?_
          refine w_br2 (a := v5) (b := 9) rfl rfl ⟨by omega, by omega⟩ ⟨by omega, by omega⟩ (fun h33 => ?_) (fun h33 => ?_)
          · have h33 : v5 = 9 := h33
            show w_W _ _ _ (58, [(4, .int (Int32.ofInt (v5))), (0, .ref 43), (1, .int (Int32.ofInt (i))), (2, .int (Int32.ofInt (y4_2))), (3, .int (Int32.ofInt (y4_3)))], [], M) _
            refine w_adv (n := 2) (F' := (63, [(4, .int (Int32.ofInt (v5))), (0, .ref 43), (1, .int (Int32.ofInt (i))), (2, .int (Int32.ofInt (y4_2))), (3, .int (Int32.ofInt (y4_3)))], [.int (Int32.ofInt (1))], M)) rfl ?_
            refine w_ls (ls := [(0, .ref 43), (1, .int (Int32.ofInt (i))), (2, .int (Int32.ofInt (y4_2))), (3, .int (Int32.ofInt (y4_3))), (4, .int (Int32.ofInt (v5)))]) (show List.Nodup [0, 1, 2, 3, 4] by decide) (show List.Nodup [4, 0, 1, 2, 3] by decide) (List.forall_mem_cons.mpr ⟨(List.Mem.tail _ (List.Mem.head _)), (List.forall_mem_cons.mpr ⟨(List.Mem.tail _ (List.Mem.tail _ (List.Mem.head _))), (List.forall_mem_cons.mpr ⟨(List.Mem.tail _ (List.Mem.tail _ (List.Mem.tail _ (List.Mem.head _)))), (List.forall_mem_cons.mpr ⟨(List.Mem.tail _ (List.Mem.tail _ (List.Mem.tail _ (List.Mem.tail _ (List.Mem.head _))))), (List.forall_mem_cons.mpr ⟨(List.Mem.head _), (fun _ h => by cases h)⟩)⟩)⟩)⟩)⟩) ?_
            exact jn63 (1) ⟨by omega, by omega⟩ (show 1 = 0 ∨ (1 = 1 ∧ y4_2 < (I 2753)) by first | assumption | omega)
          · have h33 : ¬ (v5 = 9) := h33
            show w_W _ _ _ (30, [(4, .int (Int32.ofInt (v5))), (0, .ref 43), (1, .int (Int32.ofInt (i))), (2, .int (Int32.ofInt (y4_2))), (3, .int (Int32.ofInt (y4_3)))], [], M) _
            refine w_adv (n := 2) (F' := (34, [(4, .int (Int32.ofInt (v5))), (0, .ref 43), (1, .int (Int32.ofInt (i))), (2, .int (Int32.ofInt (y4_2))), (3, .int (Int32.ofInt (y4_3)))], [.int (Int32.ofInt (10)), .int (Int32.ofInt (v5))], M)) rfl ?_
            refine w_br2 (a := v5) (b := 10) rfl rfl ⟨by omega, by omega⟩ ⟨by omega, by omega⟩ (fun h34 => ?_) (fun h34 => ?_)
            · have h34 : v5 = 10 := h34
              show w_W _ _ _ (58, [(4, .int (Int32.ofInt (v5))), (0, .ref 43), (1, .int (Int32.ofInt (i))), (2, .int (Int32.ofInt (y4_2))), (3, .int (Int32.ofInt (y4_3)))], [], M) _
              refine w_adv (n := 2) (F' := (63, [(4, .int (Int32.ofInt (v5))), (0, .ref 43), (1, .int (Int32.ofInt (i))), (2, .int (Int32.ofInt (y4_2))), (3, .int (Int32.ofInt (y4_3)))], [.int (Int32.ofInt (1))], M)) rfl ?_
              refine w_ls (ls := [(0, .ref 43), (1, .int (Int32.ofInt (i))), (2, .int (Int32.ofInt (y4_2))), (3, .int (Int32.ofInt (y4_3))), (4, .int (Int32.ofInt (v5)))]) (show List.Nodup [0, 1, 2, 3, 4] by decide) (show List.Nodup [4, 0, 1, 2, 3] by decide) (List.forall_mem_cons.mpr ⟨(List.Mem.tail _ (List.Mem.head _)), (List.forall_mem_cons.mpr ⟨(List.Mem.tail _ (List.Mem.tail _ (List.Mem.head _))), (List.forall_mem_cons.mpr ⟨(List.Mem.tail _ (List.Mem.tail _ (List.Mem.tail _ (List.Mem.head _)))), (List.forall_mem_cons.mpr ⟨(List.Mem.tail _ (List.Mem.tail _ (List.Mem.tail _ (List.Mem.tail _ (List.Mem.head _))))), (List.forall_mem_cons.mpr ⟨(List.Mem.head _), (fun _ h => by cases h)⟩)⟩)⟩)⟩)⟩) ?_
              exact jn63 (1) ⟨by omega, by omega⟩ (show 1 = 0 ∨ (1 = 1 ∧ y4_2 < (I 2753)) by first | assumption | omega)
            · have h34 : ¬ (v5 = 10) := h34
              show w_W _ _ _ (37, [(4, .int (Int32.ofInt (v5))), (0, .ref 43), (1, .int (Int32.ofInt (i))), (2, .int (Int32.ofInt (y4_2))), (3, .int (Int32.ofInt (y4_3)))], [], M) _
              refine w_adv (n := 2) (F' := (41, [(4, .int (Int32.ofInt (v5))), (0, .ref 43), (1, .int (Int32.ofInt (i))), (2, .int (Int32.ofInt (y4_2))), (3, .int (Int32.ofInt (y4_3)))], [.int (Int32.ofInt (13)), .int (Int32.ofInt (v5))], M)) rfl ?_
              refine w_br2 (a := v5) (b := 13) rfl rfl ⟨by omega, by omega⟩ ⟨by omega, by omega⟩ (fun h35 => ?_) (fun h35 => ?_)
              · have h35 : v5 = 13 := h35
                show w_W _ _ _ (58, [(4, .int (Int32.ofInt (v5))), (0, .ref 43), (1, .int (Int32.ofInt (i))), (2, .int (Int32.ofInt (y4_2))), (3, .int (Int32.ofInt (y4_3)))], [], M) _
                refine w_adv (n := 2) (F' := (63, [(4, .int (Int32.ofInt (v5))), (0, .ref 43), (1, .int (Int32.ofInt (i))), (2, .int (Int32.ofInt (y4_2))), (3, .int (Int32.ofInt (y4_3)))], [.int (Int32.ofInt (1))], M)) rfl ?_
                refine w_ls (ls := [(0, .ref 43), (1, .int (Int32.ofInt (i))), (2, .int (Int32.ofInt (y4_2))), (3, .int (Int32.ofInt (y4_3))), (4, .int (Int32.ofInt (v5)))]) (show List.Nodup [0, 1, 2, 3, 4] by decide) (show List.Nodup [4, 0, 1, 2, 3] by decide) (List.forall_mem_cons.mpr ⟨(List.Mem.tail _ (List.Mem.head _)), (List.forall_mem_cons.mpr ⟨(List.Mem.tail _ (List.Mem.tail _ (List.Mem.head _))), (List.forall_mem_cons.mpr ⟨(List.Mem.tail _ (List.Mem.tail _ (List.Mem.tail _ (List.Mem.head _)))), (List.forall_mem_cons.mpr ⟨(List.Mem.tail _ (List.Mem.tail _ (List.Mem.tail _ (List.Mem.tail _ (List.Mem.head _))))), (List.forall_mem_cons.mpr ⟨(List.Mem.head _), (fun _ h => by cases h)⟩)⟩)⟩)⟩)⟩) ?_
                exact jn63 (1) ⟨by omega, by omega⟩ (show 1 = 0 ∨ (1 = 1 ∧ y4_2 < (I 2753)) by first | assumption | omega)
              · have h35 : ¬ (v5 = 13) := h35
                show w_W _ _ _ (44, [(4, .int (Int32.ofInt (v5))), (0, .ref 43), (1, .int (Int32.ofInt (i))), (2, .int (Int32.ofInt (y4_2))), (3, .int (Int32.ofInt (y4_3)))], [], M) _
                refine w_adv (n := 2) (F' := (48, [(4, .int (Int32.ofInt (v5))), (0, .ref 43), (1, .int (Int32.ofInt (i))), (2, .int (Int32.ofInt (y4_2))), (3, .int (Int32.ofInt (y4_3)))], [.int (Int32.ofInt (32)), .int (Int32.ofInt (v5))], M)) rfl ?_
                refine w_br2 (a := v5) (b := 32) rfl rfl ⟨by omega, by omega⟩ ⟨by omega, by omega⟩ (fun h36 => ?_) (fun h36 => ?_)
                · have h36 : v5 = 32 := h36
                  show w_W _ _ _ (58, [(4, .int (Int32.ofInt (v5))), (0, .ref 43), (1, .int (Int32.ofInt (i))), (2, .int (Int32.ofInt (y4_2))), (3, .int (Int32.ofInt (y4_3)))], [], M) _
                  refine w_adv (n := 2) (F' := (63, [(4, .int (Int32.ofInt (v5))), (0, .ref 43), (1, .int (Int32.ofInt (i))), (2, .int (Int32.ofInt (y4_2))), (3, .int (Int32.ofInt (y4_3)))], [.int (Int32.ofInt (1))], M)) rfl ?_
                  refine w_ls (ls := [(0, .ref 43), (1, .int (Int32.ofInt (i))), (2, .int (Int32.ofInt (y4_2))), (3, .int (Int32.ofInt (y4_3))), (4, .int (Int32.ofInt (v5)))]) (show List.Nodup [0, 1, 2, 3, 4] by decide) (show List.Nodup [4, 0, 1, 2, 3] by decide) (List.forall_mem_cons.mpr ⟨(List.Mem.tail _ (List.Mem.head _)), (List.forall_mem_cons.mpr ⟨(List.Mem.tail _ (List.Mem.tail _ (List.Mem.head _))), (List.forall_mem_cons.mpr ⟨(List.Mem.tail _ (List.Mem.tail _ (List.Mem.tail _ (List.Mem.head _)))), (List.forall_mem_cons.mpr ⟨(List.Mem.tail _ (List.Mem.tail _ (List.Mem.tail _ (List.Mem.tail _ (List.Mem.head _))))), (List.forall_mem_cons.mpr ⟨(List.Mem.head _), (fun _ h => by cases h)⟩)⟩)⟩)⟩)⟩) ?_
                  exact jn63 (1) ⟨by omega, by omega⟩ (show 1 = 0 ∨ (1 = 1 ∧ y4_2 < (I 2753)) by first | assumption | omega)
                · have h36 : ¬ (v5 = 32) := h36
                  show w_W _ _ _ (51, [(4, .int (Int32.ofInt (v5))), (0, .ref 43), (1, .int (Int32.ofInt (i))), (2, .int (Int32.ofInt (y4_2))), (3, .int (Int32.ofInt (y4_3)))], [], M) _
                  refine w_adv (n := 2) (F' := (55, [(4, .int (Int32.ofInt (v5))), (0, .ref 43), (1, .int (Int32.ofInt (i))), (2, .int (Int32.ofInt (y4_2))), (3, .int (Int32.ofInt (y4_3)))], [.int (Int32.ofInt (37)), .int (Int32.ofInt (v5))], M)) rfl ?_
                  refine w_br2 (a := v5) (b := 37) rfl rfl ⟨by omega, by omega⟩ ⟨by omega, by omega⟩ (fun h37 => ?_) (fun h37 => ?_)
                  · have h37 : ¬ v5 = 37 := h37
                    show w_W _ _ _ (62, [(4, .int (Int32.ofInt (v5))), (0, .ref 43), (1, .int (Int32.ofInt (i))), (2, .int (Int32.ofInt (y4_2))), (3, .int (Int32.ofInt (y4_3)))], [], M) _
                    refine w_adv (n := 1) (F' := (63, [(4, .int (Int32.ofInt (v5))), (0, .ref 43), (1, .int (Int32.ofInt (i))), (2, .int (Int32.ofInt (y4_2))), (3, .int (Int32.ofInt (y4_3)))], [.int (Int32.ofInt (0))], M)) rfl ?_
                    refine w_ls (ls := [(0, .ref 43), (1, .int (Int32.ofInt (i))), (2, .int (Int32.ofInt (y4_2))), (3, .int (Int32.ofInt (y4_3))), (4, .int (Int32.ofInt (v5)))]) (show List.Nodup [0, 1, 2, 3, 4] by decide) (show List.Nodup [4, 0, 1, 2, 3] by decide) (List.forall_mem_cons.mpr ⟨(List.Mem.tail _ (List.Mem.head _)), (List.forall_mem_cons.mpr ⟨(List.Mem.tail _ (List.Mem.tail _ (List.Mem.head _))), (List.forall_mem_cons.mpr ⟨(List.Mem.tail _ (List.Mem.tail _ (List.Mem.tail _ (List.Mem.head _)))), (List.forall_mem_cons.mpr ⟨(List.Mem.tail _ (List.Mem.tail _ (List.Mem.tail _ (List.Mem.tail _ (List.Mem.head _))))), (List.forall_mem_cons.mpr ⟨(List.Mem.head _), (fun _ h => by cases h)⟩)⟩)⟩)⟩)⟩) ?_
                    exact jn63 (0) ⟨by omega, by omega⟩ (show 0 = 0 ∨ (0 = 1 ∧ y4_2 < (I 2753)) by first | assumption | omega)
                  · have h37 : ¬ (¬ v5 = 37) := h37
                    show w_W _ _ _ (58, [(4, .int (Int32.ofInt (v5))), (0, .ref 43), (1, .int (Int32.ofInt (i))), (2, .int (Int32.ofInt (y4_2))), (3, .int (Int32.ofInt (y4_3)))], [], M) _
                    refine w_adv (n := 2) (F' := (63, [(4, .int (Int32.ofInt (v5))), (0, .ref 43), (1, .int (Int32.ofInt (i))), (2, .int (Int32.ofInt (y4_2))), (3, .int (Int32.ofInt (y4_3)))], [.int (Int32.ofInt (1))], M)) rfl ?_
                    refine w_ls (ls := [(0, .ref 43), (1, .int (Int32.ofInt (i))), (2, .int (Int32.ofInt (y4_2))), (3, .int (Int32.ofInt (y4_3))), (4, .int (Int32.ofInt (v5)))]) (show List.Nodup [0, 1, 2, 3, 4] by decide) (show List.Nodup [4, 0, 1, 2, 3] by decide) (List.forall_mem_cons.mpr ⟨(List.Mem.tail _ (List.Mem.head _)), (List.forall_mem_cons.mpr ⟨(List.Mem.tail _ (List.Mem.tail _ (List.Mem.head _))), (List.forall_mem_cons.mpr ⟨(List.Mem.tail _ (List.Mem.tail _ (List.Mem.tail _ (List.Mem.head _)))), (List.forall_mem_cons.mpr ⟨(List.Mem.tail _ (List.Mem.tail _ (List.Mem.tail _ (List.Mem.tail _ (List.Mem.head _))))), (List.forall_mem_cons.mpr ⟨(List.Mem.head _), (fun _ h => by cases h)⟩)⟩)⟩)⟩)⟩) ?_
                    exact jn63 (1) ⟨by omega, by omega⟩ (show 1 = 0 ∨ (1 = 1 ∧ y4_2 < (I 2753)) by first | assumption | omega)
  refine w_ls (ls := [(0, .ref 43), (1, .int (Int32.ofInt (i))), (2, .int (Int32.ofInt (i))), (3, .int (Int32.ofInt (1)))]) (show List.Nodup [0, 1, 2, 3] by decide) (show List.Nodup [3, 2, 0, 1] by decide) (List.forall_mem_cons.mpr ⟨(List.Mem.tail _ (List.Mem.tail _ (List.Mem.head _))), (List.forall_mem_cons.mpr ⟨(List.Mem.tail _ (List.Mem.tail _ (List.Mem.tail _ (List.Mem.head _)))), (List.forall_mem_cons.mpr ⟨(List.Mem.tail _ (List.Mem.head _)), (List.forall_mem_cons.mpr ⟨(List.Mem.head _), (fun _ h => by cases h)⟩)⟩)⟩)⟩) ?_
  exact lp4 ((2 * ((I 2753) - i) + 1).toNat + 1)  (i) (1) ⟨by omega, by omega⟩ ⟨by omega, by omega⟩ (show i ≤ i ∧ i ≤ (I 2753) ∧ (1 = 0 ∨ 1 = 1) by omega) (show 2 * ((I 2753) - i) + 1 < (((2 * ((I 2753) - i) + 1).toNat + 1 : Nat) : Int) by omega)
