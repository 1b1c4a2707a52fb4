/-! CALLS of the reference that only look. -/
def m_IT (I : Nat → Int) (A : Nat → Int → Int) : Prop := ∀ s, 0 ≤ s → s < I 4609 → 0 ≤ A 82 s ∧ 0 ≤ A 84 s ∧ A 82 s + A 84 s ≤ I 5505
def m_VN (I : Nat → Int) (A : Nat → Int → Int) : Prop := ∀ i, 0 ≤ i → i < I 4481 → -1 ≤ A 70 i ∧ A 70 i < 400
def m_cut_Q (fr : Nat → Bool) (X : Nat → Option (q_C (Nat → Int32))) (u l : Nat) (I : Nat → Int) (A : Nat → Int → Int) (B C : Nat → Nat) (M : w_M) (n : Int) : w_X → w_M → Prop := fun r M' => ((r = .inl (some (-1))) ∧ (M' = M) ∧ (n < 0 ∨ (I 2753) < n)) ∨ ((r = .inl (some n)) ∧ (w_Rep w_TM fr X u l (w_up I 2753 (n)) A B C M') ∧ (0 ≤ n ∧ n ≤ (I 2753)))
set_option maxHeartbeats 100000000 in
set_option maxRecDepth 100000 in
theorem m_cut {L : Nat} {xs : Nat → Int32} {d : Nat} {fr : Nat → Bool} {X : Nat → Option (q_C (Nat → Int32))} {u l : Nat} {I : Nat → Int} {A : Nat → Int → Int} {B C : Nat → Nat} {M : w_M} (n : Int) (hR : w_Rep w_TM fr X u l I A B C M) (r_n : w_in n) : w_W (z_P L xs) d 209 (0, [(0, .ref 43), (1, .int (Int32.ofInt (n)))], [], M) (m_cut_Q fr X u l I A B C M n) := by
  obtain ⟨ra_n, rb_n⟩ := r_n
  refine w_adv (n := 1) (F' := (1, [(0, .ref 43), (1, .int (Int32.ofInt (n)))], [.int (Int32.ofInt (n))], M)) rfl ?_
  refine w_br1 (a := n) rfl rfl ⟨by omega, by omega⟩ (fun h1 => ?_) (fun h1 => ?_)
  · have h1 : n < 0 := h1
    show w_W _ _ _ (12, [(0, .ref 43), (1, .int (Int32.ofInt (n)))], [], M) _
    refine w_adv (n := 1) (F' := (13, [(0, .ref 43), (1, .int (Int32.ofInt (n)))], [.int (Int32.ofInt ((-1)))], M)) rfl ?_
    refine w_fin (r := .inl (some ((-1)))) (M' := M) rfl ?_
    first
      | exact Or.inl ⟨rfl, rfl, (show n < 0 ∨ (I 2753) < n by first | assumption | omega)⟩
      | exact Or.inr (⟨rfl, (w_Rep.up hR (show (w_up I 2753 (n)) = I from (funext fun s => if e0 : s = 2753 then (by subst e0; rfl) else (by simp only [w_up_ne e0]))) (show A = A from rfl)), (show 0 ≤ n ∧ n ≤ (I 2753) by first | assumption | omega)⟩)
  · have h1 : ¬ (n < 0) := h1
    show w_W _ _ _ (4, [(0, .ref 43), (1, .int (Int32.ofInt (n)))], [], M) _
    refine w_adv (n := 2) (F' := (6, [(0, .ref 43), (1, .int (Int32.ofInt (n)))], [.ref 43, .int (Int32.ofInt (n))], M)) rfl ?_
    refine w_gf (v := .int (Int32.ofInt ((I 2753)))) hR rfl rfl rfl rfl ?_
    obtain ⟨r2, r3⟩ : -2147483648 ≤ (I 2753) ∧ (I 2753) ≤ 2147483647 := hR.ri 2753
    refine w_br2 (a := n) (b := (I 2753)) rfl rfl ⟨by omega, by omega⟩ ⟨by omega, by omega⟩ (fun h4 => ?_) (fun h4 => ?_)
    · have h4 : n ≤ (I 2753) := h4
      show w_W _ _ _ (14, [(0, .ref 43), (1, .int (Int32.ofInt (n)))], [], M) _
      refine w_adv (n := 2) (F' := (16, [(0, .ref 43), (1, .int (Int32.ofInt (n)))], [.int (Int32.ofInt (n)), .ref 43], M)) rfl ?_
      refine w_pf hR rfl rfl rfl rfl (show w_in (n) from ⟨by omega, by omega⟩) (fun h => absurd h (by decide)) (fun M5 hR6 => ?_)
      replace hR6 : w_Rep w_TM fr X u l (w_up I 2753 (n)) A B C M5 := hR6
      refine w_adv (n := 1) (F' := (20, [(0, .ref 43), (1, .int (Int32.ofInt (n)))], [.int (Int32.ofInt (n))], M5)) rfl ?_
      refine w_fin (r := .inl (some (n))) (M' := M5) rfl ?_
      exact Or.inr (⟨rfl, hR6, (show 0 ≤ n ∧ n ≤ (I 2753) by first | assumption | omega)⟩)
    · have h4 : ¬ (n ≤ (I 2753)) := h4
      show w_W _ _ _ (12, [(0, .ref 43), (1, .int (Int32.ofInt (n)))], [], M) _
      refine w_adv (n := 1) (F' := (13, [(0, .ref 43), (1, .int (Int32.ofInt (n)))], [.int (Int32.ofInt ((-1)))], M)) rfl ?_
      refine w_fin (r := .inl (some ((-1)))) (M' := M) rfl ?_
      first
        | exact Or.inl ⟨rfl, rfl, (show n < 0 ∨ (I 2753) < n by first | assumption | omega)⟩
        | exact Or.inr (⟨rfl, (w_Rep.up hR (show (w_up I 2753 (n)) = I from (funext fun s => if e0 : s = 2753 then (by subst e0; rfl) else (by simp only [w_up_ne e0]))) (show A = A from rfl)), (show 0 ≤ n ∧ n ≤ (I 2753) by first | assumption | omega)⟩)
def m_fault_Q (fr : Nat → Bool) (X : Nat → Option (q_C (Nat → Int32))) (u l : Nat) (I : Nat → Int) (A : Nat → Int → Int) (B C : Nat → Nat) (M : w_M) (w : Int) : w_X → w_M → Prop := fun r M' => (∃ v : Int, (r = .inl (some v)) ∧ (w_in v) ∧ (M' = M))
set_option maxHeartbeats 100000000 in
set_option maxRecDepth 100000 in
theorem m_fault {L : Nat} {xs : Nat → Int32} {d : Nat} {fr : Nat → Bool} {X : Nat → Option (q_C (Nat → Int32))} {u l : Nat} {I : Nat → Int} {A : Nat → Int → Int} {B C : Nat → Nat} {M : w_M} (w : Int) (hR : w_Rep w_TM fr X u l I A B C M) (r_w : w_in w) : w_W (z_P L xs) d 305 (0, [(0, .ref 43), (1, .int (Int32.ofInt (w)))], [], M) (m_fault_Q fr X u l I A B C M w) := by
  obtain ⟨ra_w, rb_w⟩ := r_w
  refine w_adv (n := 1) (F' := (1, [(0, .ref 43), (1, .int (Int32.ofInt (w)))], [.int (Int32.ofInt (w))], M)) rfl ?_
  refine w_br1 (a := w) rfl rfl ⟨by omega, by omega⟩ (fun h1 => ?_) (fun h1 => ?_)
  · have h1 : ¬ w = 0 := h1
    show w_W _ _ _ (9, [(0, .ref 43), (1, .int (Int32.ofInt (w)))], [], M) _
    refine w_adv (n := 2) (F' := (11, [(0, .ref 43), (1, .int (Int32.ofInt (w)))], [.int (Int32.ofInt (1)), .int (Int32.ofInt (w))], M)) rfl ?_
    refine w_br2 (a := w) (b := 1) rfl rfl ⟨by omega, by omega⟩ ⟨by omega, by omega⟩ (fun h2 => ?_) (fun h2 => ?_)
    · have h2 : w < 1 := h2
      show w_W _ _ _ (26, [(0, .ref 43), (1, .int (Int32.ofInt (w)))], [], M) _
      refine w_adv (n := 1) (F' := (27, [(0, .ref 43), (1, .int (Int32.ofInt (w)))], [.int (Int32.ofInt ((-1)))], M)) rfl ?_
      refine w_fin (r := .inl (some ((-1)))) (M' := M) rfl ?_
      exact ⟨(-1), rfl, ⟨by omega, by omega⟩, rfl⟩
    · have h2 : ¬ (w < 1) := h2
      show w_W _ _ _ (14, [(0, .ref 43), (1, .int (Int32.ofInt (w)))], [], M) _
      refine w_adv (n := 2) (F' := (16, [(0, .ref 43), (1, .int (Int32.ofInt (w)))], [.int (Int32.ofInt (3)), .int (Int32.ofInt (w))], M)) rfl ?_
      refine w_br2 (a := w) (b := 3) rfl rfl ⟨by omega, by omega⟩ ⟨by omega, by omega⟩ (fun h3 => ?_) (fun h3 => ?_)
      · have h3 : w > 3 := h3
        show w_W _ _ _ (26, [(0, .ref 43), (1, .int (Int32.ofInt (w)))], [], M) _
        refine w_adv (n := 1) (F' := (27, [(0, .ref 43), (1, .int (Int32.ofInt (w)))], [.int (Int32.ofInt ((-1)))], M)) rfl ?_
        refine w_fin (r := .inl (some ((-1)))) (M' := M) rfl ?_
        exact ⟨(-1), rfl, ⟨by omega, by omega⟩, rfl⟩
      · have h3 : ¬ (w > 3) := h3
        show w_W _ _ _ (19, [(0, .ref 43), (1, .int (Int32.ofInt (w)))], [], M) _
        refine w_adv (n := 1) (F' := (20, [(0, .ref 43), (1, .int (Int32.ofInt (w)))], [.ref 43], M)) rfl ?_
        refine w_gf (v := .int (Int32.ofInt ((I 2778)))) hR rfl rfl rfl rfl ?_
        obtain ⟨r4, r5⟩ : -2147483648 ≤ (I 2778) ∧ (I 2778) ≤ 2147483647 := hR.ri 2778
        refine w_br1 (a := (I 2778)) rfl rfl ⟨by omega, by omega⟩ (fun h6 => ?_) (fun h6 => ?_)
        · have h6 : ¬ (I 2778) = 0 := h6
          show w_W _ _ _ (28, [(0, .ref 43), (1, .int (Int32.ofInt (w)))], [], M) _
          refine w_adv (n := 2) (F' := (30, [(0, .ref 43), (1, .int (Int32.ofInt (w)))], [.int (Int32.ofInt (1)), .int (Int32.ofInt (w))], M)) rfl ?_
          refine w_br2 (a := w) (b := 1) rfl rfl ⟨by omega, by omega⟩ ⟨by omega, by omega⟩ (fun h7 => ?_) (fun h7 => ?_)
          · have h7 : ¬ w = 1 := h7
            show w_W _ _ _ (40, [(0, .ref 43), (1, .int (Int32.ofInt (w)))], [], M) _
            refine w_adv (n := 2) (F' := (42, [(0, .ref 43), (1, .int (Int32.ofInt (w)))], [.int (Int32.ofInt (2)), .int (Int32.ofInt (w))], M)) rfl ?_
            refine w_br2 (a := w) (b := 2) rfl rfl ⟨by omega, by omega⟩ ⟨by omega, by omega⟩ (fun h8 => ?_) (fun h8 => ?_)
            · have h8 : ¬ w = 2 := h8
              show w_W _ _ _ (52, [(0, .ref 43), (1, .int (Int32.ofInt (w)))], [], M) _
              refine w_adv (n := 1) (F' := (53, [(0, .ref 43), (1, .int (Int32.ofInt (w)))], [.ref 43], M)) rfl ?_
              refine w_gf (v := .int (Int32.ofInt ((I 2781)))) hR rfl rfl rfl rfl ?_
              obtain ⟨r9, r10⟩ : -2147483648 ≤ (I 2781) ∧ (I 2781) ≤ 2147483647 := hR.ri 2781
              refine w_fin (r := .inl (some ((I 2781)))) (M' := M) rfl ?_
              exact ⟨(I 2781), rfl, ⟨by omega, by omega⟩, rfl⟩
            · have h8 : ¬ (¬ w = 2) := h8
              show w_W _ _ _ (45, [(0, .ref 43), (1, .int (Int32.ofInt (w)))], [], M) _
              refine w_adv (n := 1) (F' := (46, [(0, .ref 43), (1, .int (Int32.ofInt (w)))], [.ref 43], M)) rfl ?_
              refine w_gf (v := .int (Int32.ofInt ((I 2780)))) hR rfl rfl rfl rfl ?_
              obtain ⟨r11, r12⟩ : -2147483648 ≤ (I 2780) ∧ (I 2780) ≤ 2147483647 := hR.ri 2780
              refine w_adv (n := 1) (F' := (56, [(0, .ref 43), (1, .int (Int32.ofInt (w)))], [.int (Int32.ofInt ((I 2780)))], M)) rfl ?_
              refine w_fin (r := .inl (some ((I 2780)))) (M' := M) rfl ?_
              exact ⟨(I 2780), rfl, ⟨by omega, by omega⟩, rfl⟩
          · have h7 : ¬ (¬ w = 1) := h7
            show w_W _ _ _ (33, [(0, .ref 43), (1, .int (Int32.ofInt (w)))], [], M) _
            refine w_adv (n := 1) (F' := (34, [(0, .ref 43), (1, .int (Int32.ofInt (w)))], [.ref 43], M)) rfl ?_
            refine w_gf (v := .int (Int32.ofInt ((I 2779)))) hR rfl rfl rfl rfl ?_
            obtain ⟨r13, r14⟩ : -2147483648 ≤ (I 2779) ∧ (I 2779) ≤ 2147483647 := hR.ri 2779
            refine w_adv (n := 1) (F' := (56, [(0, .ref 43), (1, .int (Int32.ofInt (w)))], [.int (Int32.ofInt ((I 2779)))], M)) rfl ?_
            refine w_fin (r := .inl (some ((I 2779)))) (M' := M) rfl ?_
            exact ⟨(I 2779), rfl, ⟨by omega, by omega⟩, rfl⟩
        · have h6 : ¬ (¬ (I 2778) = 0) := h6
          show w_W _ _ _ (26, [(0, .ref 43), (1, .int (Int32.ofInt (w)))], [], M) _
          refine w_adv (n := 1) (F' := (27, [(0, .ref 43), (1, .int (Int32.ofInt (w)))], [.int (Int32.ofInt ((-1)))], M)) rfl ?_
          refine w_fin (r := .inl (some ((-1)))) (M' := M) rfl ?_
          exact ⟨(-1), rfl, ⟨by omega, by omega⟩, rfl⟩
  · have h1 : ¬ (¬ w = 0) := h1
    show w_W _ _ _ (4, [(0, .ref 43), (1, .int (Int32.ofInt (w)))], [], M) _
    refine w_adv (n := 1) (F' := (5, [(0, .ref 43), (1, .int (Int32.ofInt (w)))], [.ref 43], M)) rfl ?_
    refine w_gf (v := .int (Int32.ofInt ((I 2778)))) hR rfl rfl rfl rfl ?_
    obtain ⟨r15, r16⟩ : -2147483648 ≤ (I 2778) ∧ (I 2778) ≤ 2147483647 := hR.ri 2778
    refine w_fin (r := .inl (some ((I 2778)))) (M' := M) rfl ?_
    exact ⟨(I 2778), rfl, ⟨by omega, by omega⟩, rfl⟩
def m_count_Q (fr : Nat → Bool) (X : Nat → Option (q_C (Nat → Int32))) (u l : Nat) (I : Nat → Int) (A : Nat → Int → Int) (B C : Nat → Nat) (M : w_M) (w : Int) : w_X → w_M → Prop := fun r M' => (∃ v : Int, (r = .inl (some v)) ∧ (w_in v) ∧ (M' = M))
set_option maxHeartbeats 100000000 in
set_option maxRecDepth 100000 in
theorem m_count {L : Nat} {xs : Nat → Int32} {d : Nat} {fr : Nat → Bool} {X : Nat → Option (q_C (Nat → Int32))} {u l : Nat} {I : Nat → Int} {A : Nat → Int → Int} {B C : Nat → Nat} {M : w_M} (w : Int) (hR : w_Rep w_TM fr X u l I A B C M) (r_w : w_in w) : w_W (z_P L xs) d 306 (0, [(0, .ref 43), (1, .int (Int32.ofInt (w)))], [], M) (m_count_Q fr X u l I A B C M w) := by
  obtain ⟨ra_w, rb_w⟩ := r_w
  refine w_adv (n := 1) (F' := (1, [(0, .ref 43), (1, .int (Int32.ofInt (w)))], [.int (Int32.ofInt (w))], M)) rfl ?_
  rcases (show (w < 0 ∨ 3 < w) ∨ w = 0 ∨ w = 1 ∨ w = 2 ∨ w = 3 by omega) with h1 | h1 | h1 | h1 | h1
  · refine w_swd rfl ⟨by omega, by omega⟩ h1 rfl ?_
    show w_W _ _ _ (58, [(0, .ref 43), (1, .int (Int32.ofInt (w)))], [], M) _
    refine w_adv (n := 1) (F' := (59, [(0, .ref 43), (1, .int (Int32.ofInt (w)))], [.int (Int32.ofInt ((-1)))], M)) rfl ?_
    refine w_fin (r := .inl (some ((-1)))) (M' := M) rfl ?_
    exact ⟨(-1), rfl, ⟨by omega, by omega⟩, rfl⟩
  · refine w_sw (v := 0) (F' := (32, [(0, .ref 43), (1, .int (Int32.ofInt (w)))], [], M)) h1 rfl rfl ?_
    refine w_adv (n := 1) (F' := (33, [(0, .ref 43), (1, .int (Int32.ofInt (w)))], [.ref 43], M)) rfl ?_
    refine w_gf (v := .ref 72) hR rfl rfl rfl rfl ?_
    refine w_gf (v := .int (Int32.ofInt ((I 4609)))) hR rfl rfl rfl rfl ?_
    obtain ⟨r2, r3⟩ : -2147483648 ≤ (I 4609) ∧ (I 4609) ≤ 2147483647 := hR.ri 4609
    obtain ⟨r4a, r4b, r4c⟩ : 0 ≤ (I 4609) ∧ (I 4609) ≤ (C 72 : Int) ∧ (C 72 : Int) ≤ 131072 := hR.sz (show 72 ∈ w_TM.2.2 by decide)
    refine w_fin (r := .inl (some ((I 4609)))) (M' := M) rfl ?_
    exact ⟨(I 4609), rfl, ⟨by omega, by omega⟩, rfl⟩
  · refine w_sw (v := 1) (F' := (40, [(0, .ref 43), (1, .int (Int32.ofInt (w)))], [], M)) h1 rfl rfl ?_
    refine w_adv (n := 1) (F' := (41, [(0, .ref 43), (1, .int (Int32.ofInt (w)))], [.ref 43], M)) rfl ?_
    refine w_gf (v := .ref 70) hR rfl rfl rfl rfl ?_
    refine w_gf (v := .int (Int32.ofInt ((I 4481)))) hR rfl rfl rfl rfl ?_
    obtain ⟨r5, r6⟩ : -2147483648 ≤ (I 4481) ∧ (I 4481) ≤ 2147483647 := hR.ri 4481
    obtain ⟨r7a, r7b, r7c⟩ : 0 ≤ (I 4481) ∧ (I 4481) ≤ (C 70 : Int) ∧ (C 70 : Int) ≤ 131072 := hR.sz (show 70 ∈ w_TM.2.2 by decide)
    refine w_fin (r := .inl (some ((I 4481)))) (M' := M) rfl ?_
    exact ⟨(I 4481), rfl, ⟨by omega, by omega⟩, rfl⟩
  · refine w_sw (v := 2) (F' := (48, [(0, .ref 43), (1, .int (Int32.ofInt (w)))], [], M)) h1 rfl rfl ?_
    refine w_adv (n := 1) (F' := (49, [(0, .ref 43), (1, .int (Int32.ofInt (w)))], [.ref 43], M)) rfl ?_
    refine w_gf (v := .int (Int32.ofInt ((I 2760)))) hR rfl rfl rfl rfl ?_
    obtain ⟨r8, r9⟩ : -2147483648 ≤ (I 2760) ∧ (I 2760) ≤ 2147483647 := hR.ri 2760
    refine w_fin (r := .inl (some ((I 2760)))) (M' := M) rfl ?_
    exact ⟨(I 2760), rfl, ⟨by omega, by omega⟩, rfl⟩
  · refine w_sw (v := 3) (F' := (53, [(0, .ref 43), (1, .int (Int32.ofInt (w)))], [], M)) h1 rfl rfl ?_
    refine w_adv (n := 1) (F' := (54, [(0, .ref 43), (1, .int (Int32.ofInt (w)))], [.ref 43], M)) rfl ?_
    refine w_gf (v := .int (Int32.ofInt ((I 2753)))) hR rfl rfl rfl rfl ?_
    obtain ⟨r10, r11⟩ : -2147483648 ≤ (I 2753) ∧ (I 2753) ≤ 2147483647 := hR.ri 2753
    refine w_fin (r := .inl (some ((I 2753)))) (M' := M) rfl ?_
    exact ⟨(I 2753), rfl, ⟨by omega, by omega⟩, rfl⟩
def m_uses_Q (fr : Nat → Bool) (X : Nat → Option (q_C (Nat → Int32))) (u l : Nat) (I : Nat → Int) (A : Nat → Int → Int) (B C : Nat → Nat) (M : w_M) : w_X → w_M → Prop := fun r M' => (∃ v : Int, (r = .inl (some v)) ∧ (w_in v) ∧ (M' = M))
set_option maxHeartbeats 100000000 in
set_option maxRecDepth 100000 in
theorem m_uses {L : Nat} {xs : Nat → Int32} {d : Nat} {fr : Nat → Bool} {X : Nat → Option (q_C (Nat → Int32))} {u l : Nat} {I : Nat → Int} {A : Nat → Int → Int} {B C : Nat → Nat} {M : w_M} (hR : w_Rep w_TM fr X u l I A B C M) : w_W (z_P L xs) d 310 (0, [(0, .ref 43)], [], M) (m_uses_Q fr X u l I A B C M) := by
  refine w_adv (n := 1) (F' := (1, [(0, .ref 43)], [.ref 43], M)) rfl ?_
  refine w_gf (v := .int (Int32.ofInt ((I 2776)))) hR rfl rfl rfl rfl ?_
  obtain ⟨r1, r2⟩ : -2147483648 ≤ (I 2776) ∧ (I 2776) ≤ 2147483647 := hR.ri 2776
  refine w_fin (r := .inl (some ((I 2776)))) (M' := M) rfl ?_
  exact ⟨(I 2776), rfl, ⟨by omega, by omega⟩, rfl⟩
def m_nodeC_Q (fr : Nat → Bool) (X : Nat → Option (q_C (Nat → Int32))) (u l : Nat) (I : Nat → Int) (A : Nat → Int → Int) (B C : Nat → Nat) (M : w_M) (s : Int) (w : Int) : w_X → w_M → Prop := fun r M' => (∃ v : Int, (r = .inl (some v)) ∧ (w_in v) ∧ (M' = M))
set_option maxHeartbeats 100000000 in
set_option maxRecDepth 100000 in
theorem m_nodeC {L : Nat} {xs : Nat → Int32} {d : Nat} {fr : Nat → Bool} {X : Nat → Option (q_C (Nat → Int32))} {u l : Nat} {I : Nat → Int} {A : Nat → Int → Int} {B C : Nat → Nat} {M : w_M} (s : Int) (w : Int) (hR : w_Rep w_TM fr X u l I A B C M) (hd : 1 ≤ d) (r_s : w_in s) (r_w : w_in w) (hN : ((I 4737) = (I 4609) ∧ (I 4865) = (I 4609) ∧ (I 4993) = (I 4609) ∧ (I 5121) = (I 4609) ∧ (I 5249) = (I 4609) ∧ (I 5377) = (I 4609)) ∧ (0 ≤ (I 4609) ∧ 0 ≤ (I 4481) ∧ 0 ≤ (I 5505))) : w_W (z_P L xs) d 307 (0, [(0, .ref 43), (1, .int (Int32.ofInt (s))), (2, .int (Int32.ofInt (w)))], [], M) (m_nodeC_Q fr X u l I A B C M s w) := by
  obtain ⟨ra_s, rb_s⟩ := r_s
  obtain ⟨ra_w, rb_w⟩ := r_w
  obtain ⟨d, rfl⟩ : ∃ d0, d = d0 + 1 := ⟨d - 1, by omega⟩
  refine w_adv (n := 1) (F' := (1, [(0, .ref 43), (1, .int (Int32.ofInt (s))), (2, .int (Int32.ofInt (w)))], [.int (Int32.ofInt (s))], M)) rfl ?_
  refine w_br1 (a := s) rfl rfl ⟨by omega, by omega⟩ (fun h1 => ?_) (fun h1 => ?_)
  · have h1 : s < 0 := h1
    show w_W _ _ _ (15, [(0, .ref 43), (1, .int (Int32.ofInt (s))), (2, .int (Int32.ofInt (w)))], [], M) _
    refine w_adv (n := 1) (F' := (16, [(0, .ref 43), (1, .int (Int32.ofInt (s))), (2, .int (Int32.ofInt (w)))], [.int (Int32.ofInt ((-1)))], M)) rfl ?_
    refine w_fin (r := .inl (some ((-1)))) (M' := M) rfl ?_
    exact ⟨(-1), rfl, ⟨by omega, by omega⟩, rfl⟩
  · have h1 : ¬ (s < 0) := h1
    show w_W _ _ _ (4, [(0, .ref 43), (1, .int (Int32.ofInt (s))), (2, .int (Int32.ofInt (w)))], [], M) _
    refine w_adv (n := 2) (F' := (6, [(0, .ref 43), (1, .int (Int32.ofInt (s))), (2, .int (Int32.ofInt (w)))], [.ref 43, .int (Int32.ofInt (s))], M)) rfl ?_
    refine w_gf (v := .ref 72) hR rfl rfl rfl rfl ?_
    refine w_gf (v := .int (Int32.ofInt ((I 4609)))) hR rfl rfl rfl rfl ?_
    obtain ⟨r2, r3⟩ : -2147483648 ≤ (I 4609) ∧ (I 4609) ≤ 2147483647 := hR.ri 4609
    obtain ⟨r4a, r4b, r4c⟩ : 0 ≤ (I 4609) ∧ (I 4609) ≤ (C 72 : Int) ∧ (C 72 : Int) ≤ 131072 := hR.sz (show 72 ∈ w_TM.2.2 by decide)
    refine w_br2 (a := s) (b := (I 4609)) rfl rfl ⟨by omega, by omega⟩ ⟨by omega, by omega⟩ (fun h5 => ?_) (fun h5 => ?_)
    · have h5 : s < (I 4609) := h5
      show w_W _ _ _ (17, [(0, .ref 43), (1, .int (Int32.ofInt (s))), (2, .int (Int32.ofInt (w)))], [], M) _
      refine w_adv (n := 1) (F' := (18, [(0, .ref 43), (1, .int (Int32.ofInt (s))), (2, .int (Int32.ofInt (w)))], [.int (Int32.ofInt (w))], M)) rfl ?_
      rcases (show (w < 0 ∨ 5 < w) ∨ w = 0 ∨ w = 1 ∨ w = 2 ∨ w = 3 ∨ w = 4 ∨ w = 5 by omega) with h6 | h6 | h6 | h6 | h6 | h6 | h6
      · refine w_swd rfl ⟨by omega, by omega⟩ h6 rfl ?_
        show w_W _ _ _ (110, [(0, .ref 43), (1, .int (Int32.ofInt (s))), (2, .int (Int32.ofInt (w)))], [], M) _
        refine w_adv (n := 1) (F' := (111, [(0, .ref 43), (1, .int (Int32.ofInt (s))), (2, .int (Int32.ofInt (w)))], [.int (Int32.ofInt ((-1)))], M)) rfl ?_
        refine w_fin (r := .inl (some ((-1)))) (M' := M) rfl ?_
        exact ⟨(-1), rfl, ⟨by omega, by omega⟩, rfl⟩
      · refine w_sw (v := 0) (F' := (56, [(0, .ref 43), (1, .int (Int32.ofInt (s))), (2, .int (Int32.ofInt (w)))], [], M)) h6 rfl rfl ?_
        refine w_adv (n := 1) (F' := (57, [(0, .ref 43), (1, .int (Int32.ofInt (s))), (2, .int (Int32.ofInt (w)))], [.ref 43], M)) rfl ?_
        refine w_gf (v := .ref 72) hR rfl rfl rfl rfl ?_
        refine w_adv (n := 1) (F' := (61, [(0, .ref 43), (1, .int (Int32.ofInt (s))), (2, .int (Int32.ofInt (w)))], [.int (Int32.ofInt (s)), .ref 72], M)) rfl ?_
        refine w_call (cm := 238) (as := [(0, .ref 72), (1, .int (Int32.ofInt (s)))]) (rest := []) (o := some (10, 72)) rfl (w_fitR hR rfl) (m_get (s) 72 (by decide) rfl hR ⟨by omega, by omega⟩ (show 0 ≤ s by first | assumption | omega) (show s < (C 72 : Int) by first | assumption | omega)) (fun r7 M8 q9 => ?_)
        rcases q9 with ⟨e10, e11⟩
        rw [e10, e11]
        obtain ⟨r12, r13⟩ : -2147483648 ≤ (A 72) (s) ∧ (A 72) (s) ≤ 2147483647 := hR.ra 72 (s)
        show w_W _ _ _ (64, [(0, .ref 43), (1, .int (Int32.ofInt (s))), (2, .int (Int32.ofInt (w)))], [.int (Int32.ofInt ((A 72) (s)))], M) _
        refine w_fin (r := .inl (some ((A 72) (s)))) (M' := M) rfl ?_
        exact ⟨(A 72) (s), rfl, ⟨by omega, by omega⟩, rfl⟩
      · refine w_sw (v := 1) (F' := (65, [(0, .ref 43), (1, .int (Int32.ofInt (s))), (2, .int (Int32.ofInt (w)))], [], M)) h6 rfl rfl ?_
        refine w_adv (n := 1) (F' := (66, [(0, .ref 43), (1, .int (Int32.ofInt (s))), (2, .int (Int32.ofInt (w)))], [.ref 43], M)) rfl ?_
        refine w_gf (v := .ref 74) hR rfl rfl rfl rfl ?_
        refine w_adv (n := 1) (F' := (70, [(0, .ref 43), (1, .int (Int32.ofInt (s))), (2, .int (Int32.ofInt (w)))], [.int (Int32.ofInt (s)), .ref 74], M)) rfl ?_
        obtain ⟨r14a, r14b, r14c⟩ : 0 ≤ (I 4737) ∧ (I 4737) ≤ (C 74 : Int) ∧ (C 74 : Int) ≤ 131072 := hR.sz (show 74 ∈ w_TM.2.2 by decide)
        refine w_call (cm := 238) (as := [(0, .ref 74), (1, .int (Int32.ofInt (s)))]) (rest := []) (o := some (10, 74)) rfl (w_fitR hR rfl) (m_get (s) 74 (by decide) rfl hR ⟨by omega, by omega⟩ (show 0 ≤ s by first | assumption | omega) (show s < (C 74 : Int) by first | assumption | omega)) (fun r15 M16 q17 => ?_)
        rcases q17 with ⟨e18, e19⟩
        rw [e18, e19]
        obtain ⟨r20, r21⟩ : -2147483648 ≤ (A 74) (s) ∧ (A 74) (s) ≤ 2147483647 := hR.ra 74 (s)
        show w_W _ _ _ (73, [(0, .ref 43), (1, .int (Int32.ofInt (s))), (2, .int (Int32.ofInt (w)))], [.int (Int32.ofInt ((A 74) (s)))], M) _
        refine w_fin (r := .inl (some ((A 74) (s)))) (M' := M) rfl ?_
        exact ⟨(A 74) (s), rfl, ⟨by omega, by omega⟩, rfl⟩
      · refine w_sw (v := 2) (F' := (74, [(0, .ref 43), (1, .int (Int32.ofInt (s))), (2, .int (Int32.ofInt (w)))], [], M)) h6 rfl rfl ?_
        refine w_adv (n := 1) (F' := (75, [(0, .ref 43), (1, .int (Int32.ofInt (s))), (2, .int (Int32.ofInt (w)))], [.ref 43], M)) rfl ?_
        refine w_gf (v := .ref 76) hR rfl rfl rfl rfl ?_
        refine w_adv (n := 1) (F' := (79, [(0, .ref 43), (1, .int (Int32.ofInt (s))), (2, .int (Int32.ofInt (w)))], [.int (Int32.ofInt (s)), .ref 76], M)) rfl ?_
        obtain ⟨r22a, r22b, r22c⟩ : 0 ≤ (I 4865) ∧ (I 4865) ≤ (C 76 : Int) ∧ (C 76 : Int) ≤ 131072 := hR.sz (show 76 ∈ w_TM.2.2 by decide)
        refine w_call (cm := 238) (as := [(0, .ref 76), (1, .int (Int32.ofInt (s)))]) (rest := []) (o := some (10, 76)) rfl (w_fitR hR rfl) (m_get (s) 76 (by decide) rfl hR ⟨by omega, by omega⟩ (show 0 ≤ s by first | assumption | omega) (show s < (C 76 : Int) by first | assumption | omega)) (fun r23 M24 q25 => ?_)
        rcases q25 with ⟨e26, e27⟩
        rw [e26, e27]
        obtain ⟨r28, r29⟩ : -2147483648 ≤ (A 76) (s) ∧ (A 76) (s) ≤ 2147483647 := hR.ra 76 (s)
        show w_W _ _ _ (82, [(0, .ref 43), (1, .int (Int32.ofInt (s))), (2, .int (Int32.ofInt (w)))], [.int (Int32.ofInt ((A 76) (s)))], M) _
        refine w_fin (r := .inl (some ((A 76) (s)))) (M' := M) rfl ?_
        exact ⟨(A 76) (s), rfl, ⟨by omega, by omega⟩, rfl⟩
      · refine w_sw (v := 3) (F' := (83, [(0, .ref 43), (1, .int (Int32.ofInt (s))), (2, .int (Int32.ofInt (w)))], [], M)) h6 rfl rfl ?_
        refine w_adv (n := 1) (F' := (84, [(0, .ref 43), (1, .int (Int32.ofInt (s))), (2, .int (Int32.ofInt (w)))], [.ref 43], M)) rfl ?_
        refine w_gf (v := .ref 78) hR rfl rfl rfl rfl ?_
        refine w_adv (n := 1) (F' := (88, [(0, .ref 43), (1, .int (Int32.ofInt (s))), (2, .int (Int32.ofInt (w)))], [.int (Int32.ofInt (s)), .ref 78], M)) rfl ?_
        obtain ⟨r30a, r30b, r30c⟩ : 0 ≤ (I 4993) ∧ (I 4993) ≤ (C 78 : Int) ∧ (C 78 : Int) ≤ 131072 := hR.sz (show 78 ∈ w_TM.2.2 by decide)
        refine w_call (cm := 238) (as := [(0, .ref 78), (1, .int (Int32.ofInt (s)))]) (rest := []) (o := some (10, 78)) rfl (w_fitR hR rfl) (m_get (s) 78 (by decide) rfl hR ⟨by omega, by omega⟩ (show 0 ≤ s by first | assumption | omega) (show s < (C 78 : Int) by first | assumption | omega)) (fun r31 M32 q33 => ?_)
        rcases q33 with ⟨e34, e35⟩
        rw [e34, e35]
        obtain ⟨r36, r37⟩ : -2147483648 ≤ (A 78) (s) ∧ (A 78) (s) ≤ 2147483647 := hR.ra 78 (s)
        show w_W _ _ _ (91, [(0, .ref 43), (1, .int (Int32.ofInt (s))), (2, .int (Int32.ofInt (w)))], [.int (Int32.ofInt ((A 78) (s)))], M) _
        refine w_fin (r := .inl (some ((A 78) (s)))) (M' := M) rfl ?_
        exact ⟨(A 78) (s), rfl, ⟨by omega, by omega⟩, rfl⟩
      · refine w_sw (v := 4) (F' := (92, [(0, .ref 43), (1, .int (Int32.ofInt (s))), (2, .int (Int32.ofInt (w)))], [], M)) h6 rfl rfl ?_
        refine w_adv (n := 1) (F' := (93, [(0, .ref 43), (1, .int (Int32.ofInt (s))), (2, .int (Int32.ofInt (w)))], [.ref 43], M)) rfl ?_
        refine w_gf (v := .ref 80) hR rfl rfl rfl rfl ?_
        refine w_adv (n := 1) (F' := (97, [(0, .ref 43), (1, .int (Int32.ofInt (s))), (2, .int (Int32.ofInt (w)))], [.int (Int32.ofInt (s)), .ref 80], M)) rfl ?_
        obtain ⟨r38a, r38b, r38c⟩ : 0 ≤ (I 5121) ∧ (I 5121) ≤ (C 80 : Int) ∧ (C 80 : Int) ≤ 131072 := hR.sz (show 80 ∈ w_TM.2.2 by decide)
        refine w_call (cm := 238) (as := [(0, .ref 80), (1, .int (Int32.ofInt (s)))]) (rest := []) (o := some (10, 80)) rfl (w_fitR hR rfl) (m_get (s) 80 (by decide) rfl hR ⟨by omega, by omega⟩ (show 0 ≤ s by first | assumption | omega) (show s < (C 80 : Int) by first | assumption | omega)) (fun r39 M40 q41 => ?_)
        rcases q41 with ⟨e42, e43⟩
        rw [e42, e43]
        obtain ⟨r44, r45⟩ : -2147483648 ≤ (A 80) (s) ∧ (A 80) (s) ≤ 2147483647 := hR.ra 80 (s)
        show w_W _ _ _ (100, [(0, .ref 43), (1, .int (Int32.ofInt (s))), (2, .int (Int32.ofInt (w)))], [.int (Int32.ofInt ((A 80) (s)))], M) _
        refine w_fin (r := .inl (some ((A 80) (s)))) (M' := M) rfl ?_
        exact ⟨(A 80) (s), rfl, ⟨by omega, by omega⟩, rfl⟩
      · refine w_sw (v := 5) (F' := (101, [(0, .ref 43), (1, .int (Int32.ofInt (s))), (2, .int (Int32.ofInt (w)))], [], M)) h6 rfl rfl ?_
        refine w_adv (n := 1) (F' := (102, [(0, .ref 43), (1, .int (Int32.ofInt (s))), (2, .int (Int32.ofInt (w)))], [.ref 43], M)) rfl ?_
        refine w_gf (v := .ref 84) hR rfl rfl rfl rfl ?_
        refine w_adv (n := 1) (F' := (106, [(0, .ref 43), (1, .int (Int32.ofInt (s))), (2, .int (Int32.ofInt (w)))], [.int (Int32.ofInt (s)), .ref 84], M)) rfl ?_
        obtain ⟨r46a, r46b, r46c⟩ : 0 ≤ (I 5377) ∧ (I 5377) ≤ (C 84 : Int) ∧ (C 84 : Int) ≤ 131072 := hR.sz (show 84 ∈ w_TM.2.2 by decide)
        refine w_call (cm := 238) (as := [(0, .ref 84), (1, .int (Int32.ofInt (s)))]) (rest := []) (o := some (10, 84)) rfl (w_fitR hR rfl) (m_get (s) 84 (by decide) rfl hR ⟨by omega, by omega⟩ (show 0 ≤ s by first | assumption | omega) (show s < (C 84 : Int) by first | assumption | omega)) (fun r47 M48 q49 => ?_)
        rcases q49 with ⟨e50, e51⟩
        rw [e50, e51]
        obtain ⟨r52, r53⟩ : -2147483648 ≤ (A 84) (s) ∧ (A 84) (s) ≤ 2147483647 := hR.ra 84 (s)
        show w_W _ _ _ (109, [(0, .ref 43), (1, .int (Int32.ofInt (s))), (2, .int (Int32.ofInt (w)))], [.int (Int32.ofInt ((A 84) (s)))], M) _
        refine w_fin (r := .inl (some ((A 84) (s)))) (M' := M) rfl ?_
        exact ⟨(A 84) (s), rfl, ⟨by omega, by omega⟩, rfl⟩
    · have h5 : ¬ (s < (I 4609)) := h5
      show w_W _ _ _ (15, [(0, .ref 43), (1, .int (Int32.ofInt (s))), (2, .int (Int32.ofInt (w)))], [], M) _
      refine w_adv (n := 1) (F' := (16, [(0, .ref 43), (1, .int (Int32.ofInt (s))), (2, .int (Int32.ofInt (w)))], [.int (Int32.ofInt ((-1)))], M)) rfl ?_
      refine w_fin (r := .inl (some ((-1)))) (M' := M) rfl ?_
      exact ⟨(-1), rfl, ⟨by omega, by omega⟩, rfl⟩
def m_itemC_Q (fr : Nat → Bool) (X : Nat → Option (q_C (Nat → Int32))) (u l : Nat) (I : Nat → Int) (A : Nat → Int → Int) (B C : Nat → Nat) (M : w_M) (s : Int) (i : Int) : w_X → w_M → Prop := fun r M' => (∃ v : Int, (r = .inl (some v)) ∧ (w_in v) ∧ (M' = M))
set_option maxHeartbeats 100000000 in
set_option maxRecDepth 100000 in
theorem m_itemC {L : Nat} {xs : Nat → Int32} {d : Nat} {fr : Nat → Bool} {X : Nat → Option (q_C (Nat → Int32))} {u l : Nat} {I : Nat → Int} {A : Nat → Int → Int} {B C : Nat → Nat} {M : w_M} (s : Int) (i : Int) (hR : w_Rep w_TM fr X u l I A B C M) (hd : 1 ≤ d) (r_s : w_in s) (r_i : w_in i) (hN : ((I 4737) = (I 4609) ∧ (I 4865) = (I 4609) ∧ (I 4993) = (I 4609) ∧ (I 5121) = (I 4609) ∧ (I 5249) = (I 4609) ∧ (I 5377) = (I 4609)) ∧ (0 ≤ (I 4609) ∧ 0 ≤ (I 4481) ∧ 0 ≤ (I 5505))) (hIT : m_IT I A) : w_W (z_P L xs) d 308 (0, [(0, .ref 43), (1, .int (Int32.ofInt (s))), (2, .int (Int32.ofInt (i)))], [], M) (m_itemC_Q fr X u l I A B C M s i) := by
  obtain ⟨ra_s, rb_s⟩ := r_s
  obtain ⟨ra_i, rb_i⟩ := r_i
  obtain ⟨d, rfl⟩ : ∃ d0, d = d0 + 1 := ⟨d - 1, by omega⟩
  refine w_adv (n := 1) (F' := (1, [(0, .ref 43), (1, .int (Int32.ofInt (s))), (2, .int (Int32.ofInt (i)))], [.int (Int32.ofInt (s))], M)) rfl ?_
  refine w_br1 (a := s) rfl rfl ⟨by omega, by omega⟩ (fun h1 => ?_) (fun h1 => ?_)
  · have h1 : s < 0 := h1
    show w_W _ _ _ (31, [(0, .ref 43), (1, .int (Int32.ofInt (s))), (2, .int (Int32.ofInt (i)))], [], M) _
    refine w_adv (n := 1) (F' := (34, [(0, .ref 43), (1, .int (Int32.ofInt (s))), (2, .int (Int32.ofInt (i)))], [.int (Int32.ofInt ((-2147483648)))], M)) rfl ?_
    refine w_fin (r := .inl (some ((-2147483648)))) (M' := M) rfl ?_
    exact ⟨(-2147483648), rfl, ⟨by omega, by omega⟩, rfl⟩
  · have h1 : ¬ (s < 0) := h1
    show w_W _ _ _ (4, [(0, .ref 43), (1, .int (Int32.ofInt (s))), (2, .int (Int32.ofInt (i)))], [], M) _
    refine w_adv (n := 2) (F' := (6, [(0, .ref 43), (1, .int (Int32.ofInt (s))), (2, .int (Int32.ofInt (i)))], [.ref 43, .int (Int32.ofInt (s))], M)) rfl ?_
    refine w_gf (v := .ref 72) hR rfl rfl rfl rfl ?_
    refine w_gf (v := .int (Int32.ofInt ((I 4609)))) hR rfl rfl rfl rfl ?_
    obtain ⟨r2, r3⟩ : -2147483648 ≤ (I 4609) ∧ (I 4609) ≤ 2147483647 := hR.ri 4609
    obtain ⟨r4a, r4b, r4c⟩ : 0 ≤ (I 4609) ∧ (I 4609) ≤ (C 72 : Int) ∧ (C 72 : Int) ≤ 131072 := hR.sz (show 72 ∈ w_TM.2.2 by decide)
    refine w_br2 (a := s) (b := (I 4609)) rfl rfl ⟨by omega, by omega⟩ ⟨by omega, by omega⟩ (fun h5 => ?_) (fun h5 => ?_)
    · have h5 : s ≥ (I 4609) := h5
      show w_W _ _ _ (31, [(0, .ref 43), (1, .int (Int32.ofInt (s))), (2, .int (Int32.ofInt (i)))], [], M) _
      refine w_adv (n := 1) (F' := (34, [(0, .ref 43), (1, .int (Int32.ofInt (s))), (2, .int (Int32.ofInt (i)))], [.int (Int32.ofInt ((-2147483648)))], M)) rfl ?_
      refine w_fin (r := .inl (some ((-2147483648)))) (M' := M) rfl ?_
      exact ⟨(-2147483648), rfl, ⟨by omega, by omega⟩, rfl⟩
    · have h5 : ¬ (s ≥ (I 4609)) := h5
      show w_W _ _ _ (15, [(0, .ref 43), (1, .int (Int32.ofInt (s))), (2, .int (Int32.ofInt (i)))], [], M) _
      refine w_adv (n := 1) (F' := (16, [(0, .ref 43), (1, .int (Int32.ofInt (s))), (2, .int (Int32.ofInt (i)))], [.int (Int32.ofInt (i))], M)) rfl ?_
      refine w_br1 (a := i) rfl rfl ⟨by omega, by omega⟩ (fun h6 => ?_) (fun h6 => ?_)
      · have h6 : i < 0 := h6
        show w_W _ _ _ (31, [(0, .ref 43), (1, .int (Int32.ofInt (s))), (2, .int (Int32.ofInt (i)))], [], M) _
        refine w_adv (n := 1) (F' := (34, [(0, .ref 43), (1, .int (Int32.ofInt (s))), (2, .int (Int32.ofInt (i)))], [.int (Int32.ofInt ((-2147483648)))], M)) rfl ?_
        refine w_fin (r := .inl (some ((-2147483648)))) (M' := M) rfl ?_
        exact ⟨(-2147483648), rfl, ⟨by omega, by omega⟩, rfl⟩
      · have h6 : ¬ (i < 0) := h6
        show w_W _ _ _ (19, [(0, .ref 43), (1, .int (Int32.ofInt (s))), (2, .int (Int32.ofInt (i)))], [], M) _
        obtain ⟨ib1, ib2, ib3⟩ := hIT s (by omega) (by omega)
        refine w_adv (n := 2) (F' := (21, [(0, .ref 43), (1, .int (Int32.ofInt (s))), (2, .int (Int32.ofInt (i)))], [.ref 43, .int (Int32.ofInt (i))], M)) rfl ?_
        refine w_gf (v := .ref 84) hR rfl rfl rfl rfl ?_
        refine w_adv (n := 1) (F' := (25, [(0, .ref 43), (1, .int (Int32.ofInt (s))), (2, .int (Int32.ofInt (i)))], [.int (Int32.ofInt (s)), .ref 84, .int (Int32.ofInt (i))], M)) rfl ?_
        obtain ⟨r7a, r7b, r7c⟩ : 0 ≤ (I 5377) ∧ (I 5377) ≤ (C 84 : Int) ∧ (C 84 : Int) ≤ 131072 := hR.sz (show 84 ∈ w_TM.2.2 by decide)
        refine w_call (cm := 238) (as := [(0, .ref 84), (1, .int (Int32.ofInt (s)))]) (rest := [.int (Int32.ofInt (i))]) (o := some (10, 84)) rfl (w_fitR hR rfl) (m_get (s) 84 (by decide) rfl hR ⟨by omega, by omega⟩ (show 0 ≤ s by first | assumption | omega) (show s < (C 84 : Int) by first | assumption | omega)) (fun r8 M9 q10 => ?_)
        rcases q10 with ⟨e11, e12⟩
        rw [e11, e12]
        obtain ⟨r13, r14⟩ : -2147483648 ≤ (A 84) (s) ∧ (A 84) (s) ≤ 2147483647 := hR.ra 84 (s)
        show w_W _ _ _ (28, [(0, .ref 43), (1, .int (Int32.ofInt (s))), (2, .int (Int32.ofInt (i)))], [.int (Int32.ofInt ((A 84) (s))), .int (Int32.ofInt (i))], M) _
        refine w_br2 (a := i) (b := (A 84) (s)) rfl rfl ⟨by omega, by omega⟩ ⟨by omega, by omega⟩ (fun h15 => ?_) (fun h15 => ?_)
        · have h15 : i < (A 84) (s) := h15
          show w_W _ _ _ (35, [(0, .ref 43), (1, .int (Int32.ofInt (s))), (2, .int (Int32.ofInt (i)))], [], M) _
          refine w_adv (n := 1) (F' := (36, [(0, .ref 43), (1, .int (Int32.ofInt (s))), (2, .int (Int32.ofInt (i)))], [.ref 43], M)) rfl ?_
          refine w_gf (v := .ref 86) hR rfl rfl rfl rfl ?_
          refine w_adv (n := 1) (F' := (40, [(0, .ref 43), (1, .int (Int32.ofInt (s))), (2, .int (Int32.ofInt (i)))], [.ref 43, .ref 86], M)) rfl ?_
          refine w_gf (v := .ref 82) hR rfl rfl rfl rfl ?_
          refine w_adv (n := 1) (F' := (44, [(0, .ref 43), (1, .int (Int32.ofInt (s))), (2, .int (Int32.ofInt (i)))], [.int (Int32.ofInt (s)), .ref 82, .ref 86], M)) rfl ?_
          obtain ⟨r16a, r16b, r16c⟩ : 0 ≤ (I 5249) ∧ (I 5249) ≤ (C 82 : Int) ∧ (C 82 : Int) ≤ 131072 := hR.sz (show 82 ∈ w_TM.2.2 by decide)
          refine w_call (cm := 238) (as := [(0, .ref 82), (1, .int (Int32.ofInt (s)))]) (rest := [.ref 86]) (o := some (10, 82)) rfl (w_fitR hR rfl) (m_get (s) 82 (by decide) rfl hR ⟨by omega, by omega⟩ (show 0 ≤ s by first | assumption | omega) (show s < (C 82 : Int) by first | assumption | omega)) (fun r17 M18 q19 => ?_)
          rcases q19 with ⟨e20, e21⟩
          rw [e20, e21]
          obtain ⟨r22, r23⟩ : -2147483648 ≤ (A 82) (s) ∧ (A 82) (s) ≤ 2147483647 := hR.ra 82 (s)
          show w_W _ _ _ (47, [(0, .ref 43), (1, .int (Int32.ofInt (s))), (2, .int (Int32.ofInt (i)))], [.int (Int32.ofInt ((A 82) (s))), .ref 86], M) _
          refine w_adv (n := 1) (F' := (48, [(0, .ref 43), (1, .int (Int32.ofInt (s))), (2, .int (Int32.ofInt (i)))], [.int (Int32.ofInt (i)), .int (Int32.ofInt ((A 82) (s))), .ref 86], M)) rfl ?_
          refine w_add rfl ?_
          obtain ⟨r24a, r24b, r24c⟩ : 0 ≤ (I 5505) ∧ (I 5505) ≤ (C 86 : Int) ∧ (C 86 : Int) ≤ 131072 := hR.sz (show 86 ∈ w_TM.2.2 by decide)
          refine w_call (cm := 238) (as := [(0, .ref 86), (1, .int (Int32.ofInt (((A 82) (s)) + i)))]) (rest := []) (o := some (10, 86)) rfl (w_fitR hR rfl) (m_get (((A 82) (s)) + i) 86 (by decide) rfl hR ⟨by omega, by omega⟩ (show 0 ≤ ((A 82) (s)) + i by first | assumption | omega) (show ((A 82) (s)) + i < (C 86 : Int) by first | assumption | omega)) (fun r25 M26 q27 => ?_)
          rcases q27 with ⟨e28, e29⟩
          rw [e28, e29]
          obtain ⟨r30, r31⟩ : -2147483648 ≤ (A 86) (((A 82) (s)) + i) ∧ (A 86) (((A 82) (s)) + i) ≤ 2147483647 := hR.ra 86 (((A 82) (s)) + i)
          show w_W _ _ _ (52, [(0, .ref 43), (1, .int (Int32.ofInt (s))), (2, .int (Int32.ofInt (i)))], [.int (Int32.ofInt ((A 86) (((A 82) (s)) + i)))], M) _
          refine w_fin (r := .inl (some ((A 86) (((A 82) (s)) + i)))) (M' := M) rfl ?_
          exact ⟨(A 86) (((A 82) (s)) + i), rfl, ⟨by omega, by omega⟩, rfl⟩
        · have h15 : ¬ (i < (A 84) (s)) := h15
          show w_W _ _ _ (31, [(0, .ref 43), (1, .int (Int32.ofInt (s))), (2, .int (Int32.ofInt (i)))], [], M) _
          refine w_adv (n := 1) (F' := (34, [(0, .ref 43), (1, .int (Int32.ofInt (s))), (2, .int (Int32.ofInt (i)))], [.int (Int32.ofInt ((-2147483648)))], M)) rfl ?_
          refine w_fin (r := .inl (some ((-2147483648)))) (M' := M) rfl ?_
          exact ⟨(-2147483648), rfl, ⟨by omega, by omega⟩, rfl⟩
