/-! AT, SET of the class: any of its rows of ints. -/
def c_at_Q (A : Nat → Int → Int) (M : w_M) (k n : Nat) (i : Int) : w_X → w_M → Prop := fun r M' => ∃ v : Int, r = .inl (some v) ∧ w_in v ∧ M' = M ∧ ((0 ≤ i ∧ i < (n : Int) ∧ v = A k i) ∨ (¬ (0 ≤ i ∧ i < (n : Int)) ∧ v = -1))
theorem c_at {L : Nat} {xs : Nat → Int32} {d : Nat} {fr : Nat → Bool} {X : Nat → Option (q_C (Nat → Int32))} {u l : Nat} {I : Nat → Int} {A : Nat → Int → Int} {B C : Nat → Nat} {M : w_M} (i : Int) (k n : Nat) (hT : w_TC.2.1 k = some (.int, n)) (hn : n ≤ 2147483647) (hR : w_Rep w_TC fr X u l I A B C M) (r_i : w_in i) : w_W (z_P L xs) d 21 (0, [(0, .ref k), (1, .int (Int32.ofInt i))], [], M) (c_at_Q A M k n i) := by
  obtain ⟨ra, rb⟩ := r_i
  refine w_adv (n := 1) (F' := (1, [(0, .ref k), (1, .int (Int32.ofInt i))], [.int (Int32.ofInt i)], M)) rfl ?_
  refine w_br1 (a := i) rfl rfl ⟨by omega, by omega⟩ (fun h1 => ?_) (fun h1 => ?_)
  · have h1 : i < 0 := h1
    show w_W _ _ _ (16, [(0, .ref k), (1, .int (Int32.ofInt i))], [], M) _
    refine w_adv (n := 1) (F' := (17, [(0, .ref k), (1, .int (Int32.ofInt i))], [.int (Int32.ofInt (-1))], M)) rfl ?_
    refine w_fin (r := .inl (some (-1))) (M' := M) rfl ?_
    exact ⟨-1, rfl, ⟨by decide, by decide⟩, rfl, Or.inr ⟨by omega, rfl⟩⟩
  · have h1 : ¬ i < 0 := h1
    show w_W _ _ _ (4, [(0, .ref k), (1, .int (Int32.ofInt i))], [], M) _
    refine w_adv (n := 2) (F' := (6, [(0, .ref k), (1, .int (Int32.ofInt i))], [.ref k, .int (Int32.ofInt i)], M)) rfl ?_
    refine w_lena hR rfl hT rfl ?_
    show w_W _ _ _ (7, [(0, .ref k), (1, .int (Int32.ofInt i))], [.int (Int32.ofInt (n : Int)), .int (Int32.ofInt i)], M) _
    refine w_br2 (a := i) (b := (n : Int)) rfl rfl ⟨by omega, by omega⟩ ⟨by omega, by omega⟩ (fun h2 => ?_) (fun h2 => ?_)
    · have h2 : i ≥ (n : Int) := h2
      show w_W _ _ _ (16, [(0, .ref k), (1, .int (Int32.ofInt i))], [], M) _
      refine w_adv (n := 1) (F' := (17, [(0, .ref k), (1, .int (Int32.ofInt i))], [.int (Int32.ofInt (-1))], M)) rfl ?_
      refine w_fin (r := .inl (some (-1))) (M' := M) rfl ?_
      exact ⟨-1, rfl, ⟨by decide, by decide⟩, rfl, Or.inr ⟨by omega, rfl⟩⟩
    · have h2 : ¬ i ≥ (n : Int) := h2
      show w_W _ _ _ (10, [(0, .ref k), (1, .int (Int32.ofInt i))], [], M) _
      refine w_adv (n := 2) (F' := (12, [(0, .ref k), (1, .int (Int32.ofInt i))], [.int (Int32.ofInt i), .ref k], M)) rfl ?_
      refine w_la hR rfl (Or.inl ⟨rfl, rfl⟩) hT (by omega) (by omega) hn ?_
      show w_W _ _ _ (13, [(0, .ref k), (1, .int (Int32.ofInt i))], [.int (Int32.ofInt (A k i))], M) _
      refine w_adv (n := 1) (F' := (17, [(0, .ref k), (1, .int (Int32.ofInt i))], [.int (Int32.ofInt (A k i))], M)) rfl ?_
      refine w_fin (r := .inl (some (A k i))) (M' := M) rfl ?_
      exact ⟨A k i, rfl, hR.ra k i, rfl, Or.inl ⟨by omega, by omega, rfl⟩⟩
/-- a write that may be out of the row -/
def w_upG (n : Nat) (g : Int → Int) (i v : Int) : Int → Int := if 0 ≤ i ∧ i < (n : Int) then w_upA g i v else g
def c_set_Q (fr : Nat → Bool) (X : Nat → Option (q_C (Nat → Int32))) (u l : Nat) (I : Nat → Int) (A : Nat → Int → Int) (B C : Nat → Nat) (k n : Nat) (i v : Int) : w_X → w_M → Prop := fun r M' => r = .inl none ∧ w_Rep w_TC fr X u l I (w_upF A k (w_upG n (A k) i v)) B C M'
theorem c_upF_self {A : Nat → Int → Int} {k : Nat} : w_upF A k (A k) = A := by
  funext j
  by_cases e : j = k
  · rw [e, w_upF_same]
  · rw [w_upF_ne e]
theorem c_set {L : Nat} {xs : Nat → Int32} {d : Nat} {fr : Nat → Bool} {X : Nat → Option (q_C (Nat → Int32))} {u l : Nat} {I : Nat → Int} {A : Nat → Int → Int} {B C : Nat → Nat} {M : w_M} (i v : Int) (k n : Nat) (hT : w_TC.2.1 k = some (.int, n)) (hn : n ≤ 2147483647) (hR : w_Rep w_TC fr X u l I A B C M) (r_i : w_in i) (r_v : w_in v) : w_W (z_P L xs) d 25 (0, [(0, .ref k), (1, .int (Int32.ofInt i)), (2, .int (Int32.ofInt v))], [], M) (c_set_Q fr X u l I A B C k n i v) := by
  obtain ⟨ra, rb⟩ := r_i
  have out : ¬ (0 ≤ i ∧ i < (n : Int)) → c_set_Q fr X u l I A B C k n i v (.inl none) M := fun h => by
    refine ⟨rfl, ?_⟩
    unfold w_upG
    rw [if_neg h, c_upF_self]
    exact hR
  refine w_adv (n := 1) (F' := (1, [(0, .ref k), (1, .int (Int32.ofInt i)), (2, .int (Int32.ofInt v))], [.int (Int32.ofInt i)], M)) rfl ?_
  refine w_br1 (a := i) rfl rfl ⟨by omega, by omega⟩ (fun h1 => ?_) (fun h1 => ?_)
  · have h1 : i < 0 := h1
    show w_W _ _ _ (14, [(0, .ref k), (1, .int (Int32.ofInt i)), (2, .int (Int32.ofInt v))], [], M) _
    refine w_fin (r := .inl none) (M' := M) rfl ?_
    exact out (by omega)
  · have h1 : ¬ i < 0 := h1
    show w_W _ _ _ (4, [(0, .ref k), (1, .int (Int32.ofInt i)), (2, .int (Int32.ofInt v))], [], M) _
    refine w_adv (n := 2) (F' := (6, [(0, .ref k), (1, .int (Int32.ofInt i)), (2, .int (Int32.ofInt v))], [.ref k, .int (Int32.ofInt i)], M)) rfl ?_
    refine w_lena hR rfl hT rfl ?_
    show w_W _ _ _ (7, [(0, .ref k), (1, .int (Int32.ofInt i)), (2, .int (Int32.ofInt v))], [.int (Int32.ofInt (n : Int)), .int (Int32.ofInt i)], M) _
    refine w_br2 (a := i) (b := (n : Int)) rfl rfl ⟨by omega, by omega⟩ ⟨by omega, by omega⟩ (fun h2 => ?_) (fun h2 => ?_)
    · have h2 : i ≥ (n : Int) := h2
      show w_W _ _ _ (14, [(0, .ref k), (1, .int (Int32.ofInt i)), (2, .int (Int32.ofInt v))], [], M) _
      refine w_fin (r := .inl none) (M' := M) rfl ?_
      exact out (by omega)
    · have h2 : ¬ i ≥ (n : Int) := h2
      show w_W _ _ _ (10, [(0, .ref k), (1, .int (Int32.ofInt i)), (2, .int (Int32.ofInt v))], [], M) _
      refine w_adv (n := 3) (F' := (13, [(0, .ref k), (1, .int (Int32.ofInt i)), (2, .int (Int32.ofInt v))], [.int (Int32.ofInt v), .int (Int32.ofInt i), .ref k], M)) rfl ?_
      refine w_sai hR rfl hT (by omega) (by omega) hn r_v (fun M1 h3 => ?_)
      refine w_fin (r := .inl none) (M' := M1) rfl ?_
      refine ⟨rfl, ?_⟩
      unfold w_upG
      rw [if_pos ⟨by omega, by omega⟩]
      exact h3
