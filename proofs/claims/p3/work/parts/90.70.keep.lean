/-! BUILDER of the reference: what it keeps. -/
def m_gx (I : Nat → Int) (A : Nat → Int → Int) (I' : Nat → Int) (A' : Nat → Int → Int) : Prop := (I' 2753 = I 2753 ∧ I' 2760 = I 2760 ∧ I' 2763 = I 2763 ∧ I' 3905 = I 3905 ∧ I' 3393 = I 3393 ∧ I' 3521 = I 3521 ∧ I' 3649 = I 3649 ∧ I' 3777 = I 3777 ∧ I' 4033 = I 4033 ∧ I' 4161 = I 4161) ∧ A' 44 = A 44 ∧ A' 49 = A 49 ∧ A' 50 = A 50 ∧ A' 51 = A 51 ∧ A' 52 = A 52 ∧ A' 53 = A 53 ∧ A' 55 = A 55 ∧ A' 57 = A 57 ∧ A' 59 = A 59 ∧ A' 61 = A 61 ∧ A' 63 = A 63
theorem m_gx_refl {I : Nat → Int} {A : Nat → Int → Int} : m_gx I A I A := ⟨⟨rfl, rfl, rfl, rfl, rfl, rfl, rfl, rfl, rfl, rfl⟩, rfl, rfl, rfl, rfl, rfl, rfl, rfl, rfl, rfl, rfl, rfl⟩
theorem m_gx_trans {I I' I'' : Nat → Int} {A A' A'' : Nat → Int → Int} (h : m_gx I A I' A') (g : m_gx I' A' I'' A'') : m_gx I A I'' A'' := by
  obtain ⟨⟨a2753, a2760, a2763, a3905, a3393, a3521, a3649, a3777, a4033, a4161⟩, b44, b49, b50, b51, b52, b53, b55, b57, b59, b61, b63⟩ := h
  obtain ⟨⟨c2753, c2760, c2763, c3905, c3393, c3521, c3649, c3777, c4033, c4161⟩, d44, d49, d50, d51, d52, d53, d55, d57, d59, d61, d63⟩ := g
  exact ⟨⟨c2753.trans a2753, c2760.trans a2760, c2763.trans a2763, c3905.trans a3905, c3393.trans a3393, c3521.trans a3521, c3649.trans a3649, c3777.trans a3777, c4033.trans a4033, c4161.trans a4161⟩, d44.trans b44, d49.trans b49, d50.trans b50, d51.trans b51, d52.trans b52, d53.trans b53, d55.trans b55, d57.trans b57, d59.trans b59, d61.trans b61, d63.trans b63⟩
theorem m_TR_gx {lo : Int → Int × Int} {I I' : Nat → Int} {A A' : Nat → Int → Int} (h : m_gx I A I' A') (g : m_TR lo I A) : m_TR lo I' A' := by
  obtain ⟨⟨a2753, a2760, a2763, a3905, a3393, a3521, a3649, a3777, a4033, a4161⟩, b44, b49, b50, b51, b52, b53, b55, b57, b59, b61, b63⟩ := h
  unfold m_TR
  rw [a3905, a4033, b53, b55, b57, b59, b61]
  exact g
theorem m_NA_gx {I I' : Nat → Int} {A A' : Nat → Int → Int} (h : m_gx I A I' A') (g : m_NA I A) : m_NA I' A' := by
  obtain ⟨⟨a2753, a2760, a2763, a3905, a3393, a3521, a3649, a3777, a4033, a4161⟩, b44, b49, b50, b51, b52, b53, b55, b57, b59, b61, b63⟩ := h
  unfold m_NA
  rw [a2760, a2763, b49, b51]
  exact g
/-- pile, items, variables, bindings -/
def m_BI (I : Nat → Int) (A : Nat → Int → Int) : Prop := (∀ k, 0 ≤ k → k < I 5633 → 0 ≤ A 88 k ∧ A 88 k < I 4609) ∧ (∀ s, 0 ≤ s → s < I 4609 → 0 ≤ A 82 s ∧ 0 ≤ A 84 s ∧ A 82 s + A 84 s ≤ I 5505) ∧ (∀ i, 0 ≤ i → i < I 4481 → -1 ≤ A 70 i ∧ A 70 i < 400) ∧ (∀ i, 0 ≤ i → i < I 4033 → 0 ≤ A 63 i ∧ A 63 i < 400)
/-- what lies in chain and links stays -/
def m_cp (I : Nat → Int) (A A' : Nat → Int → Int) : Prop := (∀ i, 0 ≤ i → i < I 5889 → A' 92 i = A 92 i) ∧ (∀ i, 0 ≤ i → i < I 6017 → A' 94 i = A 94 i)
theorem m_cp_refl {I : Nat → Int} {A : Nat → Int → Int} : m_cp I A A := ⟨fun _ _ _ => rfl, fun _ _ _ => rfl⟩
theorem m_cp_trans {I I' : Nat → Int} {A A' A'' : Nat → Int → Int} (h : m_cp I A A') (g : m_cp I' A' A'') (hc : I 5889 ≤ I' 5889) (hl : I 6017 ≤ I' 6017) : m_cp I A A'' := ⟨fun i h0 h1 => (g.1 i h0 (by omega)).trans (h.1 i h0 h1), fun i h0 h1 => (g.2 i h0 (by omega)).trans (h.2 i h0 h1)⟩
theorem m_cp_92 {I : Nat → Int} {A A' A'' : Nat → Int → Int} {c : Int} (h : m_cp I A A') (g : ∀ i, 0 ≤ i → i < c → A'' 92 i = A' 92 i) (hc : I 5889 ≤ c) (h94 : A'' 94 = A' 94) : m_cp I A A'' := ⟨fun i h0 h1 => (g i h0 (by omega)).trans (h.1 i h0 h1), fun i h0 h1 => by rw [h94]; exact h.2 i h0 h1⟩
theorem m_cp_94 {I : Nat → Int} {A A' A'' : Nat → Int → Int} {c : Int} (h : m_cp I A A') (g : ∀ i, 0 ≤ i → i < c → A'' 94 i = A' 94 i) (hc : I 6017 ≤ c) (h92 : A'' 92 = A' 92) : m_cp I A A'' := ⟨fun i h0 h1 => by rw [h92]; exact h.1 i h0 h1, fun i h0 h1 => (g i h0 (by omega)).trans (h.2 i h0 h1)⟩
/-- an item more -/
theorem m_BI_it {I I' : Nat → Int} {A A' : Nat → Int → Int} (h : m_BI I A) (h1 : I 5505 ≤ I' 5505) (h2 : I' 5633 = I 5633) (h3 : I' 4609 = I 4609) (h4 : I' 4481 = I 4481) (h5 : I' 4033 = I 4033) (a1 : A' 88 = A 88) (a2 : A' 82 = A 82) (a3 : A' 84 = A 84) (a4 : A' 70 = A 70) (a5 : A' 63 = A 63) : m_BI I' A' := by
  obtain ⟨g1, g2, g3, g4⟩ := h
  unfold m_BI
  rw [h2, h3, h4, h5, a1, a2, a3, a4, a5]
  exact ⟨g1, fun s q0 q1 => by have := g2 s q0 q1; omega, g3, g4⟩
/-- a variable more -/
theorem m_BI_v {I I' : Nat → Int} {A A' : Nat → Int → Int} {v : Int} (h : m_BI I A) (h1 : I' 4481 = I 4481 + 1) (h2 : I' 5633 = I 5633) (h3 : I' 4609 = I 4609) (h4 : I' 5505 = I 5505) (h5 : I' 4033 = I 4033) (a1 : A' 88 = A 88) (a2 : A' 82 = A 82) (a3 : A' 84 = A 84) (a5 : A' 63 = A 63) (e1 : ∀ i, 0 ≤ i → i < I 4481 → A' 70 i = A 70 i) (e2 : A' 70 (I 4481) = v) (hv : -1 ≤ v ∧ v < 400) : m_BI I' A' := by
  obtain ⟨g1, g2, g3, g4⟩ := h
  unfold m_BI
  rw [h1, h2, h3, h4, h5, a1, a2, a3, a5]
  refine ⟨g1, g2, fun i q0 q1 => ?_, g4⟩
  by_cases e : i = I 4481
  · rw [e, e2]; exact hv
  · rw [e1 i q0 (by omega)]; exact g3 i q0 (by omega)
/-- one more in the pile -/
theorem m_BI_pi {I I' : Nat → Int} {A A' : Nat → Int → Int} {v : Int} (h : m_BI I A) (h1 : I' 5633 = I 5633 + 1) (h2 : I' 4481 = I 4481) (h3 : I' 4609 = I 4609) (h4 : I' 5505 = I 5505) (h5 : I' 4033 = I 4033) (a1 : A' 70 = A 70) (a2 : A' 82 = A 82) (a3 : A' 84 = A 84) (a5 : A' 63 = A 63) (e1 : ∀ i, 0 ≤ i → i < I 5633 → A' 88 i = A 88 i) (e2 : A' 88 (I 5633) = v) (hv : 0 ≤ v ∧ v < I 4609) : m_BI I' A' := by
  obtain ⟨g1, g2, g3, g4⟩ := h
  unfold m_BI
  rw [h1, h2, h3, h4, h5, a1, a2, a3, a5]
  refine ⟨fun i q0 q1 => ?_, g2, g3, g4⟩
  by_cases e : i = I 5633
  · rw [e, e2]; exact hv
  · rw [e1 i q0 (by omega)]; exact g1 i q0 (by omega)
/-- a statement more -/
theorem m_BI_st {I I' : Nat → Int} {A A' : Nat → Int → Int} {m : Int} (h : m_BI I A) (h1 : I' 4609 = I 4609 + 1) (h2 : I' 4481 = I 4481) (h3 : I' 5633 = I 5633) (h4 : I' 5505 = I 5505) (h5 : I' 4033 = I 4033) (a1 : A' 70 = A 70) (a2 : A' 88 = A 88) (a5 : A' 63 = A 63) (e1 : ∀ i, 0 ≤ i → i < I 4609 → A' 82 i = A 82 i) (e2 : A' 82 (I 4609) = I 5505 - m) (e3 : ∀ i, 0 ≤ i → i < I 4609 → A' 84 i = A 84 i) (e4 : A' 84 (I 4609) = m) (hv : 0 ≤ m ∧ m ≤ I 5505) : m_BI I' A' := by
  obtain ⟨g1, g2, g3, g4⟩ := h
  unfold m_BI
  rw [h1, h2, h3, h4, h5, a1, a2, a5]
  refine ⟨fun i q0 q1 => by have := g1 i q0 q1; omega, fun i q0 q1 => ?_, g3, g4⟩
  by_cases e : i = I 4609
  · rw [e, e2, e4]; omega
  · rw [e1 i q0 (by omega), e3 i q0 (by omega)]; exact g2 i q0 (by omega)
/-- a shorter pile -/
theorem m_BI_cut {I I' : Nat → Int} {A A' : Nat → Int → Int} (h : m_BI I A) (h1 : I' 5633 ≤ I 5633) (h2 : I' 4481 = I 4481) (h3 : I' 4609 = I 4609) (h4 : I' 5505 = I 5505) (h5 : I' 4033 = I 4033) (a1 : A' 70 = A 70) (a2 : A' 82 = A 82) (a3 : A' 84 = A 84) (a4 : A' 88 = A 88) (a5 : A' 63 = A 63) : m_BI I' A' := by
  obtain ⟨g1, g2, g3, g4⟩ := h
  unfold m_BI
  rw [h2, h3, h4, h5, a1, a2, a3, a4, a5]
  exact ⟨fun i q0 q1 => g1 i q0 (by omega), g2, g3, g4⟩
