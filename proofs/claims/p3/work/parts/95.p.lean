/-! CALLS of the law: what holds between them. -/
def l_C (I : Nat → Int) (A : Nat → Int → Int) : Prop := ((0 ≤ (I 65) ∧ (I 65) ≤ 8192) ∧ (36 ≤ (I 200) ∧ (I 200) ≤ 419 ∧ 0 ≤ (I 202) ∧ (I 202) ≤ 24) ∧ 0 ≤ (I 1035) ∧ (I 1035) ≤ 10000) ∧ (∀ i, (A 5) i ≤ 24) ∧ c_ks A
def l_R (J : Nat → Int) (E : Nat → Int → Int) : Prop := (0 ≤ (J 2753) ∧ (J 2753) ≤ 8192) ∧ (((J 4737) = (J 4609) ∧ (J 4865) = (J 4609) ∧ (J 4993) = (J 4609) ∧ (J 5121) = (J 4609) ∧ (J 5249) = (J 4609) ∧ (J 5377) = (J 4609)) ∧ (0 ≤ (J 4609) ∧ 0 ≤ (J 4481) ∧ 0 ≤ (J 5505))) ∧ J 6017 = 0 ∧ m_NA J E ∧ m_IT J E ∧ m_VN J E
def l_P (n : Nat) (a b : Int) (M : w_M) : Prop := ∃ (k : Nat) (I : Nat → Int) (A : Nat → Int → Int) (B C : Nat → Nat) (J : Nat → Int) (E : Nat → Int → Int) (F G : Nat → Nat), k ≤ n ∧ w_Two (123314 + 6 * k) (4800 + 64 * k) I A B C J E F G M ∧ l_C I A ∧ l_R J E ∧ I 65 = a ∧ J 2753 = b
section LCalls
variable {L : Nat} {xs : Nat → Int32} {n : Nat} {a b : Int} {M : w_M}
theorem l_P_up {n' : Nat} (h : l_P n a b M) (hn : n ≤ n') : l_P n' a b M := by
  obtain ⟨k, I, A, B, C, J, E, F, G, hk, h⟩ := h
  exact ⟨k, I, A, B, C, J, E, F, G, by omega, h⟩
theorem l_P_ab (h : l_P n a b M) : (0 ≤ a ∧ a ≤ 8192) ∧ (0 ≤ b ∧ b ≤ 8192) := by
  obtain ⟨k, I, A, B, C, J, E, F, G, hk, hT, hC, hR, e1, e2⟩ := h
  have h1 := hC.1.1
  have h2 := hR.1
  rw [e1] at h1
  rw [e2] at h2
  exact ⟨h1, h2⟩
theorem l_fitC (h : l_P n a b M) : w_fitO (some (0, 0)) M := by
  obtain ⟨k, I, A, B, C, J, E, F, G, hk, hT, -⟩ := h
  exact w_fitR hT.1 rfl
theorem l_fitM (h : l_P n a b M) : w_fitO (some (9, 43)) M := by
  obtain ⟨k, I, A, B, C, J, E, F, G, hk, hT, -⟩ := h
  exact w_fitR hT.2.1 rfl
theorem l_len {u l : Nat} {I : Nat → Int} {A : Nat → Int → Int} {B C : Nat → Nat} {J : Nat → Int} {E : Nat → Int → Int} {F G : Nat → Nat} (h : w_Two u l I A B C J E F G M) : 64 * M.1.length ≤ 7000000 := by
  have hs := w_sumM h.2.1
  have h1 := h.2.1.2.2.2.2.2.2.2.1.2.2.1
  have h2 := h.2.2
  omega
theorem l_room (h : l_P n a b M) (hn : n ≤ 512) : M.2.1 ≤ 601024 ∧ M.2.2 ≤ 7293034 := by
  obtain ⟨k, I, A, B, C, J, E, F, G, hk, hT, -⟩ := h
  have h1 := l_len hT
  have h2 := hT.2.1.2.2.2.2.2.2.2.1
  have h3 := w_sum_le (C := G) (m := 131072) (l := w_TM.2.2) (fun k hk => (hT.2.1.2.2.1 k hk).2.2.2.2.2.1)
  have h4 : w_TM.2.2.length = 21 := rfl
  rw [h4] at h3
  have h5 := h2.1
  have h6 := h2.2.1
  omega
theorem l_cread (h : l_P n a b M) (hn : n < 512) : w_W (z_P L xs) 1299 311 (0, [(0, .ref 0)], [], M) (fun r M' => ∃ v, r = .inl (some v) ∧ l_P (n + 1) a b M') := by
  obtain ⟨k, I, A, B, C, J, E, F, G, hk, hT, hC, hR, e1, e2⟩ := h
  refine w_mono (c_read hT.1 (by decide) (l_len hT) hC.1 hC.2.1 hC.2.2) (fun r M' q => ?_)
  rcases q with ⟨v, I', A', B', C', e, -, g, g1, g2, g3, g4⟩ | ⟨I', A', B', C', e, g, g1, g2, g3, g4⟩
  · exact ⟨v, e, k, I', A', B', C', J, E, F, G, by omega, w_Two.cls hT 0 (by omega) g, ⟨g1, g2, g3⟩, hR, g4.trans e1, e2⟩
  · exact ⟨_, e, k + 1, I', A', B', C', J, E, F, G, by omega, w_Two.cls hT 1 (by omega) g, ⟨g1, g2, g3⟩, hR, g4.trans e1, e2⟩
theorem l_mread (h : l_P n a b M) : w_W (z_P L xs) 1299 312 (0, [(0, .ref 43)], [], M) (fun r M' => ∃ v, r = .inl (some v) ∧ l_P n a b M') := by
  obtain ⟨k, I, A, B, C, J, E, F, G, hk, hT, hC, ⟨r1, r2, r3, r4, r5, r6⟩, e1, e2⟩ := h
  refine w_mono (m_read hT.2.1 (by decide) r1 r4 r3) (fun r M' q => ?_)
  obtain ⟨v, J', E', F', G', e, -, g, ⟨g1, g2, g3, g4⟩, g5, g6, g7⟩ := q
  exact ⟨v, e, k, I, A, B, C, J', E', F', G', hk, w_Two.ref hT g, hC, ⟨by rw [g1]; exact r1, ⟨g2, g3⟩, g4, g5, g6, g7⟩, e1, g1.trans e2⟩
theorem l_C_65 {I : Nat → Int} {A : Nat → Int → Int} {g : Int → Int} {v : Int} (h : l_C I A) (h0 : 0 ≤ v) (h1 : v ≤ 8192) : l_C (w_up I 65 v) (w_upF A 2 g) := by
  obtain ⟨⟨-, h3, h4⟩, h5, h6⟩ := h
  exact ⟨⟨⟨h0, h1⟩, h3, h4⟩, h5, h6⟩
theorem l_C_65' {I : Nat → Int} {A : Nat → Int → Int} {v : Int} (h : l_C I A) (h0 : 0 ≤ v) (h1 : v ≤ 8192) : l_C (w_up I 65 v) A := by
  obtain ⟨⟨-, h3, h4⟩, h5, h6⟩ := h
  exact ⟨⟨⟨h0, h1⟩, h3, h4⟩, h5, h6⟩
theorem l_R_s {J : Nat → Int} {E : Nat → Int → Int} {g : Int → Int} {v : Int} (h : l_R J E) (h0 : 0 ≤ v) (h1 : v ≤ 8192) : l_R (w_up J 2753 v) (w_upF E 44 g) := by
  obtain ⟨-, h3, h4, h5, h6, h7⟩ := h
  exact ⟨⟨h0, h1⟩, h3, h4, h5, h6, h7⟩
theorem l_R_s' {J : Nat → Int} {E : Nat → Int → Int} {v : Int} (h : l_R J E) (h0 : 0 ≤ v) (h1 : v ≤ 8192) : l_R (w_up J 2753 v) E := by
  obtain ⟨-, h3, h4, h5, h6, h7⟩ := h
  exact ⟨⟨h0, h1⟩, h3, h4, h5, h6, h7⟩
theorem l_cput (e0 : Int64) (h : l_P n a b M) : w_W (z_P L xs) 1299 37 (0, [(0, .ref 0), (1, .long e0)], [], M) (fun r M' => ∃ z, c_nbp e0 z ∧ ((8192 < a + z ∧ r = .inl (some (-2)) ∧ l_P n a b M') ∨ (a + z ≤ 8192 ∧ r = .inl (some (a + z)) ∧ l_P n (a + z) b M'))) := by
  have h0 := h
  obtain ⟨k, I, A, B, C, J, E, F, G, hk, hT, hC, hR, e1, e2⟩ := h
  refine w_mono (c_put e0 hT.1 (by decide) hC.1.1) (fun r M' q => ?_)
  rcases q with ⟨z, e, e3, g1, g2⟩ | ⟨v, gb, zl, z, e, -, g, g1, g2, g3, g4⟩
  · rw [e1] at g2
    rw [e3]
    exact ⟨z, g1, Or.inl ⟨g2, e, h0⟩⟩
  · rw [e1] at g3
    have hz := g1.1
    have ha := hC.1.1
    rw [e1] at ha
    subst g3
    subst g2
    exact ⟨z, g1, Or.inr ⟨g4, e, k, _, _, B, C, J, E, F, G, hk, w_Two.cls hT 0 (by have := hT.2.2; omega) g, l_C_65 hC (by omega) g4, hR, rfl, e2⟩⟩
theorem l_mput (e0 : Int64) (h : l_P n a b M) : w_W (z_P L xs) 1299 208 (0, [(0, .ref 43), (1, .long e0)], [], M) (fun r M' => ∃ z, c_nbp e0 z ∧ ((8192 < b + z ∧ r = .inl (some (-2)) ∧ l_P n a b M') ∨ (b + z ≤ 8192 ∧ r = .inl (some (b + z)) ∧ l_P n a (b + z) M'))) := by
  have h0 := h
  obtain ⟨k, I, A, B, C, J, E, F, G, hk, hT, hC, hR, e1, e2⟩ := h
  refine w_mono (m_putC e0 hT.2.1 hR.1) (fun r M' q => ?_)
  rcases q with ⟨z, e, e3, g1, g2⟩ | ⟨v, gb, zl, z, e, -, g, g1, g2, g3, g4⟩
  · rw [e2] at g2
    rw [e3]
    exact ⟨z, g1, Or.inl ⟨g2, e, h0⟩⟩
  · rw [e2] at g3
    have hz := g1.1
    have ha := hR.1
    rw [e2] at ha
    subst g3
    subst g2
    exact ⟨z, g1, Or.inr ⟨g4, e, k, I, A, B, C, _, _, F, G, hk, w_Two.ref hT g, hC, l_R_s hR (by omega) g4, e1, rfl⟩⟩
theorem l_ccut (m : Int) (hm : w_in m) (h : l_P n a b M) : w_W (z_P L xs) 1299 40 (0, [(0, .ref 0), (1, .int (Int32.ofInt m))], [], M) (fun r M' => ((m < 0 ∨ a < m) ∧ r = .inl (some (-1)) ∧ l_P n a b M') ∨ ((0 ≤ m ∧ m ≤ a) ∧ r = .inl (some m) ∧ l_P n m b M')) := by
  have h0 := h
  obtain ⟨k, I, A, B, C, J, E, F, G, hk, hT, hC, hR, e1, e2⟩ := h
  refine w_mono (c_cut m hT.1 (by decide) hm) (fun r M' q => ?_)
  rcases q with ⟨e, e3, g⟩ | ⟨e, g, g1⟩
  · rw [e1] at g
    rw [e3]
    exact Or.inl ⟨g, e, h0⟩
  · have ha := hC.1.1
    exact Or.inr ⟨by rw [e1] at g1; exact g1, e, k, _, A, B, C, J, E, F, G, hk, w_Two.cls hT 0 (by have := hT.2.2; omega) g, l_C_65' hC (by omega) (by omega), hR, rfl, e2⟩
theorem l_mcut (m : Int) (hm : w_in m) (h : l_P n a b M) : w_W (z_P L xs) 1299 209 (0, [(0, .ref 43), (1, .int (Int32.ofInt m))], [], M) (fun r M' => ((m < 0 ∨ b < m) ∧ r = .inl (some (-1)) ∧ l_P n a b M') ∨ ((0 ≤ m ∧ m ≤ b) ∧ r = .inl (some m) ∧ l_P n a m M')) := by
  have h0 := h
  obtain ⟨k, I, A, B, C, J, E, F, G, hk, hT, hC, hR, e1, e2⟩ := h
  refine w_mono (m_cut m hT.2.1 hm) (fun r M' q => ?_)
  rcases q with ⟨e, e3, g⟩ | ⟨e, g, g1⟩
  · rw [e2] at g
    rw [e3]
    exact Or.inl ⟨g, e, h0⟩
  · have ha := hR.1
    exact Or.inr ⟨by rw [e2] at g1; exact g1, e, k, I, A, B, C, _, E, F, G, hk, w_Two.ref hT g, hC, l_R_s' hR (by omega) (by omega), e1, rfl⟩
theorem l_k191 (w : Int) (hw : w_in w) (h : l_P n a b M) : w_W (z_P L xs) 1299 191 (0, [(0, .ref 0), (1, .int (Int32.ofInt w))], [], M) (fun r M' => ∃ v, r = .inl (some v) ∧ M' = M) := by
  obtain ⟨k, I, A, B, C, J, E, F, G, hk, hT, hC, hR, e1, e2⟩ := h
  refine w_mono (c_Cfault w hT.1 (by decide) hw ) (fun r M' q => ?_)
  obtain ⟨v, e, -, e3⟩ := q
  exact ⟨v, e, e3⟩
theorem l_k305 (w : Int) (hw : w_in w) (h : l_P n a b M) : w_W (z_P L xs) 1299 305 (0, [(0, .ref 43), (1, .int (Int32.ofInt w))], [], M) (fun r M' => ∃ v, r = .inl (some v) ∧ M' = M) := by
  obtain ⟨k, I, A, B, C, J, E, F, G, hk, hT, hC, hR, e1, e2⟩ := h
  refine w_mono (m_fault w hT.2.1  hw ) (fun r M' q => ?_)
  obtain ⟨v, e, -, e3⟩ := q
  exact ⟨v, e, e3⟩
theorem l_k192 (w : Int) (hw : w_in w) (h : l_P n a b M) : w_W (z_P L xs) 1299 192 (0, [(0, .ref 0), (1, .int (Int32.ofInt w))], [], M) (fun r M' => ∃ v, r = .inl (some v) ∧ M' = M) := by
  obtain ⟨k, I, A, B, C, J, E, F, G, hk, hT, hC, hR, e1, e2⟩ := h
  refine w_mono (c_Ccount w hT.1 (by decide) hw ) (fun r M' q => ?_)
  obtain ⟨v, e, -, e3⟩ := q
  exact ⟨v, e, e3⟩
theorem l_k306 (w : Int) (hw : w_in w) (h : l_P n a b M) : w_W (z_P L xs) 1299 306 (0, [(0, .ref 43), (1, .int (Int32.ofInt w))], [], M) (fun r M' => ∃ v, r = .inl (some v) ∧ M' = M) := by
  obtain ⟨k, I, A, B, C, J, E, F, G, hk, hT, hC, hR, e1, e2⟩ := h
  refine w_mono (m_count w hT.2.1  hw ) (fun r M' q => ?_)
  obtain ⟨v, e, -, e3⟩ := q
  exact ⟨v, e, e3⟩
theorem l_k196 (s : Int) (w : Int) (hs : w_in s) (hw : w_in w) (h : l_P n a b M) : w_W (z_P L xs) 1299 196 (0, [(0, .ref 0), (1, .int (Int32.ofInt s)), (2, .int (Int32.ofInt w))], [], M) (fun r M' => ∃ v, r = .inl (some v) ∧ M' = M) := by
  obtain ⟨k, I, A, B, C, J, E, F, G, hk, hT, hC, hR, e1, e2⟩ := h
  refine w_mono (c_Cnode s w hT.1 (by decide) hs hw ) (fun r M' q => ?_)
  obtain ⟨v, e, -, e3⟩ := q
  exact ⟨v, e, e3⟩
theorem l_k307 (s : Int) (w : Int) (hs : w_in s) (hw : w_in w) (h : l_P n a b M) : w_W (z_P L xs) 1299 307 (0, [(0, .ref 43), (1, .int (Int32.ofInt s)), (2, .int (Int32.ofInt w))], [], M) (fun r M' => ∃ v, r = .inl (some v) ∧ M' = M) := by
  obtain ⟨k, I, A, B, C, J, E, F, G, hk, hT, hC, hR, e1, e2⟩ := h
  refine w_mono (m_nodeC s w hT.2.1 (by decide) hs hw hR.2.1) (fun r M' q => ?_)
  obtain ⟨v, e, -, e3⟩ := q
  exact ⟨v, e, e3⟩
theorem l_k198 (s : Int) (w : Int) (hs : w_in s) (hw : w_in w) (h : l_P n a b M) : w_W (z_P L xs) 1299 198 (0, [(0, .ref 0), (1, .int (Int32.ofInt s)), (2, .int (Int32.ofInt w))], [], M) (fun r M' => ∃ v, r = .inl (some v) ∧ M' = M) := by
  obtain ⟨k, I, A, B, C, J, E, F, G, hk, hT, hC, hR, e1, e2⟩ := h
  refine w_mono (c_Citem s w hT.1 (by decide) hs hw ) (fun r M' q => ?_)
  obtain ⟨v, e, -, e3⟩ := q
  exact ⟨v, e, e3⟩
theorem l_k308 (s : Int) (w : Int) (hs : w_in s) (hw : w_in w) (h : l_P n a b M) : w_W (z_P L xs) 1299 308 (0, [(0, .ref 43), (1, .int (Int32.ofInt s)), (2, .int (Int32.ofInt w))], [], M) (fun r M' => ∃ v, r = .inl (some v) ∧ M' = M) := by
  obtain ⟨k, I, A, B, C, J, E, F, G, hk, hT, hC, hR, e1, e2⟩ := h
  refine w_mono (m_itemC s w hT.2.1 (by decide) hs hw hR.2.1 hR.2.2.2.2.1) (fun r M' q => ?_)
  obtain ⟨v, e, -, e3⟩ := q
  exact ⟨v, e, e3⟩
theorem l_k200 (s : Int) (w : Int) (hs : w_in s) (hw : w_in w) (h : l_P n a b M) : w_W (z_P L xs) 1299 200 (0, [(0, .ref 0), (1, .int (Int32.ofInt s)), (2, .int (Int32.ofInt w))], [], M) (fun r M' => ∃ v, r = .inl (some v) ∧ M' = M) := by
  obtain ⟨k, I, A, B, C, J, E, F, G, hk, hT, hC, hR, e1, e2⟩ := h
  refine w_mono (c_CatomByte s w hT.1 (by decide) hs hw hC.1.2.1 hC.2.1) (fun r M' q => ?_)
  obtain ⟨v, e, -, e3⟩ := q
  exact ⟨v, e, e3⟩
theorem l_k288 (s : Int) (w : Int) (hs : w_in s) (hw : w_in w) (h : l_P n a b M) : w_W (z_P L xs) 1299 288 (0, [(0, .ref 43), (1, .int (Int32.ofInt s)), (2, .int (Int32.ofInt w))], [], M) (fun r M' => ∃ v, r = .inl (some v) ∧ M' = M) := by
  obtain ⟨k, I, A, B, C, J, E, F, G, hk, hT, hC, hR, e1, e2⟩ := h
  refine w_mono (m_atomByte s w hT.2.1  hs hw hR.2.2.2.1) (fun r M' q => ?_)
  obtain ⟨v, e, -, e3, -⟩ := q
  exact ⟨v, e, e3⟩
theorem l_k201 (s : Int) (w : Int) (hs : w_in s) (hw : w_in w) (h : l_P n a b M) : w_W (z_P L xs) 1299 201 (0, [(0, .ref 0), (1, .int (Int32.ofInt s)), (2, .int (Int32.ofInt w))], [], M) (fun r M' => ∃ v, r = .inl (some v) ∧ M' = M) := by
  obtain ⟨k, I, A, B, C, J, E, F, G, hk, hT, hC, hR, e1, e2⟩ := h
  refine w_mono (c_CnameByte s w hT.1 (by decide) hs hw hC.1.2.1 hC.2.1) (fun r M' q => ?_)
  obtain ⟨v, e, -, e3⟩ := q
  exact ⟨v, e, e3⟩
theorem l_k309 (s : Int) (w : Int) (hs : w_in s) (hw : w_in w) (h : l_P n a b M) : w_W (z_P L xs) 1299 309 (0, [(0, .ref 43), (1, .int (Int32.ofInt s)), (2, .int (Int32.ofInt w))], [], M) (fun r M' => ∃ v, r = .inl (some v) ∧ M' = M) := by
  obtain ⟨k, I, A, B, C, J, E, F, G, hk, hT, hC, hR, e1, e2⟩ := h
  refine w_mono (m_nameByteC s w hT.2.1 (by decide) hs hw hR.2.1 hR.2.2.2.2.2 hR.2.2.2.1) (fun r M' q => ?_)
  obtain ⟨v, e, -, e3⟩ := q
  exact ⟨v, e, e3⟩
theorem l_k203 (h : l_P n a b M) : w_W (z_P L xs) 1299 203 (0, [(0, .ref 0)], [], M) (fun r M' => ∃ v, r = .inl (some v) ∧ M' = M) := by
  obtain ⟨k, I, A, B, C, J, E, F, G, hk, hT, hC, hR, e1, e2⟩ := h
  refine w_mono (c_Cuses hT.1 (by decide) ) (fun r M' q => ?_)
  obtain ⟨v, e, -, e3⟩ := q
  exact ⟨v, e, e3⟩
theorem l_k310 (h : l_P n a b M) : w_W (z_P L xs) 1299 310 (0, [(0, .ref 43)], [], M) (fun r M' => ∃ v, r = .inl (some v) ∧ M' = M) := by
  obtain ⟨k, I, A, B, C, J, E, F, G, hk, hT, hC, hR, e1, e2⟩ := h
  refine w_mono (m_uses hT.2.1  ) (fun r M' q => ?_)
  obtain ⟨v, e, -, e3⟩ := q
  exact ⟨v, e, e3⟩
end LCalls
/-! the script -/
section LScript
variable {L : Nat} {xs : Nat → Int32} {d mi : Nat} {Q : w_X → w_M → Prop} {ls : y_L} {t : List Value} {M : w_M}
theorem l_slen {pc len : Nat} (hins : y_ins (z_P L xs) mi pc = some (.arraylength, len)) (h2 : w_W (z_P L xs) d mi (pc + 1, ls, .int (Int32.ofInt (L : Int)) :: t, M) Q) : w_W (z_P L xs) d mi (pc, ls, .ref 1900000 :: t, M) Q := w_oth hins rfl (F' := (pc + 1, ls, .int (Int32.ofInt (L : Int)) :: t, M)) rfl h2
theorem l_sget {pc len : Nat} {i : Int} (hins : y_ins (z_P L xs) mi pc = some (.iaload, len)) (h0 : 0 ≤ i) (h1 : i < L) (hL : L ≤ 1536) (h2 : w_W (z_P L xs) d mi (pc + 1, ls, .int (Int32.ofInt (xs i.toNat).toInt) :: t, M) Q) : w_W (z_P L xs) d mi (pc, ls, .int (Int32.ofInt i) :: .ref 1900000 :: t, M) Q := by
  obtain ⟨e1, e2⟩ := w_inB (i := i) (n := L) ⟨by omega, by omega⟩ h0 h1
  rw [w_ofI] at h2
  refine w_oth hins rfl (F' := (pc + 1, ls, .int (xs i.toNat) :: t, M)) ?_ h2
  have e : y_outs (y_far0 (z_P L xs)) (y_fld (z_P L xs) mi) (y_con (z_P L xs) mi) .iaload pc ls (.int (Int32.ofInt i) :: .ref 1900000 :: t) q_D0 = some (pc + 1, ls, .int (xs i.toNat) :: t, q_D0) := by
    show (match y_inB (Int32.ofInt i) L with
        | true => some (pc + 1, ls, Value.int (xs (Int32.ofInt i).toNatClampNeg) :: t, q_D0)
        | false => none) = _
    rw [e1, e2]
  show q_outC (z_P L xs) mi .iaload pc ls (.int (Int32.ofInt i) :: .ref 1900000 :: t) M = _
  unfold q_outC
  rw [e]
  rfl
end LScript
