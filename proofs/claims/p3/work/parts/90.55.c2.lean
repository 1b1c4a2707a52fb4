def m_linkK_Q (fr : Nat → Bool) (X : Nat → Option (q_C (Nat → Int32))) (u l : Nat) (I : Nat → Int) (A : Nat → Int → Int) (B C : Nat → Nat) (M : w_M) (first : Int) (last : Int) (n : Int) (lo : Int → Int × Int) (l0 R0 b0 l2 R2 : Int) (K : Int → Prop) : w_X → w_M → Prop := fun r M' => (∃ v : Int, ∃ g61 : Int → Int, (r = .inl (some v)) ∧ (w_in v) ∧ (w_Rep w_TM fr X u l I (w_upF A 61 g61) B C M') ∧ (m_TR lo I (w_upF A 61 g61)) ∧ (m_LK lo I (w_upF A 61 g61) l0 R0 (I 3905) v n K) ∧ (∀ (lo0 : Int → Int × Int) (I0 : Nat → Int) (A0 : Nat → Int → Int), m_ST lo0 I0 A0 lo I A → I0 3905 ≤ l0 → m_ST lo0 I0 A0 lo I (w_upF A 61 g61)) ∧ (0 ≤ v ∧ v < (I 3905)))
theorem w_upF_self {A : Nat → Int → Int} {k : Nat} : w_upF A k (A k) = A := by
  funext j
  by_cases e : j = k
  · rw [e, w_upF_same]
  · rw [w_upF_ne e]
theorem m_linkK {L : Nat} {xs : Nat → Int32} {d : Nat} {fr : Nat → Bool} {X : Nat → Option (q_C (Nat → Int32))} {u l : Nat} {I : Nat → Int} {A : Nat → Int → Int} {B C : Nat → Nat} {M : w_M} (first : Int) (last : Int) (n : Int) (lo : Int → Int × Int) (l0 R0 b0 l2 R2 : Int) (K : Int → Prop) (hR : w_Rep w_TM fr X u l I A B C M) (r_first : w_in first) (r_last : w_in last) (r_n : w_in n) (hLK : m_LK lo I A l0 R0 b0 first last K) (hkd : m_kd lo I A l2 R2 n K) (hrt : m_rt lo (I 3905) n) (hTR : m_TR lo I A) (hle : 0 ≤ l0 ∧ l0 ≤ l2 ∧ b0 ≤ l2 ∧ R2 ≤ R0) (hL : ∀ k k', K k → K k' → t_L k k') : w_W (z_P L xs) d 240 (0, [(0, .ref 43), (1, .int (Int32.ofInt (first))), (2, .int (Int32.ofInt (last))), (3, .int (Int32.ofInt (n)))], [], M) (m_linkK_Q fr X u l I A B C M first last n lo l0 R0 b0 l2 R2 K) := by
  obtain ⟨⟨k1, k2, k3, k4, k5⟩, k6⟩ := id hkd
  have hl : first < 0 ∨ (0 ≤ last ∧ last < (I 3905)) := by
    rcases hLK with ⟨q1, q2⟩ | ⟨q1, q2, q3, q4, -⟩
    · exact Or.inl (by omega)
    · obtain ⟨a1, a2, a3, a4, -⟩ := q4.1
      exact Or.inr ⟨by omega, a4⟩
  refine w_mono (m_link first last n hR r_first r_last r_n hl) (fun r M' q => ?_)
  rcases q with ⟨e1, e2, f1⟩ | ⟨e1, hR', f1⟩
  · refine ⟨n, A 61, e1, r_n, ?_, ?_, ?_, ?_, by omega, by omega⟩
    · rw [w_upF_self, e2]; exact hR
    · rw [w_upF_self]; exact hTR
    · rw [w_upF_self]
      exact Or.inr ⟨k4, k4, m_kd_l hkd (by omega) (by omega) (by omega), m_kd_l hkd (by omega) (by omega) (by omega), hrt, hrt⟩
    · intro lo0 I0 A0 h _
      rw [w_upF_self]; exact h
  · obtain ⟨a1, a2, a3, a4, a5, a6⟩ := hLK.resolve_left (fun q => by omega)
    obtain ⟨b1, b2, b3, b4, -⟩ := a4.1
    obtain ⟨c1, c2, c3, c4, -⟩ := a3.1
    refine ⟨first, w_upA (A 61) last n, e1, r_first, hR', ?_, ?_, ?_, by omega, by omega⟩
    · exact m_TR_link hTR rfl rfl rfl rfl rfl (by omega) k4 a6 hrt (by omega) k3 (hL _ _ a4.2 k6)
    · exact Or.inr ⟨by omega, k4, a3, m_kd_l hkd (by omega) (by omega) (by omega), a5, hrt⟩
    · intro lo0 I0 A0 h h2
      exact m_ST_link h (by omega) rfl rfl rfl rfl rfl rfl rfl
