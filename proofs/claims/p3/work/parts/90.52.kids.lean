/-! KIDS: nodes that wait for their parent. -/
section MKids
variable {lo lo' lo0 lo1 : Int → Int × Int} {I I' I0 I1 : Nat → Int} {A A' A0 A1 : Nat → Int → Int} {v kd a b c l r : Int} {K : Int → Prop}
theorem m_nd_num (h : m_nd I A I' A' v kd a b c) : (v = I 3905 ∧ I' 3905 = I 3905 + 1 ∧ I' 3393 = I 3393 + 1 ∧ I' 3521 = I 3521 + 1 ∧ I' 3649 = I 3649 + 1 ∧ I' 3777 = I 3777 + 1) ∧ (I' 2774 = I 2774 ∧ I' 2754 = I 2754 ∧ I' 2775 = I 2775 ∧ I' 4289 = I 4289 ∧ I' 4033 = I 4033 ∧ I' 4161 = I 4161 ∧ I' 5889 = I 5889) := by
  obtain ⟨e0, ⟨e1, e2, e3, e4, e5⟩, e6, -⟩ := h
  have g : ∀ s, s ≠ 3393 → s ≠ 3521 → s ≠ 3649 → s ≠ 3777 → s ≠ 3905 → I' s = I s := e6
  exact ⟨⟨e0, e5, e1, e2, e3, e4⟩, g _ (by decide) (by decide) (by decide) (by decide) (by decide), g _ (by decide) (by decide) (by decide) (by decide) (by decide), g _ (by decide) (by decide) (by decide) (by decide) (by decide), g _ (by decide) (by decide) (by decide) (by decide) (by decide), g _ (by decide) (by decide) (by decide) (by decide) (by decide), g _ (by decide) (by decide) (by decide) (by decide) (by decide), g _ (by decide) (by decide) (by decide) (by decide) (by decide)⟩
theorem m_SC_nd (h : m_nd I A I' A' v kd a b c) (g : m_SC I A) : m_SC I' A' := by
  obtain ⟨-, -, e6, e7, -⟩ := h
  unfold m_SC
  rw [e6 4289 (by decide) (by decide) (by decide) (by decide) (by decide), e6 4033 (by decide) (by decide) (by decide) (by decide) (by decide), e7 67 (by decide) (by decide) (by decide) (by decide) (by decide), e7 63 (by decide) (by decide) (by decide) (by decide) (by decide)]
  exact g
theorem m_ST_nd (h : m_ST lo0 I0 A0 lo I A) (hn : m_nd I A I' A' v kd a b c) (hl : I0 3905 ≤ l) (h0 : I0 3905 ≤ I 3905) : m_ST lo0 I0 A0 (t_up lo v l r) I' A' := by
  obtain ⟨e0, ⟨-, -, -, -, e5⟩, e6, e7, e8, -⟩ := hn
  obtain ⟨a1, a2, a3, a4⟩ := h
  refine ⟨fun i h1 h2 => ?_, fun q h1 h2 => ?_, fun i h1 h2 => ?_, fun i h1 h2 => by rw [e7 92 (by decide) (by decide) (by decide) (by decide) (by decide)]; exact a4 i h1 h2⟩
  · obtain ⟨c1, c2, c3, c4, c5, c6⟩ := a1 i h1 h2
    obtain ⟨d1, d2, d3, d4, d5⟩ := e8 i h1 (by omega)
    exact ⟨d1.trans c1, d2.trans c2, d3.trans c3, d4.trans c4, d5.trans c5, (t_up_ne (by omega)).trans c6⟩
  · by_cases e : q = v
    · rw [e, t_up_same]; exact hl
    · rw [t_up_ne e]; exact a2 q h1 (by omega)
  · rw [e7 67 (by decide) (by decide) (by decide) (by decide) (by decide)]; exact a3 i h1 h2
theorem m_cl_ST (h : m_ST lo1 I1 A1 lo I A) (g : m_TR lo1 I1 A1) (h0 : 0 ≤ I1 3905) : m_cl A (I1 3905) := fun p h1 h2 => by
  obtain ⟨-, -, -, -, e, -⟩ := h.1 p h1 h2
  rw [e]
  exact m_cl_of g h0 p h1 h2
/-- c waits: its nodes begin at l or later -/
def m_kd (lo : Int → Int × Int) (I : Nat → Int) (A : Nat → Int → Int) (l R c : Int) (K : Int → Prop) : Prop := (0 ≤ l ∧ l ≤ (lo c).1 ∧ (lo c).1 ≤ c ∧ c < I 3905 ∧ (lo c).2 ≤ R) ∧ K (A 53 c)
theorem m_kd_ST {R : Int} (h : m_ST lo I A lo' I' A') (hn : I 3905 ≤ I' 3905) (g : m_kd lo I A l R c K) : m_kd lo' I' A' l R c K := by
  obtain ⟨⟨g1, g2, g3, g4, g6⟩, g5⟩ := g
  obtain ⟨e1, -, -, -, -, e2⟩ := h.1 c (by omega) g4
  unfold m_kd
  rw [e1, e2]
  exact ⟨⟨g1, g2, g3, by omega, g6⟩, g5⟩
theorem m_kd_nd {R : Int} (hn : m_nd I A I' A' v kd a b c) {c' l' : Int} (g : m_kd lo I A l' R c' K) : m_kd (t_up lo v l r) I' A' l' R c' K := by
  obtain ⟨e0, ⟨-, -, -, -, e5⟩, e6, e7, e8, -⟩ := hn
  obtain ⟨⟨g1, g2, g3, g4, g6⟩, g5⟩ := g
  obtain ⟨d1, -⟩ := e8 c' (by omega) (by omega)
  unfold m_kd
  rw [d1, t_up_ne (by omega)]
  exact ⟨⟨g1, g2, g3, by omega, g6⟩, g5⟩
/-- the node that was just made waits -/
theorem m_kd_new (hn : m_nd I A I' A' v kd a b c) (h0 : 0 ≤ l) (hl : l ≤ v) (hK : K kd) : m_kd (t_up lo v l r) I' A' l r v K := by
  obtain ⟨e0, ⟨-, -, -, -, e5⟩, e6, e7, e8, e9, -⟩ := hn
  unfold m_kd
  rw [e9, t_up_same]
  exact ⟨⟨h0, Int.le_refl _, hl, by omega, Int.le_refl _⟩, hK⟩
theorem m_ch {R : Int} (hn : m_nd I A I' A' v kd a b c) {c' l' : Int} (hl : l ≤ l') (g : m_kd lo I A l' R c' K) : t_c (A' 53) (t_up lo v l r) l v c' K := by
  obtain ⟨e0, -, -, -, e8, -⟩ := hn
  obtain ⟨⟨g1, g2, g3, g4, -⟩, g5⟩ := g
  obtain ⟨d1, -⟩ := e8 c' (by omega) (by omega)
  unfold t_c
  rw [d1, t_up_ne (by omega)]
  exact ⟨by omega, by omega, g3, by omega, g5⟩
/-- the order of two children -/
theorem m_od {R : Int} (hn : m_nd I A I' A' v kd a b c) {x y l' : Int} (g : m_kd lo I A l' R y K) (h : x < l') : x < (t_up lo v l r y).1 := by
  obtain ⟨e0, -⟩ := hn
  obtain ⟨⟨g1, g2, g3, g4, -⟩, -⟩ := g
  rw [t_up_ne (by omega)]
  omega
/-- the rank of a child -/
theorem m_ork {R r' : Int} (hn : m_nd I A I' A' v kd a b c) {y l' : Int} (g : m_kd lo I A l' R y K) (h : R < r') : (t_up lo v l r y).2 < r' := by
  obtain ⟨e0, -⟩ := hn
  obtain ⟨⟨g1, g2, g3, g4, g5⟩, -⟩ := g
  rw [t_up_ne (by omega)]
  omega
/-- .. or its kind -/
theorem m_ork2 {R r' : Int} {p : Int → Prop} (hn : m_nd I A I' A' v kd a b c) {y l' : Int} (g : m_kd lo I A l' R y K) (h : p (A 53 y) ∨ (lo y).2 < r') : p (A' 53 y) ∨ (t_up lo v l r y).2 < r' := by
  obtain ⟨e0, -, -, -, e8, -⟩ := hn
  obtain ⟨⟨g1, g2, g3, g4, g5⟩, -⟩ := g
  obtain ⟨d1, -⟩ := e8 y (by omega) (by omega)
  rw [d1, t_up_ne (by omega)]
  exact h
theorem m_ork_ST {R r' : Int} {p : Int → Prop} (hs : m_ST lo I A lo' I' A') {y l' : Int} (g : m_kd lo I A l' R y K) (h : p (A 53 y) ∨ (lo y).2 < r') : p (A' 53 y) ∨ (lo' y).2 < r' := by
  obtain ⟨⟨g1, g2, g3, g4, g5⟩, -⟩ := g
  obtain ⟨d1, -, -, -, -, d6⟩ := hs.1 y (by omega) g4
  rw [d1, d6]
  exact h
theorem m_kd_K {R : Int} {K' : Int → Prop} (g : m_kd lo I A l R c K) (h : ∀ k, K k → K' k) : m_kd lo I A l R c K' := ⟨g.1, h _ g.2⟩
theorem m_kd_l {R R' l' : Int} (g : m_kd lo I A l R c K) (h0 : 0 ≤ l') (h : l' ≤ l) (hR : R ≤ R') : m_kd lo I A l' R' c K := by
  obtain ⟨⟨g1, g2, g3, g4, g6⟩, g5⟩ := g
  exact ⟨⟨h0, by omega, g3, g4, by omega⟩, g5⟩
theorem m_rt_ST (h : m_ST lo I A lo' I' A') (h0 : 0 ≤ c) (hc : c < I 3905) (g : m_rt lo (I 3905) c) : m_rt lo' (I' 3905) c := fun q h1 h2 => by
  by_cases e : q < I 3905
  · obtain ⟨-, -, -, -, -, e2⟩ := h.1 q (by omega) e
    rw [e2]
    exact g q h1 e
  · have := h.2.1 q (by omega) h2
    omega
theorem m_rt_nd (hn : m_nd I A I' A' v kd a b c) {x : Int} (hx : x < l) (g : m_rt lo (I 3905) x) : m_rt (t_up lo v l r) (I' 3905) x := fun q h1 h2 => by
  obtain ⟨e0, ⟨-, -, -, -, e5⟩, -⟩ := hn
  by_cases e : q = v
  · rw [e, t_up_same]; exact hx
  · rw [t_up_ne e]; exact g q h1 (by omega)
theorem m_rt_new (hn : m_nd I A I' A' v kd a b c) : m_rt lo' (I' 3905) v := fun q h1 h2 => by
  obtain ⟨e0, ⟨-, -, -, -, e5⟩, -⟩ := hn
  omega
/-- a node's own: from what a piece leaves -/
theorem m_kd_of {R : Int} (hs : m_ST lo I A lo' I' A') (ht : m_TR lo' I' A') (h0 : 0 ≤ I 3905) (h1 : I 3905 ≤ v) (h2 : v < I' 3905) (hK : K (A' 53 v)) (hr : m_RK lo' (I 3905) (I' 3905) R) : m_kd lo' I' A' (I 3905) R v K := by
  obtain ⟨⟨⟨⟨g1, g2, -⟩, -⟩, -⟩, -⟩ := ht v (by omega) h2
  exact ⟨⟨h0, hs.2.1 v h1 h2, g2, h2, hr v h1 h2⟩, hK⟩
theorem m_ST_link (h : m_ST lo0 I0 A0 lo I A) {x w : Int} (hx : I0 3905 ≤ x) (h53 : A' 53 = A 53) (h55 : A' 55 = A 55) (h57 : A' 57 = A 57) (h59 : A' 59 = A 59) (h61 : A' 61 = w_upA (A 61) x w) (h67 : A' 67 = A 67) (h92 : A' 92 = A 92) : m_ST lo0 I0 A0 lo I A' := by
  obtain ⟨a1, a2, a3, a4⟩ := h
  refine ⟨fun i h1 h2 => ?_, a2, fun i h1 h2 => ?_, fun i h1 h2 => by rw [h92]; exact a4 i h1 h2⟩
  · rw [h53, h55, h57, h59, h61]
    have e : w_upA (A 61) x w i = A 61 i := if_neg (by omega)
    rw [e]
    exact a1 i h1 h2
  · rw [h67]; exact a3 i h1 h2
theorem m_SC_cut {s : Int} (h : m_SC I A) (hs : s ≤ I 4289) (h1 : I' 4289 = s) (h2 : I' 4033 = I 4033) : m_SC I' A := by
  unfold m_SC
  rw [h1, h2]
  exact ⟨fun i h3 h4 => h.1 i h3 (by omega), h.2⟩
end MKids
