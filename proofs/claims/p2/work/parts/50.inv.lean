/-! INV: the tree of the reference, what its parser keeps. -/
section TInv
def t_E (k : Int) : Prop := (1 ≤ k ∧ k ≤ 5) ∨ (7 ≤ k ∧ k ≤ 16) ∨ k = 18
def t_B (k : Int) : Prop := k = 25 ∨ k = 19
def t_I (k : Int) : Prop := (20 ≤ k ∧ k ≤ 24) ∨ k = 11 ∨ (14 ≤ k ∧ k ≤ 16) ∨ k = 18
def t_L (k k' : Int) : Prop := (k = k' ∧ (k = 6 ∨ k = 17 ∨ k = 27 ∨ k = 28 ∨ k = 29)) ∨ (t_I k ∧ t_I k')
/-- c is a child of p, whose nodes begin at l -/
def t_c (tk lo : Int → Int) (l p c : Int) (K : Int → Prop) : Prop := l ≤ lo c ∧ 0 ≤ lo c ∧ lo c ≤ c ∧ c < p ∧ K (tk c)
def t_k3 (tk lo : Int → Int) (nb l p a b c : Int) : Prop := (0 ≤ a ∧ a < nb)
def t_k28 (tk lo : Int → Int) (nb l p a b c : Int) : Prop := (0 ≤ a ∧ a < nb)
def t_k5 (tk lo : Int → Int) (nb l p a b c : Int) : Prop := (t_c tk lo l p b (fun k => k = 6))
def t_k6 (tk lo : Int → Int) (nb l p a b c : Int) : Prop := (t_c tk lo l p b t_E)
def t_k7 (tk lo : Int → Int) (nb l p a b c : Int) : Prop := (t_c tk lo l p a t_E) ∧ (t_c tk lo l p b t_E) ∧ (a < lo b)
def t_k8 (tk lo : Int → Int) (nb l p a b c : Int) : Prop := (a = -1 ∨ t_c tk lo l p a (fun k => k = 29))
def t_k9 (tk lo : Int → Int) (nb l p a b c : Int) : Prop := (t_c tk lo l p b t_E) ∧ (t_c tk lo l p c t_E) ∧ (b < lo c)
def t_k10 (tk lo : Int → Int) (nb l p a b c : Int) : Prop := (t_c tk lo l p a t_E)
def t_k11 (tk lo : Int → Int) (nb l p a b c : Int) : Prop := (t_c tk lo l p a (fun k => k = 29))
def t_k12 (tk lo : Int → Int) (nb l p a b c : Int) : Prop := (a = -1 ∨ t_c tk lo l p a (fun k => k = 28)) ∧ (t_c tk lo l p b (fun k => k = 25)) ∧ (a = -1 ∨ a < lo b) ∧ (b = p - 1)
def t_k13 (tk lo : Int → Int) (nb l p a b c : Int) : Prop := (a = -1 ∨ t_c tk lo l p a (fun k => k = 28)) ∧ (t_c tk lo l p b (fun k => k = 19)) ∧ (a = -1 ∨ a < lo b) ∧ (b = p - 1)
def t_k14 (tk lo : Int → Int) (nb l p a b c : Int) : Prop := (a = -1 ∨ t_c tk lo l p a (fun k => k = 28)) ∧ (t_c tk lo l p b t_B) ∧ (a = -1 ∨ a < lo b) ∧ (b = p - 1)
def t_k15 (tk lo : Int → Int) (nb l p a b c : Int) : Prop := (t_c tk lo l p a t_E) ∧ (t_c tk lo l p b t_B) ∧ (c = -1 ∨ t_c tk lo l p c t_B) ∧ (a < lo b) ∧ (c = -1 ∨ b < lo c)
def t_k16 (tk lo : Int → Int) (nb l p a b c : Int) : Prop := (t_c tk lo l p a t_E) ∧ (t_c tk lo l p b (fun k => k = 17)) ∧ (a < lo b)
def t_k17 (tk lo : Int → Int) (nb l p a b c : Int) : Prop := (a = -1 ∨ t_c tk lo l p a (fun k => k = 26)) ∧ (t_c tk lo l p b t_B) ∧ (a = -1 ∨ a < lo b)
def t_k18 (tk lo : Int → Int) (nb l p a b c : Int) : Prop := (t_c tk lo l p a t_B)
def t_k19 (tk lo : Int → Int) (nb l p a b c : Int) : Prop := (a = -1 ∨ t_c tk lo l p a (fun k => k = 25)) ∧ (t_c tk lo l p b t_E) ∧ (a = -1 ∨ a < lo b)
def t_k21 (tk lo : Int → Int) (nb l p a b c : Int) : Prop := (t_c tk lo l p a (fun k => k = 25)) ∧ (t_c tk lo l p b (fun k => k = 28)) ∧ (t_c tk lo l p c (fun k => k = 25)) ∧ (a < lo b) ∧ (b < lo c)
def t_k22 (tk lo : Int → Int) (nb l p a b c : Int) : Prop := (t_c tk lo l p a t_E)
def t_k23 (tk lo : Int → Int) (nb l p a b c : Int) : Prop := (t_c tk lo l p a t_E)
def t_k24 (tk lo : Int → Int) (nb l p a b c : Int) : Prop := (t_c tk lo l p a t_E) ∧ (t_c tk lo l p b t_E) ∧ (a < lo b)
def t_k25 (tk lo : Int → Int) (nb l p a b c : Int) : Prop := (t_c tk lo l p a t_I)
def t_k26 (tk lo : Int → Int) (nb l p a b c : Int) : Prop := (c = -1 ∨ t_c tk lo l p c (fun k => k = 27))
def t_k27 (tk lo : Int → Int) (nb l p a b c : Int) : Prop := (b = -1 ∨ t_c tk lo l p b (fun k => k = 28))
def t_k29 (tk lo : Int → Int) (nb l p a b c : Int) : Prop := (t_c tk lo l p a t_E)
def t_N (tk lo : Int → Int) (nb p k a b c : Int) : Prop := (0 ≤ lo p ∧ lo p ≤ p ∧ 1 ≤ k ∧ k ≤ 29) ∧ (k = 3 → t_k3 tk lo nb (lo p) p a b c) ∧ (k = 28 → t_k28 tk lo nb (lo p) p a b c) ∧ (k = 5 → t_k5 tk lo nb (lo p) p a b c) ∧ (k = 6 → t_k6 tk lo nb (lo p) p a b c) ∧ (k = 7 → t_k7 tk lo nb (lo p) p a b c) ∧ (k = 8 → t_k8 tk lo nb (lo p) p a b c) ∧ (k = 9 → t_k9 tk lo nb (lo p) p a b c) ∧ (k = 10 → t_k10 tk lo nb (lo p) p a b c) ∧ (k = 11 → t_k11 tk lo nb (lo p) p a b c) ∧ (k = 12 → t_k12 tk lo nb (lo p) p a b c) ∧ (k = 13 → t_k13 tk lo nb (lo p) p a b c) ∧ (k = 14 → t_k14 tk lo nb (lo p) p a b c) ∧ (k = 15 → t_k15 tk lo nb (lo p) p a b c) ∧ (k = 16 → t_k16 tk lo nb (lo p) p a b c) ∧ (k = 17 → t_k17 tk lo nb (lo p) p a b c) ∧ (k = 18 → t_k18 tk lo nb (lo p) p a b c) ∧ (k = 19 → t_k19 tk lo nb (lo p) p a b c) ∧ (k = 21 → t_k21 tk lo nb (lo p) p a b c) ∧ (k = 22 → t_k22 tk lo nb (lo p) p a b c) ∧ (k = 23 → t_k23 tk lo nb (lo p) p a b c) ∧ (k = 24 → t_k24 tk lo nb (lo p) p a b c) ∧ (k = 25 → t_k25 tk lo nb (lo p) p a b c) ∧ (k = 26 → t_k26 tk lo nb (lo p) p a b c) ∧ (k = 27 → t_k27 tk lo nb (lo p) p a b c) ∧ (k = 29 → t_k29 tk lo nb (lo p) p a b c)
def t_X (tk nx lo : Int → Int) (n p : Int) : Prop := (nx p = -1 ∨ (p < lo (nx p) ∧ lo (nx p) ≤ nx p ∧ nx p < n ∧ t_L (tk p) (tk (nx p)) ∧ ∀ q, lo q ≤ p → p < q → q < n → nx p < q)) ∧ ∀ q, 0 ≤ q → q < n → p < lo q → nx p < lo q ∨ q ≤ nx p
def m_TR (lo : Int → Int) (I : Nat → Int) (A : Nat → Int → Int) : Prop := ∀ p, 0 ≤ p → p < I 3905 → t_N (A 53) lo (I 4033) p (A 53 p) (A 55 p) (A 57 p) (A 59 p) ∧ t_X (A 53) (A 61) lo (I 3905) p
variable {tk tk' lo lo' : Int → Int} {n nb nb' : Int}
theorem t_c_cong (h1 : ∀ i, 0 ≤ i → i < n → tk' i = tk i) (h2 : ∀ i, 0 ≤ i → i < n → lo' i = lo i) {l p c : Int} {K : Int → Prop} (hp : p ≤ n) (h : t_c tk lo l p c K) : t_c tk' lo' l p c K := by
  obtain ⟨g1, g2, g3, g4, g5⟩ := h
  have e1 := h1 c (by omega) (by omega)
  have e2 := h2 c (by omega) (by omega)
  unfold t_c
  rw [e1, e2]
  exact ⟨g1, g2, g3, g4, g5⟩
theorem t_k3_cong (h1 : ∀ i, 0 ≤ i → i < n → tk' i = tk i) (h2 : ∀ i, 0 ≤ i → i < n → lo' i = lo i) (h3 : nb ≤ nb') {l p a b c : Int} (hp : p ≤ n) (h : t_k3 tk lo nb l p a b c) : t_k3 tk' lo' nb' l p a b c := by
  have g0 := h
  exact ⟨g0.1, by have := g0.2; omega⟩
theorem t_k28_cong (h1 : ∀ i, 0 ≤ i → i < n → tk' i = tk i) (h2 : ∀ i, 0 ≤ i → i < n → lo' i = lo i) (h3 : nb ≤ nb') {l p a b c : Int} (hp : p ≤ n) (h : t_k28 tk lo nb l p a b c) : t_k28 tk' lo' nb' l p a b c := by
  have g0 := h
  exact ⟨g0.1, by have := g0.2; omega⟩
theorem t_k5_cong (h1 : ∀ i, 0 ≤ i → i < n → tk' i = tk i) (h2 : ∀ i, 0 ≤ i → i < n → lo' i = lo i) (h3 : nb ≤ nb') {l p a b c : Int} (hp : p ≤ n) (h : t_k5 tk lo nb l p a b c) : t_k5 tk' lo' nb' l p a b c := by
  have g0 := h
  exact t_c_cong h1 h2 hp g0
theorem t_k6_cong (h1 : ∀ i, 0 ≤ i → i < n → tk' i = tk i) (h2 : ∀ i, 0 ≤ i → i < n → lo' i = lo i) (h3 : nb ≤ nb') {l p a b c : Int} (hp : p ≤ n) (h : t_k6 tk lo nb l p a b c) : t_k6 tk' lo' nb' l p a b c := by
  have g0 := h
  exact t_c_cong h1 h2 hp g0
theorem t_k7_cong (h1 : ∀ i, 0 ≤ i → i < n → tk' i = tk i) (h2 : ∀ i, 0 ≤ i → i < n → lo' i = lo i) (h3 : nb ≤ nb') {l p a b c : Int} (hp : p ≤ n) (h : t_k7 tk lo nb l p a b c) : t_k7 tk' lo' nb' l p a b c := by
  obtain ⟨g0, g1, g2⟩ := h
  have eg2 := h2 b (by have := g1.2.1; have := g1.2.2.1; omega) (by have := g1.2.2.2.1; omega)
  rw [← eg2] at g2
  exact ⟨t_c_cong h1 h2 hp g0, t_c_cong h1 h2 hp g1, g2⟩
theorem t_k8_cong (h1 : ∀ i, 0 ≤ i → i < n → tk' i = tk i) (h2 : ∀ i, 0 ≤ i → i < n → lo' i = lo i) (h3 : nb ≤ nb') {l p a b c : Int} (hp : p ≤ n) (h : t_k8 tk lo nb l p a b c) : t_k8 tk' lo' nb' l p a b c := by
  have g0 := h
  exact g0.imp_right (t_c_cong h1 h2 hp)
theorem t_k9_cong (h1 : ∀ i, 0 ≤ i → i < n → tk' i = tk i) (h2 : ∀ i, 0 ≤ i → i < n → lo' i = lo i) (h3 : nb ≤ nb') {l p a b c : Int} (hp : p ≤ n) (h : t_k9 tk lo nb l p a b c) : t_k9 tk' lo' nb' l p a b c := by
  obtain ⟨g0, g1, g2⟩ := h
  have eg2 := h2 c (by have := g1.2.1; have := g1.2.2.1; omega) (by have := g1.2.2.2.1; omega)
  rw [← eg2] at g2
  exact ⟨t_c_cong h1 h2 hp g0, t_c_cong h1 h2 hp g1, g2⟩
theorem t_k10_cong (h1 : ∀ i, 0 ≤ i → i < n → tk' i = tk i) (h2 : ∀ i, 0 ≤ i → i < n → lo' i = lo i) (h3 : nb ≤ nb') {l p a b c : Int} (hp : p ≤ n) (h : t_k10 tk lo nb l p a b c) : t_k10 tk' lo' nb' l p a b c := by
  have g0 := h
  exact t_c_cong h1 h2 hp g0
theorem t_k11_cong (h1 : ∀ i, 0 ≤ i → i < n → tk' i = tk i) (h2 : ∀ i, 0 ≤ i → i < n → lo' i = lo i) (h3 : nb ≤ nb') {l p a b c : Int} (hp : p ≤ n) (h : t_k11 tk lo nb l p a b c) : t_k11 tk' lo' nb' l p a b c := by
  have g0 := h
  exact t_c_cong h1 h2 hp g0
theorem t_k12_cong (h1 : ∀ i, 0 ≤ i → i < n → tk' i = tk i) (h2 : ∀ i, 0 ≤ i → i < n → lo' i = lo i) (h3 : nb ≤ nb') {l p a b c : Int} (hp : p ≤ n) (h : t_k12 tk lo nb l p a b c) : t_k12 tk' lo' nb' l p a b c := by
  obtain ⟨g0, g1, g2, g3⟩ := h
  have eg2 := h2 b (by have := g1.2.1; have := g1.2.2.1; omega) (by have := g1.2.2.2.1; omega)
  rw [← eg2] at g2
  exact ⟨g0.imp_right (t_c_cong h1 h2 hp), t_c_cong h1 h2 hp g1, g2, g3⟩
theorem t_k13_cong (h1 : ∀ i, 0 ≤ i → i < n → tk' i = tk i) (h2 : ∀ i, 0 ≤ i → i < n → lo' i = lo i) (h3 : nb ≤ nb') {l p a b c : Int} (hp : p ≤ n) (h : t_k13 tk lo nb l p a b c) : t_k13 tk' lo' nb' l p a b c := by
  obtain ⟨g0, g1, g2, g3⟩ := h
  have eg2 := h2 b (by have := g1.2.1; have := g1.2.2.1; omega) (by have := g1.2.2.2.1; omega)
  rw [← eg2] at g2
  exact ⟨g0.imp_right (t_c_cong h1 h2 hp), t_c_cong h1 h2 hp g1, g2, g3⟩
theorem t_k14_cong (h1 : ∀ i, 0 ≤ i → i < n → tk' i = tk i) (h2 : ∀ i, 0 ≤ i → i < n → lo' i = lo i) (h3 : nb ≤ nb') {l p a b c : Int} (hp : p ≤ n) (h : t_k14 tk lo nb l p a b c) : t_k14 tk' lo' nb' l p a b c := by
  obtain ⟨g0, g1, g2, g3⟩ := h
  have eg2 := h2 b (by have := g1.2.1; have := g1.2.2.1; omega) (by have := g1.2.2.2.1; omega)
  rw [← eg2] at g2
  exact ⟨g0.imp_right (t_c_cong h1 h2 hp), t_c_cong h1 h2 hp g1, g2, g3⟩
theorem t_k15_cong (h1 : ∀ i, 0 ≤ i → i < n → tk' i = tk i) (h2 : ∀ i, 0 ≤ i → i < n → lo' i = lo i) (h3 : nb ≤ nb') {l p a b c : Int} (hp : p ≤ n) (h : t_k15 tk lo nb l p a b c) : t_k15 tk' lo' nb' l p a b c := by
  obtain ⟨g0, g1, g2, g3, g4⟩ := h
  have eg3 := h2 b (by have := g1.2.1; have := g1.2.2.1; omega) (by have := g1.2.2.2.1; omega)
  rw [← eg3] at g3
  have g4 : c = -1 ∨ b < lo' c := by
    rcases g4 with e | e
    · exact Or.inl e
    · rcases g2 with e2 | e2
      · exact Or.inl e2
      · exact Or.inr (by rw [h2 c (by have := e2.2.1; have := e2.2.2.1; omega) (by have := e2.2.2.2.1; omega)]; exact e)
  exact ⟨t_c_cong h1 h2 hp g0, t_c_cong h1 h2 hp g1, g2.imp_right (t_c_cong h1 h2 hp), g3, g4⟩
theorem t_k16_cong (h1 : ∀ i, 0 ≤ i → i < n → tk' i = tk i) (h2 : ∀ i, 0 ≤ i → i < n → lo' i = lo i) (h3 : nb ≤ nb') {l p a b c : Int} (hp : p ≤ n) (h : t_k16 tk lo nb l p a b c) : t_k16 tk' lo' nb' l p a b c := by
  obtain ⟨g0, g1, g2⟩ := h
  have eg2 := h2 b (by have := g1.2.1; have := g1.2.2.1; omega) (by have := g1.2.2.2.1; omega)
  rw [← eg2] at g2
  exact ⟨t_c_cong h1 h2 hp g0, t_c_cong h1 h2 hp g1, g2⟩
theorem t_k17_cong (h1 : ∀ i, 0 ≤ i → i < n → tk' i = tk i) (h2 : ∀ i, 0 ≤ i → i < n → lo' i = lo i) (h3 : nb ≤ nb') {l p a b c : Int} (hp : p ≤ n) (h : t_k17 tk lo nb l p a b c) : t_k17 tk' lo' nb' l p a b c := by
  obtain ⟨g0, g1, g2⟩ := h
  have eg2 := h2 b (by have := g1.2.1; have := g1.2.2.1; omega) (by have := g1.2.2.2.1; omega)
  rw [← eg2] at g2
  exact ⟨g0.imp_right (t_c_cong h1 h2 hp), t_c_cong h1 h2 hp g1, g2⟩
theorem t_k18_cong (h1 : ∀ i, 0 ≤ i → i < n → tk' i = tk i) (h2 : ∀ i, 0 ≤ i → i < n → lo' i = lo i) (h3 : nb ≤ nb') {l p a b c : Int} (hp : p ≤ n) (h : t_k18 tk lo nb l p a b c) : t_k18 tk' lo' nb' l p a b c := by
  have g0 := h
  exact t_c_cong h1 h2 hp g0
theorem t_k19_cong (h1 : ∀ i, 0 ≤ i → i < n → tk' i = tk i) (h2 : ∀ i, 0 ≤ i → i < n → lo' i = lo i) (h3 : nb ≤ nb') {l p a b c : Int} (hp : p ≤ n) (h : t_k19 tk lo nb l p a b c) : t_k19 tk' lo' nb' l p a b c := by
  obtain ⟨g0, g1, g2⟩ := h
  have eg2 := h2 b (by have := g1.2.1; have := g1.2.2.1; omega) (by have := g1.2.2.2.1; omega)
  rw [← eg2] at g2
  exact ⟨g0.imp_right (t_c_cong h1 h2 hp), t_c_cong h1 h2 hp g1, g2⟩
theorem t_k21_cong (h1 : ∀ i, 0 ≤ i → i < n → tk' i = tk i) (h2 : ∀ i, 0 ≤ i → i < n → lo' i = lo i) (h3 : nb ≤ nb') {l p a b c : Int} (hp : p ≤ n) (h : t_k21 tk lo nb l p a b c) : t_k21 tk' lo' nb' l p a b c := by
  obtain ⟨g0, g1, g2, g3, g4⟩ := h
  have eg3 := h2 b (by have := g1.2.1; have := g1.2.2.1; omega) (by have := g1.2.2.2.1; omega)
  rw [← eg3] at g3
  have eg4 := h2 c (by have := g2.2.1; have := g2.2.2.1; omega) (by have := g2.2.2.2.1; omega)
  rw [← eg4] at g4
  exact ⟨t_c_cong h1 h2 hp g0, t_c_cong h1 h2 hp g1, t_c_cong h1 h2 hp g2, g3, g4⟩
theorem t_k22_cong (h1 : ∀ i, 0 ≤ i → i < n → tk' i = tk i) (h2 : ∀ i, 0 ≤ i → i < n → lo' i = lo i) (h3 : nb ≤ nb') {l p a b c : Int} (hp : p ≤ n) (h : t_k22 tk lo nb l p a b c) : t_k22 tk' lo' nb' l p a b c := by
  have g0 := h
  exact t_c_cong h1 h2 hp g0
theorem t_k23_cong (h1 : ∀ i, 0 ≤ i → i < n → tk' i = tk i) (h2 : ∀ i, 0 ≤ i → i < n → lo' i = lo i) (h3 : nb ≤ nb') {l p a b c : Int} (hp : p ≤ n) (h : t_k23 tk lo nb l p a b c) : t_k23 tk' lo' nb' l p a b c := by
  have g0 := h
  exact t_c_cong h1 h2 hp g0
theorem t_k24_cong (h1 : ∀ i, 0 ≤ i → i < n → tk' i = tk i) (h2 : ∀ i, 0 ≤ i → i < n → lo' i = lo i) (h3 : nb ≤ nb') {l p a b c : Int} (hp : p ≤ n) (h : t_k24 tk lo nb l p a b c) : t_k24 tk' lo' nb' l p a b c := by
  obtain ⟨g0, g1, g2⟩ := h
  have eg2 := h2 b (by have := g1.2.1; have := g1.2.2.1; omega) (by have := g1.2.2.2.1; omega)
  rw [← eg2] at g2
  exact ⟨t_c_cong h1 h2 hp g0, t_c_cong h1 h2 hp g1, g2⟩
theorem t_k25_cong (h1 : ∀ i, 0 ≤ i → i < n → tk' i = tk i) (h2 : ∀ i, 0 ≤ i → i < n → lo' i = lo i) (h3 : nb ≤ nb') {l p a b c : Int} (hp : p ≤ n) (h : t_k25 tk lo nb l p a b c) : t_k25 tk' lo' nb' l p a b c := by
  have g0 := h
  exact t_c_cong h1 h2 hp g0
theorem t_k26_cong (h1 : ∀ i, 0 ≤ i → i < n → tk' i = tk i) (h2 : ∀ i, 0 ≤ i → i < n → lo' i = lo i) (h3 : nb ≤ nb') {l p a b c : Int} (hp : p ≤ n) (h : t_k26 tk lo nb l p a b c) : t_k26 tk' lo' nb' l p a b c := by
  have g0 := h
  exact g0.imp_right (t_c_cong h1 h2 hp)
theorem t_k27_cong (h1 : ∀ i, 0 ≤ i → i < n → tk' i = tk i) (h2 : ∀ i, 0 ≤ i → i < n → lo' i = lo i) (h3 : nb ≤ nb') {l p a b c : Int} (hp : p ≤ n) (h : t_k27 tk lo nb l p a b c) : t_k27 tk' lo' nb' l p a b c := by
  have g0 := h
  exact g0.imp_right (t_c_cong h1 h2 hp)
theorem t_k29_cong (h1 : ∀ i, 0 ≤ i → i < n → tk' i = tk i) (h2 : ∀ i, 0 ≤ i → i < n → lo' i = lo i) (h3 : nb ≤ nb') {l p a b c : Int} (hp : p ≤ n) (h : t_k29 tk lo nb l p a b c) : t_k29 tk' lo' nb' l p a b c := by
  have g0 := h
  exact t_c_cong h1 h2 hp g0
theorem t_N_cong (h1 : ∀ i, 0 ≤ i → i < n → tk' i = tk i) (h2 : ∀ i, 0 ≤ i → i < n → lo' i = lo i) (h3 : nb ≤ nb') {p k a b c : Int} (h0 : 0 ≤ p) (hp : p < n) (h : t_N tk lo nb p k a b c) : t_N tk' lo' nb' p k a b c := by
  have e := h2 p h0 hp
  obtain ⟨g, g3, g28, g5, g6, g7, g8, g9, g10, g11, g12, g13, g14, g15, g16, g17, g18, g19, g21, g22, g23, g24, g25, g26, g27, g29⟩ := h
  unfold t_N
  rw [e]
  exact ⟨g, fun q => t_k3_cong h1 h2 h3 (by omega) (g3 q), fun q => t_k28_cong h1 h2 h3 (by omega) (g28 q), fun q => t_k5_cong h1 h2 h3 (by omega) (g5 q), fun q => t_k6_cong h1 h2 h3 (by omega) (g6 q), fun q => t_k7_cong h1 h2 h3 (by omega) (g7 q), fun q => t_k8_cong h1 h2 h3 (by omega) (g8 q), fun q => t_k9_cong h1 h2 h3 (by omega) (g9 q), fun q => t_k10_cong h1 h2 h3 (by omega) (g10 q), fun q => t_k11_cong h1 h2 h3 (by omega) (g11 q), fun q => t_k12_cong h1 h2 h3 (by omega) (g12 q), fun q => t_k13_cong h1 h2 h3 (by omega) (g13 q), fun q => t_k14_cong h1 h2 h3 (by omega) (g14 q), fun q => t_k15_cong h1 h2 h3 (by omega) (g15 q), fun q => t_k16_cong h1 h2 h3 (by omega) (g16 q), fun q => t_k17_cong h1 h2 h3 (by omega) (g17 q), fun q => t_k18_cong h1 h2 h3 (by omega) (g18 q), fun q => t_k19_cong h1 h2 h3 (by omega) (g19 q), fun q => t_k21_cong h1 h2 h3 (by omega) (g21 q), fun q => t_k22_cong h1 h2 h3 (by omega) (g22 q), fun q => t_k23_cong h1 h2 h3 (by omega) (g23 q), fun q => t_k24_cong h1 h2 h3 (by omega) (g24 q), fun q => t_k25_cong h1 h2 h3 (by omega) (g25 q), fun q => t_k26_cong h1 h2 h3 (by omega) (g26 q), fun q => t_k27_cong h1 h2 h3 (by omega) (g27 q), fun q => t_k29_cong h1 h2 h3 (by omega) (g29 q)⟩
theorem t_N_mk3 {l p a b c : Int} (hl : lo p = l) (h0 : 0 ≤ l) (h1 : l ≤ p) (h : t_k3 tk lo nb l p a b c) : t_N tk lo nb p 3 a b c := by
  subst hl
  exact ⟨⟨h0, h1, by decide, by decide⟩, fun _ => h, fun q => absurd q (by decide), fun q => absurd q (by decide), fun q => absurd q (by decide), fun q => absurd q (by decide), fun q => absurd q (by decide), fun q => absurd q (by decide), fun q => absurd q (by decide), fun q => absurd q (by decide), fun q => absurd q (by decide), fun q => absurd q (by decide), fun q => absurd q (by decide), fun q => absurd q (by decide), fun q => absurd q (by decide), fun q => absurd q (by decide), fun q => absurd q (by decide), fun q => absurd q (by decide), fun q => absurd q (by decide), fun q => absurd q (by decide), fun q => absurd q (by decide), fun q => absurd q (by decide), fun q => absurd q (by decide), fun q => absurd q (by decide), fun q => absurd q (by decide), fun q => absurd q (by decide)⟩
theorem t_N_mk28 {l p a b c : Int} (hl : lo p = l) (h0 : 0 ≤ l) (h1 : l ≤ p) (h : t_k28 tk lo nb l p a b c) : t_N tk lo nb p 28 a b c := by
  subst hl
  exact ⟨⟨h0, h1, by decide, by decide⟩, fun q => absurd q (by decide), fun _ => h, fun q => absurd q (by decide), fun q => absurd q (by decide), fun q => absurd q (by decide), fun q => absurd q (by decide), fun q => absurd q (by decide), fun q => absurd q (by decide), fun q => absurd q (by decide), fun q => absurd q (by decide), fun q => absurd q (by decide), fun q => absurd q (by decide), fun q => absurd q (by decide), fun q => absurd q (by decide), fun q => absurd q (by decide), fun q => absurd q (by decide), fun q => absurd q (by decide), fun q => absurd q (by decide), fun q => absurd q (by decide), fun q => absurd q (by decide), fun q => absurd q (by decide), fun q => absurd q (by decide), fun q => absurd q (by decide), fun q => absurd q (by decide), fun q => absurd q (by decide)⟩
theorem t_N_mk5 {l p a b c : Int} (hl : lo p = l) (h0 : 0 ≤ l) (h1 : l ≤ p) (h : t_k5 tk lo nb l p a b c) : t_N tk lo nb p 5 a b c := by
  subst hl
  exact ⟨⟨h0, h1, by decide, by decide⟩, fun q => absurd q (by decide), fun q => absurd q (by decide), fun _ => h, fun q => absurd q (by decide), fun q => absurd q (by decide), fun q => absurd q (by decide), fun q => absurd q (by decide), fun q => absurd q (by decide), fun q => absurd q (by decide), fun q => absurd q (by decide), fun q => absurd q (by decide), fun q => absurd q (by decide), fun q => absurd q (by decide), fun q => absurd q (by decide), fun q => absurd q (by decide), fun q => absurd q (by decide), fun q => absurd q (by decide), fun q => absurd q (by decide), fun q => absurd q (by decide), fun q => absurd q (by decide), fun q => absurd q (by decide), fun q => absurd q (by decide), fun q => absurd q (by decide), fun q => absurd q (by decide), fun q => absurd q (by decide)⟩
theorem t_N_mk6 {l p a b c : Int} (hl : lo p = l) (h0 : 0 ≤ l) (h1 : l ≤ p) (h : t_k6 tk lo nb l p a b c) : t_N tk lo nb p 6 a b c := by
  subst hl
  exact ⟨⟨h0, h1, by decide, by decide⟩, fun q => absurd q (by decide), fun q => absurd q (by decide), fun q => absurd q (by decide), fun _ => h, fun q => absurd q (by decide), fun q => absurd q (by decide), fun q => absurd q (by decide), fun q => absurd q (by decide), fun q => absurd q (by decide), fun q => absurd q (by decide), fun q => absurd q (by decide), fun q => absurd q (by decide), fun q => absurd q (by decide), fun q => absurd q (by decide), fun q => absurd q (by decide), fun q => absurd q (by decide), fun q => absurd q (by decide), fun q => absurd q (by decide), fun q => absurd q (by decide), fun q => absurd q (by decide), fun q => absurd q (by decide), fun q => absurd q (by decide), fun q => absurd q (by decide), fun q => absurd q (by decide), fun q => absurd q (by decide)⟩
theorem t_N_mk7 {l p a b c : Int} (hl : lo p = l) (h0 : 0 ≤ l) (h1 : l ≤ p) (h : t_k7 tk lo nb l p a b c) : t_N tk lo nb p 7 a b c := by
  subst hl
  exact ⟨⟨h0, h1, by decide, by decide⟩, fun q => absurd q (by decide), fun q => absurd q (by decide), fun q => absurd q (by decide), fun q => absurd q (by decide), fun _ => h, fun q => absurd q (by decide), fun q => absurd q (by decide), fun q => absurd q (by decide), fun q => absurd q (by decide), fun q => absurd q (by decide), fun q => absurd q (by decide), fun q => absurd q (by decide), fun q => absurd q (by decide), fun q => absurd q (by decide), fun q => absurd q (by decide), fun q => absurd q (by decide), fun q => absurd q (by decide), fun q => absurd q (by decide), fun q => absurd q (by decide), fun q => absurd q (by decide), fun q => absurd q (by decide), fun q => absurd q (by decide), fun q => absurd q (by decide), fun q => absurd q (by decide), fun q => absurd q (by decide)⟩
theorem t_N_mk8 {l p a b c : Int} (hl : lo p = l) (h0 : 0 ≤ l) (h1 : l ≤ p) (h : t_k8 tk lo nb l p a b c) : t_N tk lo nb p 8 a b c := by
  subst hl
  exact ⟨⟨h0, h1, by decide, by decide⟩, fun q => absurd q (by decide), fun q => absurd q (by decide), fun q => absurd q (by decide), fun q => absurd q (by decide), fun q => absurd q (by decide), fun _ => h, fun q => absurd q (by decide), fun q => absurd q (by decide), fun q => absurd q (by decide), fun q => absurd q (by decide), fun q => absurd q (by decide), fun q => absurd q (by decide), fun q => absurd q (by decide), fun q => absurd q (by decide), fun q => absurd q (by decide), fun q => absurd q (by decide), fun q => absurd q (by decide), fun q => absurd q (by decide), fun q => absurd q (by decide), fun q => absurd q (by decide), fun q => absurd q (by decide), fun q => absurd q (by decide), fun q => absurd q (by decide), fun q => absurd q (by decide), fun q => absurd q (by decide)⟩
theorem t_N_mk9 {l p a b c : Int} (hl : lo p = l) (h0 : 0 ≤ l) (h1 : l ≤ p) (h : t_k9 tk lo nb l p a b c) : t_N tk lo nb p 9 a b c := by
  subst hl
  exact ⟨⟨h0, h1, by decide, by decide⟩, fun q => absurd q (by decide), fun q => absurd q (by decide), fun q => absurd q (by decide), fun q => absurd q (by decide), fun q => absurd q (by decide), fun q => absurd q (by decide), fun _ => h, fun q => absurd q (by decide), fun q => absurd q (by decide), fun q => absurd q (by decide), fun q => absurd q (by decide), fun q => absurd q (by decide), fun q => absurd q (by decide), fun q => absurd q (by decide), fun q => absurd q (by decide), fun q => absurd q (by decide), fun q => absurd q (by decide), fun q => absurd q (by decide), fun q => absurd q (by decide), fun q => absurd q (by decide), fun q => absurd q (by decide), fun q => absurd q (by decide), fun q => absurd q (by decide), fun q => absurd q (by decide), fun q => absurd q (by decide)⟩
theorem t_N_mk10 {l p a b c : Int} (hl : lo p = l) (h0 : 0 ≤ l) (h1 : l ≤ p) (h : t_k10 tk lo nb l p a b c) : t_N tk lo nb p 10 a b c := by
  subst hl
  exact ⟨⟨h0, h1, by decide, by decide⟩, fun q => absurd q (by decide), fun q => absurd q (by decide), fun q => absurd q (by decide), fun q => absurd q (by decide), fun q => absurd q (by decide), fun q => absurd q (by decide), fun q => absurd q (by decide), fun _ => h, fun q => absurd q (by decide), fun q => absurd q (by decide), fun q => absurd q (by decide), fun q => absurd q (by decide), fun q => absurd q (by decide), fun q => absurd q (by decide), fun q => absurd q (by decide), fun q => absurd q (by decide), fun q => absurd q (by decide), fun q => absurd q (by decide), fun q => absurd q (by decide), fun q => absurd q (by decide), fun q => absurd q (by decide), fun q => absurd q (by decide), fun q => absurd q (by decide), fun q => absurd q (by decide), fun q => absurd q (by decide)⟩
theorem t_N_mk11 {l p a b c : Int} (hl : lo p = l) (h0 : 0 ≤ l) (h1 : l ≤ p) (h : t_k11 tk lo nb l p a b c) : t_N tk lo nb p 11 a b c := by
  subst hl
  exact ⟨⟨h0, h1, by decide, by decide⟩, fun q => absurd q (by decide), fun q => absurd q (by decide), fun q => absurd q (by decide), fun q => absurd q (by decide), fun q => absurd q (by decide), fun q => absurd q (by decide), fun q => absurd q (by decide), fun q => absurd q (by decide), fun _ => h, fun q => absurd q (by decide), fun q => absurd q (by decide), fun q => absurd q (by decide), fun q => absurd q (by decide), fun q => absurd q (by decide), fun q => absurd q (by decide), fun q => absurd q (by decide), fun q => absurd q (by decide), fun q => absurd q (by decide), fun q => absurd q (by decide), fun q => absurd q (by decide), fun q => absurd q (by decide), fun q => absurd q (by decide), fun q => absurd q (by decide), fun q => absurd q (by decide), fun q => absurd q (by decide)⟩
theorem t_N_mk12 {l p a b c : Int} (hl : lo p = l) (h0 : 0 ≤ l) (h1 : l ≤ p) (h : t_k12 tk lo nb l p a b c) : t_N tk lo nb p 12 a b c := by
  subst hl
  exact ⟨⟨h0, h1, by decide, by decide⟩, fun q => absurd q (by decide), fun q => absurd q (by decide), fun q => absurd q (by decide), fun q => absurd q (by decide), fun q => absurd q (by decide), fun q => absurd q (by decide), fun q => absurd q (by decide), fun q => absurd q (by decide), fun q => absurd q (by decide), fun _ => h, fun q => absurd q (by decide), fun q => absurd q (by decide), fun q => absurd q (by decide), fun q => absurd q (by decide), fun q => absurd q (by decide), fun q => absurd q (by decide), fun q => absurd q (by decide), fun q => absurd q (by decide), fun q => absurd q (by decide), fun q => absurd q (by decide), fun q => absurd q (by decide), fun q => absurd q (by decide), fun q => absurd q (by decide), fun q => absurd q (by decide), fun q => absurd q (by decide)⟩
theorem t_N_mk13 {l p a b c : Int} (hl : lo p = l) (h0 : 0 ≤ l) (h1 : l ≤ p) (h : t_k13 tk lo nb l p a b c) : t_N tk lo nb p 13 a b c := by
  subst hl
  exact ⟨⟨h0, h1, by decide, by decide⟩, fun q => absurd q (by decide), fun q => absurd q (by decide), fun q => absurd q (by decide), fun q => absurd q (by decide), fun q => absurd q (by decide), fun q => absurd q (by decide), fun q => absurd q (by decide), fun q => absurd q (by decide), fun q => absurd q (by decide), fun q => absurd q (by decide), fun _ => h, fun q => absurd q (by decide), fun q => absurd q (by decide), fun q => absurd q (by decide), fun q => absurd q (by decide), fun q => absurd q (by decide), fun q => absurd q (by decide), fun q => absurd q (by decide), fun q => absurd q (by decide), fun q => absurd q (by decide), fun q => absurd q (by decide), fun q => absurd q (by decide), fun q => absurd q (by decide), fun q => absurd q (by decide), fun q => absurd q (by decide)⟩
theorem t_N_mk14 {l p a b c : Int} (hl : lo p = l) (h0 : 0 ≤ l) (h1 : l ≤ p) (h : t_k14 tk lo nb l p a b c) : t_N tk lo nb p 14 a b c := by
  subst hl
  exact ⟨⟨h0, h1, by decide, by decide⟩, fun q => absurd q (by decide), fun q => absurd q (by decide), fun q => absurd q (by decide), fun q => absurd q (by decide), fun q => absurd q (by decide), fun q => absurd q (by decide), fun q => absurd q (by decide), fun q => absurd q (by decide), fun q => absurd q (by decide), fun q => absurd q (by decide), fun q => absurd q (by decide), fun _ => h, fun q => absurd q (by decide), fun q => absurd q (by decide), fun q => absurd q (by decide), fun q => absurd q (by decide), fun q => absurd q (by decide), fun q => absurd q (by decide), fun q => absurd q (by decide), fun q => absurd q (by decide), fun q => absurd q (by decide), fun q => absurd q (by decide), fun q => absurd q (by decide), fun q => absurd q (by decide), fun q => absurd q (by decide)⟩
theorem t_N_mk15 {l p a b c : Int} (hl : lo p = l) (h0 : 0 ≤ l) (h1 : l ≤ p) (h : t_k15 tk lo nb l p a b c) : t_N tk lo nb p 15 a b c := by
  subst hl
  exact ⟨⟨h0, h1, by decide, by decide⟩, fun q => absurd q (by decide), fun q => absurd q (by decide), fun q => absurd q (by decide), fun q => absurd q (by decide), fun q => absurd q (by decide), fun q => absurd q (by decide), fun q => absurd q (by decide), fun q => absurd q (by decide), fun q => absurd q (by decide), fun q => absurd q (by decide), fun q => absurd q (by decide), fun q => absurd q (by decide), fun _ => h, fun q => absurd q (by decide), fun q => absurd q (by decide), fun q => absurd q (by decide), fun q => absurd q (by decide), fun q => absurd q (by decide), fun q => absurd q (by decide), fun q => absurd q (by decide), fun q => absurd q (by decide), fun q => absurd q (by decide), fun q => absurd q (by decide), fun q => absurd q (by decide), fun q => absurd q (by decide)⟩
theorem t_N_mk16 {l p a b c : Int} (hl : lo p = l) (h0 : 0 ≤ l) (h1 : l ≤ p) (h : t_k16 tk lo nb l p a b c) : t_N tk lo nb p 16 a b c := by
  subst hl
  exact ⟨⟨h0, h1, by decide, by decide⟩, fun q => absurd q (by decide), fun q => absurd q (by decide), fun q => absurd q (by decide), fun q => absurd q (by decide), fun q => absurd q (by decide), fun q => absurd q (by decide), fun q => absurd q (by decide), fun q => absurd q (by decide), fun q => absurd q (by decide), fun q => absurd q (by decide), fun q => absurd q (by decide), fun q => absurd q (by decide), fun q => absurd q (by decide), fun _ => h, fun q => absurd q (by decide), fun q => absurd q (by decide), fun q => absurd q (by decide), fun q => absurd q (by decide), fun q => absurd q (by decide), fun q => absurd q (by decide), fun q => absurd q (by decide), fun q => absurd q (by decide), fun q => absurd q (by decide), fun q => absurd q (by decide), fun q => absurd q (by decide)⟩
theorem t_N_mk17 {l p a b c : Int} (hl : lo p = l) (h0 : 0 ≤ l) (h1 : l ≤ p) (h : t_k17 tk lo nb l p a b c) : t_N tk lo nb p 17 a b c := by
  subst hl
  exact ⟨⟨h0, h1, by decide, by decide⟩, fun q => absurd q (by decide), fun q => absurd q (by decide), fun q => absurd q (by decide), fun q => absurd q (by decide), fun q => absurd q (by decide), fun q => absurd q (by decide), fun q => absurd q (by decide), fun q => absurd q (by decide), fun q => absurd q (by decide), fun q => absurd q (by decide), fun q => absurd q (by decide), fun q => absurd q (by decide), fun q => absurd q (by decide), fun q => absurd q (by decide), fun _ => h, fun q => absurd q (by decide), fun q => absurd q (by decide), fun q => absurd q (by decide), fun q => absurd q (by decide), fun q => absurd q (by decide), fun q => absurd q (by decide), fun q => absurd q (by decide), fun q => absurd q (by decide), fun q => absurd q (by decide), fun q => absurd q (by decide)⟩
theorem t_N_mk18 {l p a b c : Int} (hl : lo p = l) (h0 : 0 ≤ l) (h1 : l ≤ p) (h : t_k18 tk lo nb l p a b c) : t_N tk lo nb p 18 a b c := by
  subst hl
  exact ⟨⟨h0, h1, by decide, by decide⟩, fun q => absurd q (by decide), fun q => absurd q (by decide), fun q => absurd q (by decide), fun q => absurd q (by decide), fun q => absurd q (by decide), fun q => absurd q (by decide), fun q => absurd q (by decide), fun q => absurd q (by decide), fun q => absurd q (by decide), fun q => absurd q (by decide), fun q => absurd q (by decide), fun q => absurd q (by decide), fun q => absurd q (by decide), fun q => absurd q (by decide), fun q => absurd q (by decide), fun _ => h, fun q => absurd q (by decide), fun q => absurd q (by decide), fun q => absurd q (by decide), fun q => absurd q (by decide), fun q => absurd q (by decide), fun q => absurd q (by decide), fun q => absurd q (by decide), fun q => absurd q (by decide), fun q => absurd q (by decide)⟩
theorem t_N_mk19 {l p a b c : Int} (hl : lo p = l) (h0 : 0 ≤ l) (h1 : l ≤ p) (h : t_k19 tk lo nb l p a b c) : t_N tk lo nb p 19 a b c := by
  subst hl
  exact ⟨⟨h0, h1, by decide, by decide⟩, fun q => absurd q (by decide), fun q => absurd q (by decide), fun q => absurd q (by decide), fun q => absurd q (by decide), fun q => absurd q (by decide), fun q => absurd q (by decide), fun q => absurd q (by decide), fun q => absurd q (by decide), fun q => absurd q (by decide), fun q => absurd q (by decide), fun q => absurd q (by decide), fun q => absurd q (by decide), fun q => absurd q (by decide), fun q => absurd q (by decide), fun q => absurd q (by decide), fun q => absurd q (by decide), fun _ => h, fun q => absurd q (by decide), fun q => absurd q (by decide), fun q => absurd q (by decide), fun q => absurd q (by decide), fun q => absurd q (by decide), fun q => absurd q (by decide), fun q => absurd q (by decide), fun q => absurd q (by decide)⟩
theorem t_N_mk21 {l p a b c : Int} (hl : lo p = l) (h0 : 0 ≤ l) (h1 : l ≤ p) (h : t_k21 tk lo nb l p a b c) : t_N tk lo nb p 21 a b c := by
  subst hl
  exact ⟨⟨h0, h1, by decide, by decide⟩, fun q => absurd q (by decide), fun q => absurd q (by decide), fun q => absurd q (by decide), fun q => absurd q (by decide), fun q => absurd q (by decide), fun q => absurd q (by decide), fun q => absurd q (by decide), fun q => absurd q (by decide), fun q => absurd q (by decide), fun q => absurd q (by decide), fun q => absurd q (by decide), fun q => absurd q (by decide), fun q => absurd q (by decide), fun q => absurd q (by decide), fun q => absurd q (by decide), fun q => absurd q (by decide), fun q => absurd q (by decide), fun _ => h, fun q => absurd q (by decide), fun q => absurd q (by decide), fun q => absurd q (by decide), fun q => absurd q (by decide), fun q => absurd q (by decide), fun q => absurd q (by decide), fun q => absurd q (by decide)⟩
theorem t_N_mk22 {l p a b c : Int} (hl : lo p = l) (h0 : 0 ≤ l) (h1 : l ≤ p) (h : t_k22 tk lo nb l p a b c) : t_N tk lo nb p 22 a b c := by
  subst hl
  exact ⟨⟨h0, h1, by decide, by decide⟩, fun q => absurd q (by decide), fun q => absurd q (by decide), fun q => absurd q (by decide), fun q => absurd q (by decide), fun q => absurd q (by decide), fun q => absurd q (by decide), fun q => absurd q (by decide), fun q => absurd q (by decide), fun q => absurd q (by decide), fun q => absurd q (by decide), fun q => absurd q (by decide), fun q => absurd q (by decide), fun q => absurd q (by decide), fun q => absurd q (by decide), fun q => absurd q (by decide), fun q => absurd q (by decide), fun q => absurd q (by decide), fun q => absurd q (by decide), fun _ => h, fun q => absurd q (by decide), fun q => absurd q (by decide), fun q => absurd q (by decide), fun q => absurd q (by decide), fun q => absurd q (by decide), fun q => absurd q (by decide)⟩
theorem t_N_mk23 {l p a b c : Int} (hl : lo p = l) (h0 : 0 ≤ l) (h1 : l ≤ p) (h : t_k23 tk lo nb l p a b c) : t_N tk lo nb p 23 a b c := by
  subst hl
  exact ⟨⟨h0, h1, by decide, by decide⟩, fun q => absurd q (by decide), fun q => absurd q (by decide), fun q => absurd q (by decide), fun q => absurd q (by decide), fun q => absurd q (by decide), fun q => absurd q (by decide), fun q => absurd q (by decide), fun q => absurd q (by decide), fun q => absurd q (by decide), fun q => absurd q (by decide), fun q => absurd q (by decide), fun q => absurd q (by decide), fun q => absurd q (by decide), fun q => absurd q (by decide), fun q => absurd q (by decide), fun q => absurd q (by decide), fun q => absurd q (by decide), fun q => absurd q (by decide), fun q => absurd q (by decide), fun _ => h, fun q => absurd q (by decide), fun q => absurd q (by decide), fun q => absurd q (by decide), fun q => absurd q (by decide), fun q => absurd q (by decide)⟩
theorem t_N_mk24 {l p a b c : Int} (hl : lo p = l) (h0 : 0 ≤ l) (h1 : l ≤ p) (h : t_k24 tk lo nb l p a b c) : t_N tk lo nb p 24 a b c := by
  subst hl
  exact ⟨⟨h0, h1, by decide, by decide⟩, fun q => absurd q (by decide), fun q => absurd q (by decide), fun q => absurd q (by decide), fun q => absurd q (by decide), fun q => absurd q (by decide), fun q => absurd q (by decide), fun q => absurd q (by decide), fun q => absurd q (by decide), fun q => absurd q (by decide), fun q => absurd q (by decide), fun q => absurd q (by decide), fun q => absurd q (by decide), fun q => absurd q (by decide), fun q => absurd q (by decide), fun q => absurd q (by decide), fun q => absurd q (by decide), fun q => absurd q (by decide), fun q => absurd q (by decide), fun q => absurd q (by decide), fun q => absurd q (by decide), fun _ => h, fun q => absurd q (by decide), fun q => absurd q (by decide), fun q => absurd q (by decide), fun q => absurd q (by decide)⟩
theorem t_N_mk25 {l p a b c : Int} (hl : lo p = l) (h0 : 0 ≤ l) (h1 : l ≤ p) (h : t_k25 tk lo nb l p a b c) : t_N tk lo nb p 25 a b c := by
  subst hl
  exact ⟨⟨h0, h1, by decide, by decide⟩, fun q => absurd q (by decide), fun q => absurd q (by decide), fun q => absurd q (by decide), fun q => absurd q (by decide), fun q => absurd q (by decide), fun q => absurd q (by decide), fun q => absurd q (by decide), fun q => absurd q (by decide), fun q => absurd q (by decide), fun q => absurd q (by decide), fun q => absurd q (by decide), fun q => absurd q (by decide), fun q => absurd q (by decide), fun q => absurd q (by decide), fun q => absurd q (by decide), fun q => absurd q (by decide), fun q => absurd q (by decide), fun q => absurd q (by decide), fun q => absurd q (by decide), fun q => absurd q (by decide), fun q => absurd q (by decide), fun _ => h, fun q => absurd q (by decide), fun q => absurd q (by decide), fun q => absurd q (by decide)⟩
theorem t_N_mk26 {l p a b c : Int} (hl : lo p = l) (h0 : 0 ≤ l) (h1 : l ≤ p) (h : t_k26 tk lo nb l p a b c) : t_N tk lo nb p 26 a b c := by
  subst hl
  exact ⟨⟨h0, h1, by decide, by decide⟩, fun q => absurd q (by decide), fun q => absurd q (by decide), fun q => absurd q (by decide), fun q => absurd q (by decide), fun q => absurd q (by decide), fun q => absurd q (by decide), fun q => absurd q (by decide), fun q => absurd q (by decide), fun q => absurd q (by decide), fun q => absurd q (by decide), fun q => absurd q (by decide), fun q => absurd q (by decide), fun q => absurd q (by decide), fun q => absurd q (by decide), fun q => absurd q (by decide), fun q => absurd q (by decide), fun q => absurd q (by decide), fun q => absurd q (by decide), fun q => absurd q (by decide), fun q => absurd q (by decide), fun q => absurd q (by decide), fun q => absurd q (by decide), fun _ => h, fun q => absurd q (by decide), fun q => absurd q (by decide)⟩
theorem t_N_mk27 {l p a b c : Int} (hl : lo p = l) (h0 : 0 ≤ l) (h1 : l ≤ p) (h : t_k27 tk lo nb l p a b c) : t_N tk lo nb p 27 a b c := by
  subst hl
  exact ⟨⟨h0, h1, by decide, by decide⟩, fun q => absurd q (by decide), fun q => absurd q (by decide), fun q => absurd q (by decide), fun q => absurd q (by decide), fun q => absurd q (by decide), fun q => absurd q (by decide), fun q => absurd q (by decide), fun q => absurd q (by decide), fun q => absurd q (by decide), fun q => absurd q (by decide), fun q => absurd q (by decide), fun q => absurd q (by decide), fun q => absurd q (by decide), fun q => absurd q (by decide), fun q => absurd q (by decide), fun q => absurd q (by decide), fun q => absurd q (by decide), fun q => absurd q (by decide), fun q => absurd q (by decide), fun q => absurd q (by decide), fun q => absurd q (by decide), fun q => absurd q (by decide), fun q => absurd q (by decide), fun _ => h, fun q => absurd q (by decide)⟩
theorem t_N_mk29 {l p a b c : Int} (hl : lo p = l) (h0 : 0 ≤ l) (h1 : l ≤ p) (h : t_k29 tk lo nb l p a b c) : t_N tk lo nb p 29 a b c := by
  subst hl
  exact ⟨⟨h0, h1, by decide, by decide⟩, fun q => absurd q (by decide), fun q => absurd q (by decide), fun q => absurd q (by decide), fun q => absurd q (by decide), fun q => absurd q (by decide), fun q => absurd q (by decide), fun q => absurd q (by decide), fun q => absurd q (by decide), fun q => absurd q (by decide), fun q => absurd q (by decide), fun q => absurd q (by decide), fun q => absurd q (by decide), fun q => absurd q (by decide), fun q => absurd q (by decide), fun q => absurd q (by decide), fun q => absurd q (by decide), fun q => absurd q (by decide), fun q => absurd q (by decide), fun q => absurd q (by decide), fun q => absurd q (by decide), fun q => absurd q (by decide), fun q => absurd q (by decide), fun q => absurd q (by decide), fun q => absurd q (by decide), fun _ => h⟩
theorem t_N_mk1 {l p a b c : Int} (hl : lo p = l) (h0 : 0 ≤ l) (h1 : l ≤ p) : t_N tk lo nb p 1 a b c := by
  subst hl
  exact ⟨⟨h0, h1, by decide, by decide⟩, fun q => absurd q (by decide), fun q => absurd q (by decide), fun q => absurd q (by decide), fun q => absurd q (by decide), fun q => absurd q (by decide), fun q => absurd q (by decide), fun q => absurd q (by decide), fun q => absurd q (by decide), fun q => absurd q (by decide), fun q => absurd q (by decide), fun q => absurd q (by decide), fun q => absurd q (by decide), fun q => absurd q (by decide), fun q => absurd q (by decide), fun q => absurd q (by decide), fun q => absurd q (by decide), fun q => absurd q (by decide), fun q => absurd q (by decide), fun q => absurd q (by decide), fun q => absurd q (by decide), fun q => absurd q (by decide), fun q => absurd q (by decide), fun q => absurd q (by decide), fun q => absurd q (by decide), fun q => absurd q (by decide)⟩
theorem t_N_mk2 {l p a b c : Int} (hl : lo p = l) (h0 : 0 ≤ l) (h1 : l ≤ p) : t_N tk lo nb p 2 a b c := by
  subst hl
  exact ⟨⟨h0, h1, by decide, by decide⟩, fun q => absurd q (by decide), fun q => absurd q (by decide), fun q => absurd q (by decide), fun q => absurd q (by decide), fun q => absurd q (by decide), fun q => absurd q (by decide), fun q => absurd q (by decide), fun q => absurd q (by decide), fun q => absurd q (by decide), fun q => absurd q (by decide), fun q => absurd q (by decide), fun q => absurd q (by decide), fun q => absurd q (by decide), fun q => absurd q (by decide), fun q => absurd q (by decide), fun q => absurd q (by decide), fun q => absurd q (by decide), fun q => absurd q (by decide), fun q => absurd q (by decide), fun q => absurd q (by decide), fun q => absurd q (by decide), fun q => absurd q (by decide), fun q => absurd q (by decide), fun q => absurd q (by decide), fun q => absurd q (by decide)⟩
theorem t_N_mk4 {l p a b c : Int} (hl : lo p = l) (h0 : 0 ≤ l) (h1 : l ≤ p) : t_N tk lo nb p 4 a b c := by
  subst hl
  exact ⟨⟨h0, h1, by decide, by decide⟩, fun q => absurd q (by decide), fun q => absurd q (by decide), fun q => absurd q (by decide), fun q => absurd q (by decide), fun q => absurd q (by decide), fun q => absurd q (by decide), fun q => absurd q (by decide), fun q => absurd q (by decide), fun q => absurd q (by decide), fun q => absurd q (by decide), fun q => absurd q (by decide), fun q => absurd q (by decide), fun q => absurd q (by decide), fun q => absurd q (by decide), fun q => absurd q (by decide), fun q => absurd q (by decide), fun q => absurd q (by decide), fun q => absurd q (by decide), fun q => absurd q (by decide), fun q => absurd q (by decide), fun q => absurd q (by decide), fun q => absurd q (by decide), fun q => absurd q (by decide), fun q => absurd q (by decide), fun q => absurd q (by decide)⟩
theorem t_N_mk20 {l p a b c : Int} (hl : lo p = l) (h0 : 0 ≤ l) (h1 : l ≤ p) : t_N tk lo nb p 20 a b c := by
  subst hl
  exact ⟨⟨h0, h1, by decide, by decide⟩, fun q => absurd q (by decide), fun q => absurd q (by decide), fun q => absurd q (by decide), fun q => absurd q (by decide), fun q => absurd q (by decide), fun q => absurd q (by decide), fun q => absurd q (by decide), fun q => absurd q (by decide), fun q => absurd q (by decide), fun q => absurd q (by decide), fun q => absurd q (by decide), fun q => absurd q (by decide), fun q => absurd q (by decide), fun q => absurd q (by decide), fun q => absurd q (by decide), fun q => absurd q (by decide), fun q => absurd q (by decide), fun q => absurd q (by decide), fun q => absurd q (by decide), fun q => absurd q (by decide), fun q => absurd q (by decide), fun q => absurd q (by decide), fun q => absurd q (by decide), fun q => absurd q (by decide), fun q => absurd q (by decide)⟩
def t_up (lo : Int → Int) (v l : Int) : Int → Int := fun i => if i = v then l else lo i
theorem t_up_same {lo : Int → Int} {v l : Int} : t_up lo v l v = l := if_pos rfl
theorem t_up_ne {lo : Int → Int} {v l i : Int} (h : i ≠ v) : t_up lo v l i = lo i := if_neg h
/-- below l nothing points beyond it -/
def m_cl (A : Nat → Int → Int) (l : Int) : Prop := ∀ p, 0 ≤ p → p < l → A 61 p < l
/-- a node more -/
theorem m_TR_nd {I I' : Nat → Int} {A A' : Nat → Int → Int} {v kd a b c l : Int} (h : m_TR lo I A) (hn : m_nd I A I' A' v kd a b c) (hl0 : 0 ≤ l) (hl : l ≤ v) (hc : m_cl A l) (hk : t_N (A' 53) (t_up lo v l) (I' 4033) v kd a b c) : m_TR (t_up lo v l) I' A' := by
  obtain ⟨e0, ⟨-, -, -, -, e5⟩, e6, e7, e8, e9, e10, e11, e12, e13⟩ := hn
  have enb : I' 4033 = I 4033 := e6 _ (by decide) (by decide) (by decide) (by decide) (by decide)
  have htk : ∀ i, 0 ≤ i → i < v → A' 53 i = A 53 i := fun i h1 h2 => (e8 i h1 h2).1
  have hlo : ∀ i, 0 ≤ i → i < v → t_up lo v l i = lo i := fun i h1 h2 => t_up_ne (by omega)
  intro p h0 hp
  rw [e5] at hp ⊢
  by_cases e : p = v
  · subst e
    rw [e9, e10, e11, e12]
    refine ⟨hk, Or.inl e13, fun q h1 h2 h3 => Or.inl ?_⟩
    rw [e13]
    by_cases e : q = p
    · subst e; omega
    · omega
  · have hpv : p < v := by omega
    obtain ⟨g1, g2, g3, g4, g5⟩ := e8 p h0 hpv
    obtain ⟨h1, h2, h3⟩ := h p h0 (by omega)
    rw [g1, g2, g3, g4]
    refine ⟨t_N_cong htk hlo (by omega) h0 hpv h1, ?_, ?_⟩
    · rw [g1, g5]
      rcases h2 with h2 | ⟨q1, q2, q3, q4, q5⟩
      · exact Or.inl h2
      · have hx : 0 ≤ A 61 p := by omega
        refine Or.inr ?_
        rw [hlo _ hx (by omega), htk _ hx (by omega)]
        refine ⟨q1, q2, by omega, q4, fun q r1 r2 r3 => ?_⟩
        by_cases e : q = v
        · omega
        · rw [t_up_ne e] at r1
          exact q5 q r1 r2 (by omega)
    · intro q r1 r2 r3
      rw [g5]
      by_cases e : q = v
      · subst e
        rw [t_up_same] at r3 ⊢
        exact Or.inl (hc p h0 r3)
      · rw [t_up_ne e] at r3 ⊢
        exact h3 q r1 (by omega) r3
/-- what isn't inside a later one -/
def m_rt (lo : Int → Int) (n v : Int) : Prop := ∀ q, v < q → q < n → v < lo q
/-- one is put behind another -/
theorem m_TR_link {I : Nat → Int} {A A' : Nat → Int → Int} {v w : Int} (h : m_TR lo I A) (h53 : A' 53 = A 53) (h55 : A' 55 = A 55) (h57 : A' 57 = A 57) (h59 : A' 59 = A 59) (h61 : A' 61 = w_upA (A 61) v w) (hv : 0 ≤ v) (hw : w < I 3905) (hr : m_rt lo (I 3905) v) (hr2 : m_rt lo (I 3905) w) (hvw : v < lo w) (hww : lo w ≤ w) (hL : t_L (A 53 v) (A 53 w)) : m_TR lo I A' := by
  intro p h0 hp
  obtain ⟨h1, h2, h3⟩ := h p h0 hp
  rw [h53, h55, h57, h59, h61]
  refine ⟨h1, ?_⟩
  by_cases e : p = v
  · subst e
    have e1 : w_upA (A 61) p w p = w := if_pos rfl
    unfold t_X
    rw [e1]
    refine ⟨Or.inr ⟨hvw, hww, hw, hL, fun q r1 r2 r3 => ?_⟩, fun q r1 r2 r3 => ?_⟩
    · have := hr q r2 r3; omega
    · by_cases e : w < q
      · exact Or.inl (hr2 q e r2)
      · exact Or.inr (by omega)
  · have e1 : w_upA (A 61) v w p = A 61 p := if_neg e
    unfold t_X
    rw [e1]
    exact ⟨h2, h3⟩
theorem m_cl_of {I : Nat → Int} {A : Nat → Int → Int} (h : m_TR lo I A) (h0 : 0 ≤ I 3905) : m_cl A (I 3905) := fun p h1 h2 => by
  obtain ⟨-, h3, -⟩ := h p h1 h2
  rcases h3 with h3 | ⟨-, -, h3, -⟩
  · omega
  · exact h3
theorem m_rt_last {v : Int} : m_rt lo (v + 1) v := fun q h1 h2 => by omega
end TInv
/-- the tokens -/
def m_TK (I : Nat → Int) (A : Nat → Int → Int) : Prop := (1 ≤ I 2754 ∧ I 2754 ≤ 1501) ∧ (A 45 (I 2754 - 1) = 0 ∨ A 45 (I 2754 - 1) = 7) ∧ (∀ i, 0 ≤ i → i < I 2754 - 1 → 1 ≤ A 45 i ∧ A 45 i ≤ 6) ∧ (∀ i, 0 ≤ i → i < I 2754 → A 45 i = 2 → 0 ≤ A 46 i ∧ A 46 i < 400)
theorem m_TK_lt {I : Nat → Int} {A : Nat → Int → Int} (h : m_TK I A) {i : Int} (h2 : i < I 2754) (h3 : 1 ≤ A 45 i) (h4 : A 45 i ≤ 6) : i + 1 < I 2754 := by
  obtain ⟨-, h5, -⟩ := h
  by_cases e : i = I 2754 - 1
  · subst e; omega
  · omega
theorem m_TK_fx {I I' : Nat → Int} {A A' : Nat → Int → Int} (h : m_fx I A I' A') (g : m_TK I A) : m_TK I' A' := by
  obtain ⟨⟨-, e1, -, -⟩, -, e2, e3, -⟩ := h
  unfold m_TK
  rw [e1, e2, e3]
  exact g
/-- the scope -/
def m_SC (I : Nat → Int) (A : Nat → Int → Int) : Prop := (∀ i, 0 ≤ i → i < I 4289 → 0 ≤ A 67 i ∧ A 67 i < I 4033) ∧ (∀ i, 0 ≤ i → i < I 4033 → 0 ≤ A 63 i ∧ A 63 i < 400)
/-- the numbers -/
def m_NU (I : Nat → Int) : Prop := (0 ≤ I 2774 ∧ I 2774 < I 2754 ∧ I 2754 ≤ 1501 ∧ 0 ≤ I 2775 ∧ I 2775 ≤ 24) ∧ (I 3393 = I 3905 ∧ I 3521 = I 3905 ∧ I 3649 = I 3905 ∧ I 3777 = I 3905 ∧ 0 ≤ I 3905 ∧ I 3905 ≤ 3 * I 2774) ∧ (I 4161 = I 4033 ∧ 7 ≤ I 4289 ∧ I 4289 ≤ I 4033 ∧ I 4033 ≤ 7 + I 2774) ∧ 0 ≤ I 5889 ∧ I 5889 ≤ I 2774
/-- what a piece of the parser leaves -/
def m_ST (lo : Int → Int) (I : Nat → Int) (A : Nat → Int → Int) (lo' : Int → Int) (I' : Nat → Int) (A' : Nat → Int → Int) : Prop := (∀ i, 0 ≤ i → i < I 3905 → A' 53 i = A 53 i ∧ A' 55 i = A 55 i ∧ A' 57 i = A 57 i ∧ A' 59 i = A 59 i ∧ A' 61 i = A 61 i ∧ lo' i = lo i) ∧ (∀ q, I 3905 ≤ q → q < I' 3905 → I 3905 ≤ lo' q) ∧ (∀ i, 0 ≤ i → i < I 4289 → A' 67 i = A 67 i) ∧ (∀ i, 0 ≤ i → i < I 5889 → A' 92 i = A 92 i)
theorem m_ST_refl {lo : Int → Int} {I : Nat → Int} {A : Nat → Int → Int} : m_ST lo I A lo I A := ⟨fun _ _ _ => ⟨rfl, rfl, rfl, rfl, rfl, rfl⟩, fun _ h1 h2 => absurd h2 (by omega), fun _ _ _ => rfl, fun _ _ _ => rfl⟩
theorem m_ST_trans {lo lo' lo'' : Int → Int} {I I' I'' : Nat → Int} {A A' A'' : Nat → Int → Int} (h : m_ST lo I A lo' I' A') (g : m_ST lo' I' A' lo'' I'' A'') (hz : 0 ≤ I 3905) (hn : I 3905 ≤ I' 3905) (hs : I 4289 ≤ I' 4289) (hc : I 5889 ≤ I' 5889) : m_ST lo I A lo'' I'' A'' := by
  obtain ⟨a1, a2, a3, a4⟩ := h
  obtain ⟨b1, b2, b3, b4⟩ := g
  refine ⟨fun i h0 h1 => ?_, fun q h0 h1 => ?_, fun i h0 h1 => ?_, fun i h0 h1 => (b4 i h0 (by omega)).trans (a4 i h0 h1)⟩
  · obtain ⟨c1, c2, c3, c4, c5, c6⟩ := a1 i h0 h1
    obtain ⟨d1, d2, d3, d4, d5, d6⟩ := b1 i h0 (by omega)
    exact ⟨d1.trans c1, d2.trans c2, d3.trans c3, d4.trans c4, d5.trans c5, d6.trans c6⟩
  · by_cases e : q < I' 3905
    · obtain ⟨-, -, -, -, -, d6⟩ := b1 q (by omega) e
      rw [d6]
      exact a2 q h0 e
    · have := b2 q (by omega) h1
      omega
  · rw [b3 i h0 (by omega)]
    exact a3 i h0 h1
