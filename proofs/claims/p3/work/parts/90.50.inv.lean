/-! INV: the tree of the reference, what its parser keeps. -/
section TInv
def t_E (k : Int) : Prop := (1 ≤ k ∧ k ≤ 5) ∨ (7 ≤ k ∧ k ≤ 16) ∨ k = 18
def t_B (k : Int) : Prop := k = 25 ∨ k = 19
def t_I (k : Int) : Prop := (20 ≤ k ∧ k ≤ 24) ∨ k = 11 ∨ (14 ≤ k ∧ k ≤ 16) ∨ k = 18
def t_L (k k' : Int) : Prop := (k = k' ∧ (k = 6 ∨ k = 17 ∨ k = 27 ∨ k = 28 ∨ k = 29)) ∨ (t_I k ∧ t_I k')
/-- c is a child of p, whose nodes begin at l -/
def t_c (tk : Int → Int) (lo : Int → Int × Int) (l p c : Int) (K : Int → Prop) : Prop := l ≤ (lo c).1 ∧ 0 ≤ (lo c).1 ∧ (lo c).1 ≤ c ∧ c < p ∧ K (tk c)
def t_k3 (tk : Int → Int) (lo : Int → Int × Int) (nb l r p a b c : Int) : Prop := (0 ≤ a ∧ a < nb)
def t_k28 (tk : Int → Int) (lo : Int → Int × Int) (nb l r p a b c : Int) : Prop := (0 ≤ a ∧ a < nb)
def t_k5 (tk : Int → Int) (lo : Int → Int × Int) (nb l r p a b c : Int) : Prop := (t_c tk lo l p b (fun k => k = 6))
def t_k6 (tk : Int → Int) (lo : Int → Int × Int) (nb l r p a b c : Int) : Prop := (t_c tk lo l p b t_E)
def t_k7 (tk : Int → Int) (lo : Int → Int × Int) (nb l r p a b c : Int) : Prop := (t_c tk lo l p a t_E) ∧ (t_c tk lo l p b t_E) ∧ (a < (lo b).1) ∧ ((lo a).2 < r) ∧ (tk b = 7 ∨ (lo b).2 < r)
def t_k8 (tk : Int → Int) (lo : Int → Int × Int) (nb l r p a b c : Int) : Prop := (a = -1 ∨ t_c tk lo l p a (fun k => k = 29))
def t_k9 (tk : Int → Int) (lo : Int → Int × Int) (nb l r p a b c : Int) : Prop := (t_c tk lo l p b t_E) ∧ (t_c tk lo l p c t_E) ∧ (b < (lo c).1) ∧ ((tk b = 9 ∨ tk b = 10) ∨ (lo b).2 < r) ∧ ((lo c).2 < r)
def t_k10 (tk : Int → Int) (lo : Int → Int × Int) (nb l r p a b c : Int) : Prop := (t_c tk lo l p a t_E) ∧ ((tk a = 9 ∨ tk a = 10) ∨ (lo a).2 < r)
def t_k11 (tk : Int → Int) (lo : Int → Int × Int) (nb l r p a b c : Int) : Prop := (t_c tk lo l p a (fun k => k = 29))
def t_k12 (tk : Int → Int) (lo : Int → Int × Int) (nb l r p a b c : Int) : Prop := (a = -1 ∨ t_c tk lo l p a (fun k => k = 28)) ∧ (t_c tk lo l p b (fun k => k = 25)) ∧ (a = -1 ∨ a < (lo b).1) ∧ (b = p - 1)
def t_k13 (tk : Int → Int) (lo : Int → Int × Int) (nb l r p a b c : Int) : Prop := (a = -1 ∨ t_c tk lo l p a (fun k => k = 28)) ∧ (t_c tk lo l p b (fun k => k = 19)) ∧ (a = -1 ∨ a < (lo b).1) ∧ (b = p - 1)
def t_k14 (tk : Int → Int) (lo : Int → Int × Int) (nb l r p a b c : Int) : Prop := (a = -1 ∨ t_c tk lo l p a (fun k => k = 28)) ∧ (t_c tk lo l p b t_B) ∧ (a = -1 ∨ a < (lo b).1) ∧ (b = p - 1)
def t_k15 (tk : Int → Int) (lo : Int → Int × Int) (nb l r p a b c : Int) : Prop := (t_c tk lo l p a t_E) ∧ (t_c tk lo l p b t_B) ∧ (c = -1 ∨ t_c tk lo l p c t_B) ∧ (a < (lo b).1) ∧ (c = -1 ∨ b < (lo c).1)
def t_k16 (tk : Int → Int) (lo : Int → Int × Int) (nb l r p a b c : Int) : Prop := (t_c tk lo l p a t_E) ∧ (t_c tk lo l p b (fun k => k = 17)) ∧ (a < (lo b).1)
def t_k17 (tk : Int → Int) (lo : Int → Int × Int) (nb l r p a b c : Int) : Prop := (a = -1 ∨ t_c tk lo l p a (fun k => k = 26)) ∧ (t_c tk lo l p b t_B) ∧ (a = -1 ∨ a < (lo b).1)
def t_k18 (tk : Int → Int) (lo : Int → Int × Int) (nb l r p a b c : Int) : Prop := (t_c tk lo l p a t_B)
def t_k19 (tk : Int → Int) (lo : Int → Int × Int) (nb l r p a b c : Int) : Prop := (a = -1 ∨ t_c tk lo l p a (fun k => k = 25)) ∧ (t_c tk lo l p b t_E) ∧ (a = -1 ∨ a < (lo b).1)
def t_k21 (tk : Int → Int) (lo : Int → Int × Int) (nb l r p a b c : Int) : Prop := (t_c tk lo l p a (fun k => k = 25)) ∧ (t_c tk lo l p b (fun k => k = 28)) ∧ (t_c tk lo l p c (fun k => k = 25)) ∧ (a < (lo b).1) ∧ (b < (lo c).1)
def t_k22 (tk : Int → Int) (lo : Int → Int × Int) (nb l r p a b c : Int) : Prop := (t_c tk lo l p a t_E)
def t_k23 (tk : Int → Int) (lo : Int → Int × Int) (nb l r p a b c : Int) : Prop := (t_c tk lo l p a t_E)
def t_k24 (tk : Int → Int) (lo : Int → Int × Int) (nb l r p a b c : Int) : Prop := (t_c tk lo l p a t_E) ∧ (t_c tk lo l p b t_E) ∧ (a < (lo b).1)
def t_k25 (tk : Int → Int) (lo : Int → Int × Int) (nb l r p a b c : Int) : Prop := (t_c tk lo l p a t_I)
def t_k26 (tk : Int → Int) (lo : Int → Int × Int) (nb l r p a b c : Int) : Prop := (c = -1 ∨ t_c tk lo l p c (fun k => k = 27))
def t_k27 (tk : Int → Int) (lo : Int → Int × Int) (nb l r p a b c : Int) : Prop := (b = -1 ∨ t_c tk lo l p b (fun k => k = 28))
def t_k29 (tk : Int → Int) (lo : Int → Int × Int) (nb l r p a b c : Int) : Prop := (t_c tk lo l p a t_E)
def t_N (tk : Int → Int) (lo : Int → Int × Int) (nb p k a b c : Int) : Prop := ((0 ≤ (lo p).1 ∧ (lo p).1 ≤ p ∧ 1 ≤ k ∧ k ≤ 29) ∧ 0 ≤ (lo p).2 ∧ (∀ q, (lo p).1 ≤ q → q < p → (lo q).2 ≤ (lo p).2) ∧ (k ≠ 7 → k ≠ 9 → k ≠ 10 → k ≠ 17 → ∀ q, (lo p).1 ≤ q → q < p → (lo q).2 < (lo p).2)) ∧ (k = 3 → t_k3 tk lo nb (lo p).1 (lo p).2 p a b c) ∧ (k = 28 → t_k28 tk lo nb (lo p).1 (lo p).2 p a b c) ∧ (k = 5 → t_k5 tk lo nb (lo p).1 (lo p).2 p a b c) ∧ (k = 6 → t_k6 tk lo nb (lo p).1 (lo p).2 p a b c) ∧ (k = 7 → t_k7 tk lo nb (lo p).1 (lo p).2 p a b c) ∧ (k = 8 → t_k8 tk lo nb (lo p).1 (lo p).2 p a b c) ∧ (k = 9 → t_k9 tk lo nb (lo p).1 (lo p).2 p a b c) ∧ (k = 10 → t_k10 tk lo nb (lo p).1 (lo p).2 p a b c) ∧ (k = 11 → t_k11 tk lo nb (lo p).1 (lo p).2 p a b c) ∧ (k = 12 → t_k12 tk lo nb (lo p).1 (lo p).2 p a b c) ∧ (k = 13 → t_k13 tk lo nb (lo p).1 (lo p).2 p a b c) ∧ (k = 14 → t_k14 tk lo nb (lo p).1 (lo p).2 p a b c) ∧ (k = 15 → t_k15 tk lo nb (lo p).1 (lo p).2 p a b c) ∧ (k = 16 → t_k16 tk lo nb (lo p).1 (lo p).2 p a b c) ∧ (k = 17 → t_k17 tk lo nb (lo p).1 (lo p).2 p a b c) ∧ (k = 18 → t_k18 tk lo nb (lo p).1 (lo p).2 p a b c) ∧ (k = 19 → t_k19 tk lo nb (lo p).1 (lo p).2 p a b c) ∧ (k = 21 → t_k21 tk lo nb (lo p).1 (lo p).2 p a b c) ∧ (k = 22 → t_k22 tk lo nb (lo p).1 (lo p).2 p a b c) ∧ (k = 23 → t_k23 tk lo nb (lo p).1 (lo p).2 p a b c) ∧ (k = 24 → t_k24 tk lo nb (lo p).1 (lo p).2 p a b c) ∧ (k = 25 → t_k25 tk lo nb (lo p).1 (lo p).2 p a b c) ∧ (k = 26 → t_k26 tk lo nb (lo p).1 (lo p).2 p a b c) ∧ (k = 27 → t_k27 tk lo nb (lo p).1 (lo p).2 p a b c) ∧ (k = 29 → t_k29 tk lo nb (lo p).1 (lo p).2 p a b c)
def t_X (tk nx : Int → Int) (lo : Int → Int × Int) (n p : Int) : Prop := (nx p = -1 ∨ (p < (lo (nx p)).1 ∧ (lo (nx p)).1 ≤ nx p ∧ nx p < n ∧ t_L (tk p) (tk (nx p)) ∧ ∀ q, (lo q).1 ≤ p → p < q → q < n → nx p < q)) ∧ ∀ q, 0 ≤ q → q < n → p < (lo q).1 → nx p < (lo q).1 ∨ q ≤ nx p
def m_TR (lo : Int → Int × Int) (I : Nat → Int) (A : Nat → Int → Int) : Prop := ∀ p, 0 ≤ p → p < I 3905 → t_N (A 53) lo (I 4033) p (A 53 p) (A 55 p) (A 57 p) (A 59 p) ∧ t_X (A 53) (A 61) lo (I 3905) p
variable {tk tk' : Int → Int} {lo lo' : Int → Int × Int} {n nb nb' : Int}
theorem t_c_cong (h1 : ∀ i, 0 ≤ i → i < n → tk' i = tk i) (h2 : ∀ i, 0 ≤ i → i < n → lo' i = lo i) {l p c : Int} {K : Int → Prop} (hp : p ≤ n) (h : t_c tk lo l p c K) : t_c tk' lo' l p c K := by
  obtain ⟨g1, g2, g3, g4, g5⟩ := h
  have e1 := h1 c (by omega) (by omega)
  have e2 := h2 c (by omega) (by omega)
  unfold t_c
  rw [e1, e2]
  exact ⟨g1, g2, g3, g4, g5⟩
theorem t_k3_cong (h1 : ∀ i, 0 ≤ i → i < n → tk' i = tk i) (h2 : ∀ i, 0 ≤ i → i < n → lo' i = lo i) (h3 : nb ≤ nb') {l r p a b c : Int} (hp : p ≤ n) (h : t_k3 tk lo nb l r p a b c) : t_k3 tk' lo' nb' l r p a b c := by
  have g0 := h
  exact ⟨g0.1, by have := g0.2; omega⟩
theorem t_k28_cong (h1 : ∀ i, 0 ≤ i → i < n → tk' i = tk i) (h2 : ∀ i, 0 ≤ i → i < n → lo' i = lo i) (h3 : nb ≤ nb') {l r p a b c : Int} (hp : p ≤ n) (h : t_k28 tk lo nb l r p a b c) : t_k28 tk' lo' nb' l r p a b c := by
  have g0 := h
  exact ⟨g0.1, by have := g0.2; omega⟩
theorem t_k5_cong (h1 : ∀ i, 0 ≤ i → i < n → tk' i = tk i) (h2 : ∀ i, 0 ≤ i → i < n → lo' i = lo i) (h3 : nb ≤ nb') {l r p a b c : Int} (hp : p ≤ n) (h : t_k5 tk lo nb l r p a b c) : t_k5 tk' lo' nb' l r p a b c := by
  have g0 := h
  exact t_c_cong h1 h2 hp g0
theorem t_k6_cong (h1 : ∀ i, 0 ≤ i → i < n → tk' i = tk i) (h2 : ∀ i, 0 ≤ i → i < n → lo' i = lo i) (h3 : nb ≤ nb') {l r p a b c : Int} (hp : p ≤ n) (h : t_k6 tk lo nb l r p a b c) : t_k6 tk' lo' nb' l r p a b c := by
  have g0 := h
  exact t_c_cong h1 h2 hp g0
theorem t_k7_cong (h1 : ∀ i, 0 ≤ i → i < n → tk' i = tk i) (h2 : ∀ i, 0 ≤ i → i < n → lo' i = lo i) (h3 : nb ≤ nb') {l r p a b c : Int} (hp : p ≤ n) (h : t_k7 tk lo nb l r p a b c) : t_k7 tk' lo' nb' l r p a b c := by
  obtain ⟨g0, g1, g2, g3, g4⟩ := h
  have eg2 := h2 b (by have := g1.2.1; have := g1.2.2.1; omega) (by have := g1.2.2.2.1; omega)
  rw [← eg2] at g2
  have eg3 := h2 a (by have := g0.2.1; have := g0.2.2.1; omega) (by have := g0.2.2.2.1; omega)
  have fg3 := h1 a (by have := g0.2.1; have := g0.2.2.1; omega) (by have := g0.2.2.2.1; omega)
  rw [← eg3] at g3
  have eg4 := h2 b (by have := g1.2.1; have := g1.2.2.1; omega) (by have := g1.2.2.2.1; omega)
  have fg4 := h1 b (by have := g1.2.1; have := g1.2.2.1; omega) (by have := g1.2.2.2.1; omega)
  rw [← eg4, ← fg4] at g4
  exact ⟨t_c_cong h1 h2 hp g0, t_c_cong h1 h2 hp g1, g2, g3, g4⟩
theorem t_k8_cong (h1 : ∀ i, 0 ≤ i → i < n → tk' i = tk i) (h2 : ∀ i, 0 ≤ i → i < n → lo' i = lo i) (h3 : nb ≤ nb') {l r p a b c : Int} (hp : p ≤ n) (h : t_k8 tk lo nb l r p a b c) : t_k8 tk' lo' nb' l r p a b c := by
  have g0 := h
  exact g0.imp_right (t_c_cong h1 h2 hp)
theorem t_k9_cong (h1 : ∀ i, 0 ≤ i → i < n → tk' i = tk i) (h2 : ∀ i, 0 ≤ i → i < n → lo' i = lo i) (h3 : nb ≤ nb') {l r p a b c : Int} (hp : p ≤ n) (h : t_k9 tk lo nb l r p a b c) : t_k9 tk' lo' nb' l r p a b c := by
  obtain ⟨g0, g1, g2, g3, g4⟩ := h
  have eg2 := h2 c (by have := g1.2.1; have := g1.2.2.1; omega) (by have := g1.2.2.2.1; omega)
  rw [← eg2] at g2
  have eg3 := h2 b (by have := g0.2.1; have := g0.2.2.1; omega) (by have := g0.2.2.2.1; omega)
  have fg3 := h1 b (by have := g0.2.1; have := g0.2.2.1; omega) (by have := g0.2.2.2.1; omega)
  rw [← eg3, ← fg3] at g3
  have eg4 := h2 c (by have := g1.2.1; have := g1.2.2.1; omega) (by have := g1.2.2.2.1; omega)
  have fg4 := h1 c (by have := g1.2.1; have := g1.2.2.1; omega) (by have := g1.2.2.2.1; omega)
  rw [← eg4] at g4
  exact ⟨t_c_cong h1 h2 hp g0, t_c_cong h1 h2 hp g1, g2, g3, g4⟩
theorem t_k10_cong (h1 : ∀ i, 0 ≤ i → i < n → tk' i = tk i) (h2 : ∀ i, 0 ≤ i → i < n → lo' i = lo i) (h3 : nb ≤ nb') {l r p a b c : Int} (hp : p ≤ n) (h : t_k10 tk lo nb l r p a b c) : t_k10 tk' lo' nb' l r p a b c := by
  obtain ⟨g0, g1⟩ := h
  have eg1 := h2 a (by have := g0.2.1; have := g0.2.2.1; omega) (by have := g0.2.2.2.1; omega)
  have fg1 := h1 a (by have := g0.2.1; have := g0.2.2.1; omega) (by have := g0.2.2.2.1; omega)
  rw [← eg1, ← fg1] at g1
  exact ⟨t_c_cong h1 h2 hp g0, g1⟩
theorem t_k11_cong (h1 : ∀ i, 0 ≤ i → i < n → tk' i = tk i) (h2 : ∀ i, 0 ≤ i → i < n → lo' i = lo i) (h3 : nb ≤ nb') {l r p a b c : Int} (hp : p ≤ n) (h : t_k11 tk lo nb l r p a b c) : t_k11 tk' lo' nb' l r p a b c := by
  have g0 := h
  exact t_c_cong h1 h2 hp g0
theorem t_k12_cong (h1 : ∀ i, 0 ≤ i → i < n → tk' i = tk i) (h2 : ∀ i, 0 ≤ i → i < n → lo' i = lo i) (h3 : nb ≤ nb') {l r p a b c : Int} (hp : p ≤ n) (h : t_k12 tk lo nb l r p a b c) : t_k12 tk' lo' nb' l r p a b c := by
  obtain ⟨g0, g1, g2, g3⟩ := h
  have eg2 := h2 b (by have := g1.2.1; have := g1.2.2.1; omega) (by have := g1.2.2.2.1; omega)
  rw [← eg2] at g2
  exact ⟨g0.imp_right (t_c_cong h1 h2 hp), t_c_cong h1 h2 hp g1, g2, g3⟩
theorem t_k13_cong (h1 : ∀ i, 0 ≤ i → i < n → tk' i = tk i) (h2 : ∀ i, 0 ≤ i → i < n → lo' i = lo i) (h3 : nb ≤ nb') {l r p a b c : Int} (hp : p ≤ n) (h : t_k13 tk lo nb l r p a b c) : t_k13 tk' lo' nb' l r p a b c := by
  obtain ⟨g0, g1, g2, g3⟩ := h
  have eg2 := h2 b (by have := g1.2.1; have := g1.2.2.1; omega) (by have := g1.2.2.2.1; omega)
  rw [← eg2] at g2
  exact ⟨g0.imp_right (t_c_cong h1 h2 hp), t_c_cong h1 h2 hp g1, g2, g3⟩
theorem t_k14_cong (h1 : ∀ i, 0 ≤ i → i < n → tk' i = tk i) (h2 : ∀ i, 0 ≤ i → i < n → lo' i = lo i) (h3 : nb ≤ nb') {l r p a b c : Int} (hp : p ≤ n) (h : t_k14 tk lo nb l r p a b c) : t_k14 tk' lo' nb' l r p a b c := by
  obtain ⟨g0, g1, g2, g3⟩ := h
  have eg2 := h2 b (by have := g1.2.1; have := g1.2.2.1; omega) (by have := g1.2.2.2.1; omega)
  rw [← eg2] at g2
  exact ⟨g0.imp_right (t_c_cong h1 h2 hp), t_c_cong h1 h2 hp g1, g2, g3⟩
theorem t_k15_cong (h1 : ∀ i, 0 ≤ i → i < n → tk' i = tk i) (h2 : ∀ i, 0 ≤ i → i < n → lo' i = lo i) (h3 : nb ≤ nb') {l r p a b c : Int} (hp : p ≤ n) (h : t_k15 tk lo nb l r p a b c) : t_k15 tk' lo' nb' l r p a b c := by
  obtain ⟨g0, g1, g2, g3, g4⟩ := h
  have eg3 := h2 b (by have := g1.2.1; have := g1.2.2.1; omega) (by have := g1.2.2.2.1; omega)
  rw [← eg3] at g3
  have g4 : c = -1 ∨ b < (lo' c).1 := by
    rcases g4 with e | e
    · exact Or.inl e
    · rcases g2 with e2 | e2
      · exact Or.inl e2
      · exact Or.inr (by rw [h2 c (by have := e2.2.1; have := e2.2.2.1; omega) (by have := e2.2.2.2.1; omega)]; exact e)
  exact ⟨t_c_cong h1 h2 hp g0, t_c_cong h1 h2 hp g1, g2.imp_right (t_c_cong h1 h2 hp), g3, g4⟩
theorem t_k16_cong (h1 : ∀ i, 0 ≤ i → i < n → tk' i = tk i) (h2 : ∀ i, 0 ≤ i → i < n → lo' i = lo i) (h3 : nb ≤ nb') {l r p a b c : Int} (hp : p ≤ n) (h : t_k16 tk lo nb l r p a b c) : t_k16 tk' lo' nb' l r p a b c := by
  obtain ⟨g0, g1, g2⟩ := h
  have eg2 := h2 b (by have := g1.2.1; have := g1.2.2.1; omega) (by have := g1.2.2.2.1; omega)
  rw [← eg2] at g2
  exact ⟨t_c_cong h1 h2 hp g0, t_c_cong h1 h2 hp g1, g2⟩
theorem t_k17_cong (h1 : ∀ i, 0 ≤ i → i < n → tk' i = tk i) (h2 : ∀ i, 0 ≤ i → i < n → lo' i = lo i) (h3 : nb ≤ nb') {l r p a b c : Int} (hp : p ≤ n) (h : t_k17 tk lo nb l r p a b c) : t_k17 tk' lo' nb' l r p a b c := by
  obtain ⟨g0, g1, g2⟩ := h
  have eg2 := h2 b (by have := g1.2.1; have := g1.2.2.1; omega) (by have := g1.2.2.2.1; omega)
  rw [← eg2] at g2
  exact ⟨g0.imp_right (t_c_cong h1 h2 hp), t_c_cong h1 h2 hp g1, g2⟩
theorem t_k18_cong (h1 : ∀ i, 0 ≤ i → i < n → tk' i = tk i) (h2 : ∀ i, 0 ≤ i → i < n → lo' i = lo i) (h3 : nb ≤ nb') {l r p a b c : Int} (hp : p ≤ n) (h : t_k18 tk lo nb l r p a b c) : t_k18 tk' lo' nb' l r p a b c := by
  have g0 := h
  exact t_c_cong h1 h2 hp g0
theorem t_k19_cong (h1 : ∀ i, 0 ≤ i → i < n → tk' i = tk i) (h2 : ∀ i, 0 ≤ i → i < n → lo' i = lo i) (h3 : nb ≤ nb') {l r p a b c : Int} (hp : p ≤ n) (h : t_k19 tk lo nb l r p a b c) : t_k19 tk' lo' nb' l r p a b c := by
  obtain ⟨g0, g1, g2⟩ := h
  have eg2 := h2 b (by have := g1.2.1; have := g1.2.2.1; omega) (by have := g1.2.2.2.1; omega)
  rw [← eg2] at g2
  exact ⟨g0.imp_right (t_c_cong h1 h2 hp), t_c_cong h1 h2 hp g1, g2⟩
theorem t_k21_cong (h1 : ∀ i, 0 ≤ i → i < n → tk' i = tk i) (h2 : ∀ i, 0 ≤ i → i < n → lo' i = lo i) (h3 : nb ≤ nb') {l r p a b c : Int} (hp : p ≤ n) (h : t_k21 tk lo nb l r p a b c) : t_k21 tk' lo' nb' l r p a b c := by
  obtain ⟨g0, g1, g2, g3, g4⟩ := h
  have eg3 := h2 b (by have := g1.2.1; have := g1.2.2.1; omega) (by have := g1.2.2.2.1; omega)
  rw [← eg3] at g3
  have eg4 := h2 c (by have := g2.2.1; have := g2.2.2.1; omega) (by have := g2.2.2.2.1; omega)
  rw [← eg4] at g4
  exact ⟨t_c_cong h1 h2 hp g0, t_c_cong h1 h2 hp g1, t_c_cong h1 h2 hp g2, g3, g4⟩
theorem t_k22_cong (h1 : ∀ i, 0 ≤ i → i < n → tk' i = tk i) (h2 : ∀ i, 0 ≤ i → i < n → lo' i = lo i) (h3 : nb ≤ nb') {l r p a b c : Int} (hp : p ≤ n) (h : t_k22 tk lo nb l r p a b c) : t_k22 tk' lo' nb' l r p a b c := by
  have g0 := h
  exact t_c_cong h1 h2 hp g0
theorem t_k23_cong (h1 : ∀ i, 0 ≤ i → i < n → tk' i = tk i) (h2 : ∀ i, 0 ≤ i → i < n → lo' i = lo i) (h3 : nb ≤ nb') {l r p a b c : Int} (hp : p ≤ n) (h : t_k23 tk lo nb l r p a b c) : t_k23 tk' lo' nb' l r p a b c := by
  have g0 := h
  exact t_c_cong h1 h2 hp g0
theorem t_k24_cong (h1 : ∀ i, 0 ≤ i → i < n → tk' i = tk i) (h2 : ∀ i, 0 ≤ i → i < n → lo' i = lo i) (h3 : nb ≤ nb') {l r p a b c : Int} (hp : p ≤ n) (h : t_k24 tk lo nb l r p a b c) : t_k24 tk' lo' nb' l r p a b c := by
  obtain ⟨g0, g1, g2⟩ := h
  have eg2 := h2 b (by have := g1.2.1; have := g1.2.2.1; omega) (by have := g1.2.2.2.1; omega)
  rw [← eg2] at g2
  exact ⟨t_c_cong h1 h2 hp g0, t_c_cong h1 h2 hp g1, g2⟩
theorem t_k25_cong (h1 : ∀ i, 0 ≤ i → i < n → tk' i = tk i) (h2 : ∀ i, 0 ≤ i → i < n → lo' i = lo i) (h3 : nb ≤ nb') {l r p a b c : Int} (hp : p ≤ n) (h : t_k25 tk lo nb l r p a b c) : t_k25 tk' lo' nb' l r p a b c := by
  have g0 := h
  exact t_c_cong h1 h2 hp g0
theorem t_k26_cong (h1 : ∀ i, 0 ≤ i → i < n → tk' i = tk i) (h2 : ∀ i, 0 ≤ i → i < n → lo' i = lo i) (h3 : nb ≤ nb') {l r p a b c : Int} (hp : p ≤ n) (h : t_k26 tk lo nb l r p a b c) : t_k26 tk' lo' nb' l r p a b c := by
  have g0 := h
  exact g0.imp_right (t_c_cong h1 h2 hp)
theorem t_k27_cong (h1 : ∀ i, 0 ≤ i → i < n → tk' i = tk i) (h2 : ∀ i, 0 ≤ i → i < n → lo' i = lo i) (h3 : nb ≤ nb') {l r p a b c : Int} (hp : p ≤ n) (h : t_k27 tk lo nb l r p a b c) : t_k27 tk' lo' nb' l r p a b c := by
  have g0 := h
  exact g0.imp_right (t_c_cong h1 h2 hp)
theorem t_k29_cong (h1 : ∀ i, 0 ≤ i → i < n → tk' i = tk i) (h2 : ∀ i, 0 ≤ i → i < n → lo' i = lo i) (h3 : nb ≤ nb') {l r p a b c : Int} (hp : p ≤ n) (h : t_k29 tk lo nb l r p a b c) : t_k29 tk' lo' nb' l r p a b c := by
  have g0 := h
  exact t_c_cong h1 h2 hp g0
theorem t_N_cong (h1 : ∀ i, 0 ≤ i → i < n → tk' i = tk i) (h2 : ∀ i, 0 ≤ i → i < n → lo' i = lo i) (h3 : nb ≤ nb') {p k a b c : Int} (h0 : 0 ≤ p) (hp : p < n) (h : t_N tk lo nb p k a b c) : t_N tk' lo' nb' p k a b c := by
  have e := h2 p h0 hp
  obtain ⟨⟨g, gr, gw, gs⟩, g3, g28, g5, g6, g7, g8, g9, g10, g11, g12, g13, g14, g15, g16, g17, g18, g19, g21, g22, g23, g24, g25, g26, g27, g29⟩ := h
  unfold t_N
  rw [e]
  exact ⟨⟨g, gr, fun q r1 r2 => by rw [h2 q (by omega) (by omega)]; exact gw q r1 r2, fun s1 s2 s3 s4 q r1 r2 => by rw [h2 q (by omega) (by omega)]; exact gs s1 s2 s3 s4 q r1 r2⟩, fun q => t_k3_cong h1 h2 h3 (by omega) (g3 q), fun q => t_k28_cong h1 h2 h3 (by omega) (g28 q), fun q => t_k5_cong h1 h2 h3 (by omega) (g5 q), fun q => t_k6_cong h1 h2 h3 (by omega) (g6 q), fun q => t_k7_cong h1 h2 h3 (by omega) (g7 q), fun q => t_k8_cong h1 h2 h3 (by omega) (g8 q), fun q => t_k9_cong h1 h2 h3 (by omega) (g9 q), fun q => t_k10_cong h1 h2 h3 (by omega) (g10 q), fun q => t_k11_cong h1 h2 h3 (by omega) (g11 q), fun q => t_k12_cong h1 h2 h3 (by omega) (g12 q), fun q => t_k13_cong h1 h2 h3 (by omega) (g13 q), fun q => t_k14_cong h1 h2 h3 (by omega) (g14 q), fun q => t_k15_cong h1 h2 h3 (by omega) (g15 q), fun q => t_k16_cong h1 h2 h3 (by omega) (g16 q), fun q => t_k17_cong h1 h2 h3 (by omega) (g17 q), fun q => t_k18_cong h1 h2 h3 (by omega) (g18 q), fun q => t_k19_cong h1 h2 h3 (by omega) (g19 q), fun q => t_k21_cong h1 h2 h3 (by omega) (g21 q), fun q => t_k22_cong h1 h2 h3 (by omega) (g22 q), fun q => t_k23_cong h1 h2 h3 (by omega) (g23 q), fun q => t_k24_cong h1 h2 h3 (by omega) (g24 q), fun q => t_k25_cong h1 h2 h3 (by omega) (g25 q), fun q => t_k26_cong h1 h2 h3 (by omega) (g26 q), fun q => t_k27_cong h1 h2 h3 (by omega) (g27 q), fun q => t_k29_cong h1 h2 h3 (by omega) (g29 q)⟩
theorem t_N_mk3 {l r p a b c : Int} (hl : lo p = (l, r)) (h0 : 0 ≤ l) (h1 : l ≤ p) (hr : 0 ≤ r) (hw : ∀ q, l ≤ q → q < p → (lo q).2 < r) (h : t_k3 tk lo nb l r p a b c) : t_N tk lo nb p 3 a b c := by
  unfold t_N
  rw [hl]
  exact ⟨⟨⟨h0, h1, by decide, by decide⟩, hr, fun q r1 r2 => Int.le_of_lt (hw q r1 r2), fun _ _ _ _ => hw⟩, fun _ => h, fun q => absurd q (by decide), fun q => absurd q (by decide), fun q => absurd q (by decide), fun q => absurd q (by decide), fun q => absurd q (by decide), fun q => absurd q (by decide), fun q => absurd q (by decide), fun q => absurd q (by decide), fun q => absurd q (by decide), fun q => absurd q (by decide), fun q => absurd q (by decide), fun q => absurd q (by decide), fun q => absurd q (by decide), fun q => absurd q (by decide), fun q => absurd q (by decide), fun q => absurd q (by decide), fun q => absurd q (by decide), fun q => absurd q (by decide), fun q => absurd q (by decide), fun q => absurd q (by decide), fun q => absurd q (by decide), fun q => absurd q (by decide), fun q => absurd q (by decide), fun q => absurd q (by decide)⟩
theorem t_N_mk28 {l r p a b c : Int} (hl : lo p = (l, r)) (h0 : 0 ≤ l) (h1 : l ≤ p) (hr : 0 ≤ r) (hw : ∀ q, l ≤ q → q < p → (lo q).2 < r) (h : t_k28 tk lo nb l r p a b c) : t_N tk lo nb p 28 a b c := by
  unfold t_N
  rw [hl]
  exact ⟨⟨⟨h0, h1, by decide, by decide⟩, hr, fun q r1 r2 => Int.le_of_lt (hw q r1 r2), fun _ _ _ _ => hw⟩, fun q => absurd q (by decide), fun _ => h, fun q => absurd q (by decide), fun q => absurd q (by decide), fun q => absurd q (by decide), fun q => absurd q (by decide), fun q => absurd q (by decide), fun q => absurd q (by decide), fun q => absurd q (by decide), fun q => absurd q (by decide), fun q => absurd q (by decide), fun q => absurd q (by decide), fun q => absurd q (by decide), fun q => absurd q (by decide), fun q => absurd q (by decide), fun q => absurd q (by decide), fun q => absurd q (by decide), fun q => absurd q (by decide), fun q => absurd q (by decide), fun q => absurd q (by decide), fun q => absurd q (by decide), fun q => absurd q (by decide), fun q => absurd q (by decide), fun q => absurd q (by decide), fun q => absurd q (by decide)⟩
theorem t_N_mk5 {l r p a b c : Int} (hl : lo p = (l, r)) (h0 : 0 ≤ l) (h1 : l ≤ p) (hr : 0 ≤ r) (hw : ∀ q, l ≤ q → q < p → (lo q).2 < r) (h : t_k5 tk lo nb l r p a b c) : t_N tk lo nb p 5 a b c := by
  unfold t_N
  rw [hl]
  exact ⟨⟨⟨h0, h1, by decide, by decide⟩, hr, fun q r1 r2 => Int.le_of_lt (hw q r1 r2), fun _ _ _ _ => hw⟩, fun q => absurd q (by decide), fun q => absurd q (by decide), fun _ => h, fun q => absurd q (by decide), fun q => absurd q (by decide), fun q => absurd q (by decide), fun q => absurd q (by decide), fun q => absurd q (by decide), fun q => absurd q (by decide), fun q => absurd q (by decide), fun q => absurd q (by decide), fun q => absurd q (by decide), fun q => absurd q (by decide), fun q => absurd q (by decide), fun q => absurd q (by decide), fun q => absurd q (by decide), fun q => absurd q (by decide), fun q => absurd q (by decide), fun q => absurd q (by decide), fun q => absurd q (by decide), fun q => absurd q (by decide), fun q => absurd q (by decide), fun q => absurd q (by decide), fun q => absurd q (by decide), fun q => absurd q (by decide)⟩
theorem t_N_mk6 {l r p a b c : Int} (hl : lo p = (l, r)) (h0 : 0 ≤ l) (h1 : l ≤ p) (hr : 0 ≤ r) (hw : ∀ q, l ≤ q → q < p → (lo q).2 < r) (h : t_k6 tk lo nb l r p a b c) : t_N tk lo nb p 6 a b c := by
  unfold t_N
  rw [hl]
  exact ⟨⟨⟨h0, h1, by decide, by decide⟩, hr, fun q r1 r2 => Int.le_of_lt (hw q r1 r2), fun _ _ _ _ => hw⟩, fun q => absurd q (by decide), fun q => absurd q (by decide), fun q => absurd q (by decide), fun _ => h, fun q => absurd q (by decide), fun q => absurd q (by decide), fun q => absurd q (by decide), fun q => absurd q (by decide), fun q => absurd q (by decide), fun q => absurd q (by decide), fun q => absurd q (by decide), fun q => absurd q (by decide), fun q => absurd q (by decide), fun q => absurd q (by decide), fun q => absurd q (by decide), fun q => absurd q (by decide), fun q => absurd q (by decide), fun q => absurd q (by decide), fun q => absurd q (by decide), fun q => absurd q (by decide), fun q => absurd q (by decide), fun q => absurd q (by decide), fun q => absurd q (by decide), fun q => absurd q (by decide), fun q => absurd q (by decide)⟩
theorem t_N_mk7 {l r p a b c : Int} (hl : lo p = (l, r)) (h0 : 0 ≤ l) (h1 : l ≤ p) (hr : 0 ≤ r) (hw : ∀ q, l ≤ q → q < p → (lo q).2 ≤ r) (h : t_k7 tk lo nb l r p a b c) : t_N tk lo nb p 7 a b c := by
  unfold t_N
  rw [hl]
  exact ⟨⟨⟨h0, h1, by decide, by decide⟩, hr, hw, fun q1 q2 q3 q4 => absurd rfl q1⟩, fun q => absurd q (by decide), fun q => absurd q (by decide), fun q => absurd q (by decide), fun q => absurd q (by decide), fun _ => h, fun q => absurd q (by decide), fun q => absurd q (by decide), fun q => absurd q (by decide), fun q => absurd q (by decide), fun q => absurd q (by decide), fun q => absurd q (by decide), fun q => absurd q (by decide), fun q => absurd q (by decide), fun q => absurd q (by decide), fun q => absurd q (by decide), fun q => absurd q (by decide), fun q => absurd q (by decide), fun q => absurd q (by decide), fun q => absurd q (by decide), fun q => absurd q (by decide), fun q => absurd q (by decide), fun q => absurd q (by decide), fun q => absurd q (by decide), fun q => absurd q (by decide), fun q => absurd q (by decide)⟩
theorem t_N_mk8 {l r p a b c : Int} (hl : lo p = (l, r)) (h0 : 0 ≤ l) (h1 : l ≤ p) (hr : 0 ≤ r) (hw : ∀ q, l ≤ q → q < p → (lo q).2 < r) (h : t_k8 tk lo nb l r p a b c) : t_N tk lo nb p 8 a b c := by
  unfold t_N
  rw [hl]
  exact ⟨⟨⟨h0, h1, by decide, by decide⟩, hr, fun q r1 r2 => Int.le_of_lt (hw q r1 r2), fun _ _ _ _ => hw⟩, fun q => absurd q (by decide), fun q => absurd q (by decide), fun q => absurd q (by decide), fun q => absurd q (by decide), fun q => absurd q (by decide), fun _ => h, fun q => absurd q (by decide), fun q => absurd q (by decide), fun q => absurd q (by decide), fun q => absurd q (by decide), fun q => absurd q (by decide), fun q => absurd q (by decide), fun q => absurd q (by decide), fun q => absurd q (by decide), fun q => absurd q (by decide), fun q => absurd q (by decide), fun q => absurd q (by decide), fun q => absurd q (by decide), fun q => absurd q (by decide), fun q => absurd q (by decide), fun q => absurd q (by decide), fun q => absurd q (by decide), fun q => absurd q (by decide), fun q => absurd q (by decide), fun q => absurd q (by decide)⟩
theorem t_N_mk9 {l r p a b c : Int} (hl : lo p = (l, r)) (h0 : 0 ≤ l) (h1 : l ≤ p) (hr : 0 ≤ r) (hw : ∀ q, l ≤ q → q < p → (lo q).2 ≤ r) (h : t_k9 tk lo nb l r p a b c) : t_N tk lo nb p 9 a b c := by
  unfold t_N
  rw [hl]
  exact ⟨⟨⟨h0, h1, by decide, by decide⟩, hr, hw, fun q1 q2 q3 q4 => absurd rfl q2⟩, fun q => absurd q (by decide), fun q => absurd q (by decide), fun q => absurd q (by decide), fun q => absurd q (by decide), fun q => absurd q (by decide), fun q => absurd q (by decide), fun _ => h, fun q => absurd q (by decide), fun q => absurd q (by decide), fun q => absurd q (by decide), fun q => absurd q (by decide), fun q => absurd q (by decide), fun q => absurd q (by decide), fun q => absurd q (by decide), fun q => absurd q (by decide), fun q => absurd q (by decide), fun q => absurd q (by decide), fun q => absurd q (by decide), fun q => absurd q (by decide), fun q => absurd q (by decide), fun q => absurd q (by decide), fun q => absurd q (by decide), fun q => absurd q (by decide), fun q => absurd q (by decide), fun q => absurd q (by decide)⟩
theorem t_N_mk10 {l r p a b c : Int} (hl : lo p = (l, r)) (h0 : 0 ≤ l) (h1 : l ≤ p) (hr : 0 ≤ r) (hw : ∀ q, l ≤ q → q < p → (lo q).2 ≤ r) (h : t_k10 tk lo nb l r p a b c) : t_N tk lo nb p 10 a b c := by
  unfold t_N
  rw [hl]
  exact ⟨⟨⟨h0, h1, by decide, by decide⟩, hr, hw, fun q1 q2 q3 q4 => absurd rfl q3⟩, fun q => absurd q (by decide), fun q => absurd q (by decide), fun q => absurd q (by decide), fun q => absurd q (by decide), fun q => absurd q (by decide), fun q => absurd q (by decide), fun q => absurd q (by decide), fun _ => h, fun q => absurd q (by decide), fun q => absurd q (by decide), fun q => absurd q (by decide), fun q => absurd q (by decide), fun q => absurd q (by decide), fun q => absurd q (by decide), fun q => absurd q (by decide), fun q => absurd q (by decide), fun q => absurd q (by decide), fun q => absurd q (by decide), fun q => absurd q (by decide), fun q => absurd q (by decide), fun q => absurd q (by decide), fun q => absurd q (by decide), fun q => absurd q (by decide), fun q => absurd q (by decide), fun q => absurd q (by decide)⟩
theorem t_N_mk11 {l r p a b c : Int} (hl : lo p = (l, r)) (h0 : 0 ≤ l) (h1 : l ≤ p) (hr : 0 ≤ r) (hw : ∀ q, l ≤ q → q < p → (lo q).2 < r) (h : t_k11 tk lo nb l r p a b c) : t_N tk lo nb p 11 a b c := by
  unfold t_N
  rw [hl]
  exact ⟨⟨⟨h0, h1, by decide, by decide⟩, hr, fun q r1 r2 => Int.le_of_lt (hw q r1 r2), fun _ _ _ _ => hw⟩, fun q => absurd q (by decide), fun q => absurd q (by decide), fun q => absurd q (by decide), fun q => absurd q (by decide), fun q => absurd q (by decide), fun q => absurd q (by decide), fun q => absurd q (by decide), fun q => absurd q (by decide), fun _ => h, fun q => absurd q (by decide), fun q => absurd q (by decide), fun q => absurd q (by decide), fun q => absurd q (by decide), fun q => absurd q (by decide), fun q => absurd q (by decide), fun q => absurd q (by decide), fun q => absurd q (by decide), fun q => absurd q (by decide), fun q => absurd q (by decide), fun q => absurd q (by decide), fun q => absurd q (by decide), fun q => absurd q (by decide), fun q => absurd q (by decide), fun q => absurd q (by decide), fun q => absurd q (by decide)⟩
theorem t_N_mk12 {l r p a b c : Int} (hl : lo p = (l, r)) (h0 : 0 ≤ l) (h1 : l ≤ p) (hr : 0 ≤ r) (hw : ∀ q, l ≤ q → q < p → (lo q).2 < r) (h : t_k12 tk lo nb l r p a b c) : t_N tk lo nb p 12 a b c := by
  unfold t_N
  rw [hl]
  exact ⟨⟨⟨h0, h1, by decide, by decide⟩, hr, fun q r1 r2 => Int.le_of_lt (hw q r1 r2), fun _ _ _ _ => hw⟩, fun q => absurd q (by decide), fun q => absurd q (by decide), fun q => absurd q (by decide), fun q => absurd q (by decide), fun q => absurd q (by decide), fun q => absurd q (by decide), fun q => absurd q (by decide), fun q => absurd q (by decide), fun q => absurd q (by decide), fun _ => h, fun q => absurd q (by decide), fun q => absurd q (by decide), fun q => absurd q (by decide), fun q => absurd q (by decide), fun q => absurd q (by decide), fun q => absurd q (by decide), fun q => absurd q (by decide), fun q => absurd q (by decide), fun q => absurd q (by decide), fun q => absurd q (by decide), fun q => absurd q (by decide), fun q => absurd q (by decide), fun q => absurd q (by decide), fun q => absurd q (by decide), fun q => absurd q (by decide)⟩
theorem t_N_mk13 {l r p a b c : Int} (hl : lo p = (l, r)) (h0 : 0 ≤ l) (h1 : l ≤ p) (hr : 0 ≤ r) (hw : ∀ q, l ≤ q → q < p → (lo q).2 < r) (h : t_k13 tk lo nb l r p a b c) : t_N tk lo nb p 13 a b c := by
  unfold t_N
  rw [hl]
  exact ⟨⟨⟨h0, h1, by decide, by decide⟩, hr, fun q r1 r2 => Int.le_of_lt (hw q r1 r2), fun _ _ _ _ => hw⟩, fun q => absurd q (by decide), fun q => absurd q (by decide), fun q => absurd q (by decide), fun q => absurd q (by decide), fun q => absurd q (by decide), fun q => absurd q (by decide), fun q => absurd q (by decide), fun q => absurd q (by decide), fun q => absurd q (by decide), fun q => absurd q (by decide), fun _ => h, fun q => absurd q (by decide), fun q => absurd q (by decide), fun q => absurd q (by decide), fun q => absurd q (by decide), fun q => absurd q (by decide), fun q => absurd q (by decide), fun q => absurd q (by decide), fun q => absurd q (by decide), fun q => absurd q (by decide), fun q => absurd q (by decide), fun q => absurd q (by decide), fun q => absurd q (by decide), fun q => absurd q (by decide), fun q => absurd q (by decide)⟩
theorem t_N_mk14 {l r p a b c : Int} (hl : lo p = (l, r)) (h0 : 0 ≤ l) (h1 : l ≤ p) (hr : 0 ≤ r) (hw : ∀ q, l ≤ q → q < p → (lo q).2 < r) (h : t_k14 tk lo nb l r p a b c) : t_N tk lo nb p 14 a b c := by
  unfold t_N
  rw [hl]
  exact ⟨⟨⟨h0, h1, by decide, by decide⟩, hr, fun q r1 r2 => Int.le_of_lt (hw q r1 r2), fun _ _ _ _ => hw⟩, fun q => absurd q (by decide), fun q => absurd q (by decide), fun q => absurd q (by decide), fun q => absurd q (by decide), fun q => absurd q (by decide), fun q => absurd q (by decide), fun q => absurd q (by decide), fun q => absurd q (by decide), fun q => absurd q (by decide), fun q => absurd q (by decide), fun q => absurd q (by decide), fun _ => h, fun q => absurd q (by decide), fun q => absurd q (by decide), fun q => absurd q (by decide), fun q => absurd q (by decide), fun q => absurd q (by decide), fun q => absurd q (by decide), fun q => absurd q (by decide), fun q => absurd q (by decide), fun q => absurd q (by decide), fun q => absurd q (by decide), fun q => absurd q (by decide), fun q => absurd q (by decide), fun q => absurd q (by decide)⟩
theorem t_N_mk15 {l r p a b c : Int} (hl : lo p = (l, r)) (h0 : 0 ≤ l) (h1 : l ≤ p) (hr : 0 ≤ r) (hw : ∀ q, l ≤ q → q < p → (lo q).2 < r) (h : t_k15 tk lo nb l r p a b c) : t_N tk lo nb p 15 a b c := by
  unfold t_N
  rw [hl]
  exact ⟨⟨⟨h0, h1, by decide, by decide⟩, hr, fun q r1 r2 => Int.le_of_lt (hw q r1 r2), fun _ _ _ _ => hw⟩, fun q => absurd q (by decide), fun q => absurd q (by decide), fun q => absurd q (by decide), fun q => absurd q (by decide), fun q => absurd q (by decide), fun q => absurd q (by decide), fun q => absurd q (by decide), fun q => absurd q (by decide), fun q => absurd q (by decide), fun q => absurd q (by decide), fun q => absurd q (by decide), fun q => absurd q (by decide), fun _ => h, fun q => absurd q (by decide), fun q => absurd q (by decide), fun q => absurd q (by decide), fun q => absurd q (by decide), fun q => absurd q (by decide), fun q => absurd q (by decide), fun q => absurd q (by decide), fun q => absurd q (by decide), fun q => absurd q (by decide), fun q => absurd q (by decide), fun q => absurd q (by decide), fun q => absurd q (by decide)⟩
theorem t_N_mk16 {l r p a b c : Int} (hl : lo p = (l, r)) (h0 : 0 ≤ l) (h1 : l ≤ p) (hr : 0 ≤ r) (hw : ∀ q, l ≤ q → q < p → (lo q).2 < r) (h : t_k16 tk lo nb l r p a b c) : t_N tk lo nb p 16 a b c := by
  unfold t_N
  rw [hl]
  exact ⟨⟨⟨h0, h1, by decide, by decide⟩, hr, fun q r1 r2 => Int.le_of_lt (hw q r1 r2), fun _ _ _ _ => hw⟩, fun q => absurd q (by decide), fun q => absurd q (by decide), fun q => absurd q (by decide), fun q => absurd q (by decide), fun q => absurd q (by decide), fun q => absurd q (by decide), fun q => absurd q (by decide), fun q => absurd q (by decide), fun q => absurd q (by decide), fun q => absurd q (by decide), fun q => absurd q (by decide), fun q => absurd q (by decide), fun q => absurd q (by decide), fun _ => h, fun q => absurd q (by decide), fun q => absurd q (by decide), fun q => absurd q (by decide), fun q => absurd q (by decide), fun q => absurd q (by decide), fun q => absurd q (by decide), fun q => absurd q (by decide), fun q => absurd q (by decide), fun q => absurd q (by decide), fun q => absurd q (by decide), fun q => absurd q (by decide)⟩
theorem t_N_mk17 {l r p a b c : Int} (hl : lo p = (l, r)) (h0 : 0 ≤ l) (h1 : l ≤ p) (hr : 0 ≤ r) (hw : ∀ q, l ≤ q → q < p → (lo q).2 ≤ r) (h : t_k17 tk lo nb l r p a b c) : t_N tk lo nb p 17 a b c := by
  unfold t_N
  rw [hl]
  exact ⟨⟨⟨h0, h1, by decide, by decide⟩, hr, hw, fun q1 q2 q3 q4 => absurd rfl q4⟩, fun q => absurd q (by decide), fun q => absurd q (by decide), fun q => absurd q (by decide), fun q => absurd q (by decide), fun q => absurd q (by decide), fun q => absurd q (by decide), fun q => absurd q (by decide), fun q => absurd q (by decide), fun q => absurd q (by decide), fun q => absurd q (by decide), fun q => absurd q (by decide), fun q => absurd q (by decide), fun q => absurd q (by decide), fun q => absurd q (by decide), fun _ => h, fun q => absurd q (by decide), fun q => absurd q (by decide), fun q => absurd q (by decide), fun q => absurd q (by decide), fun q => absurd q (by decide), fun q => absurd q (by decide), fun q => absurd q (by decide), fun q => absurd q (by decide), fun q => absurd q (by decide), fun q => absurd q (by decide)⟩
theorem t_N_mk18 {l r p a b c : Int} (hl : lo p = (l, r)) (h0 : 0 ≤ l) (h1 : l ≤ p) (hr : 0 ≤ r) (hw : ∀ q, l ≤ q → q < p → (lo q).2 < r) (h : t_k18 tk lo nb l r p a b c) : t_N tk lo nb p 18 a b c := by
  unfold t_N
  rw [hl]
  exact ⟨⟨⟨h0, h1, by decide, by decide⟩, hr, fun q r1 r2 => Int.le_of_lt (hw q r1 r2), fun _ _ _ _ => hw⟩, fun q => absurd q (by decide), fun q => absurd q (by decide), fun q => absurd q (by decide), fun q => absurd q (by decide), fun q => absurd q (by decide), fun q => absurd q (by decide), fun q => absurd q (by decide), fun q => absurd q (by decide), fun q => absurd q (by decide), fun q => absurd q (by decide), fun q => absurd q (by decide), fun q => absurd q (by decide), fun q => absurd q (by decide), fun q => absurd q (by decide), fun q => absurd q (by decide), fun _ => h, fun q => absurd q (by decide), fun q => absurd q (by decide), fun q => absurd q (by decide), fun q => absurd q (by decide), fun q => absurd q (by decide), fun q => absurd q (by decide), fun q => absurd q (by decide), fun q => absurd q (by decide), fun q => absurd q (by decide)⟩
theorem t_N_mk19 {l r p a b c : Int} (hl : lo p = (l, r)) (h0 : 0 ≤ l) (h1 : l ≤ p) (hr : 0 ≤ r) (hw : ∀ q, l ≤ q → q < p → (lo q).2 < r) (h : t_k19 tk lo nb l r p a b c) : t_N tk lo nb p 19 a b c := by
  unfold t_N
  rw [hl]
  exact ⟨⟨⟨h0, h1, by decide, by decide⟩, hr, fun q r1 r2 => Int.le_of_lt (hw q r1 r2), fun _ _ _ _ => hw⟩, fun q => absurd q (by decide), fun q => absurd q (by decide), fun q => absurd q (by decide), fun q => absurd q (by decide), fun q => absurd q (by decide), fun q => absurd q (by decide), fun q => absurd q (by decide), fun q => absurd q (by decide), fun q => absurd q (by decide), fun q => absurd q (by decide), fun q => absurd q (by decide), fun q => absurd q (by decide), fun q => absurd q (by decide), fun q => absurd q (by decide), fun q => absurd q (by decide), fun q => absurd q (by decide), fun _ => h, fun q => absurd q (by decide), fun q => absurd q (by decide), fun q => absurd q (by decide), fun q => absurd q (by decide), fun q => absurd q (by decide), fun q => absurd q (by decide), fun q => absurd q (by decide), fun q => absurd q (by decide)⟩
theorem t_N_mk21 {l r p a b c : Int} (hl : lo p = (l, r)) (h0 : 0 ≤ l) (h1 : l ≤ p) (hr : 0 ≤ r) (hw : ∀ q, l ≤ q → q < p → (lo q).2 < r) (h : t_k21 tk lo nb l r p a b c) : t_N tk lo nb p 21 a b c := by
  unfold t_N
  rw [hl]
  exact ⟨⟨⟨h0, h1, by decide, by decide⟩, hr, fun q r1 r2 => Int.le_of_lt (hw q r1 r2), fun _ _ _ _ => hw⟩, fun q => absurd q (by decide), fun q => absurd q (by decide), fun q => absurd q (by decide), fun q => absurd q (by decide), fun q => absurd q (by decide), fun q => absurd q (by decide), fun q => absurd q (by decide), fun q => absurd q (by decide), fun q => absurd q (by decide), fun q => absurd q (by decide), fun q => absurd q (by decide), fun q => absurd q (by decide), fun q => absurd q (by decide), fun q => absurd q (by decide), fun q => absurd q (by decide), fun q => absurd q (by decide), fun q => absurd q (by decide), fun _ => h, fun q => absurd q (by decide), fun q => absurd q (by decide), fun q => absurd q (by decide), fun q => absurd q (by decide), fun q => absurd q (by decide), fun q => absurd q (by decide), fun q => absurd q (by decide)⟩
theorem t_N_mk22 {l r p a b c : Int} (hl : lo p = (l, r)) (h0 : 0 ≤ l) (h1 : l ≤ p) (hr : 0 ≤ r) (hw : ∀ q, l ≤ q → q < p → (lo q).2 < r) (h : t_k22 tk lo nb l r p a b c) : t_N tk lo nb p 22 a b c := by
  unfold t_N
  rw [hl]
  exact ⟨⟨⟨h0, h1, by decide, by decide⟩, hr, fun q r1 r2 => Int.le_of_lt (hw q r1 r2), fun _ _ _ _ => hw⟩, fun q => absurd q (by decide), fun q => absurd q (by decide), fun q => absurd q (by decide), fun q => absurd q (by decide), fun q => absurd q (by decide), fun q => absurd q (by decide), fun q => absurd q (by decide), fun q => absurd q (by decide), fun q => absurd q (by decide), fun q => absurd q (by decide), fun q => absurd q (by decide), fun q => absurd q (by decide), fun q => absurd q (by decide), fun q => absurd q (by decide), fun q => absurd q (by decide), fun q => absurd q (by decide), fun q => absurd q (by decide), fun q => absurd q (by decide), fun _ => h, fun q => absurd q (by decide), fun q => absurd q (by decide), fun q => absurd q (by decide), fun q => absurd q (by decide), fun q => absurd q (by decide), fun q => absurd q (by decide)⟩
theorem t_N_mk23 {l r p a b c : Int} (hl : lo p = (l, r)) (h0 : 0 ≤ l) (h1 : l ≤ p) (hr : 0 ≤ r) (hw : ∀ q, l ≤ q → q < p → (lo q).2 < r) (h : t_k23 tk lo nb l r p a b c) : t_N tk lo nb p 23 a b c := by
  unfold t_N
  rw [hl]
  exact ⟨⟨⟨h0, h1, by decide, by decide⟩, hr, fun q r1 r2 => Int.le_of_lt (hw q r1 r2), fun _ _ _ _ => hw⟩, fun q => absurd q (by decide), fun q => absurd q (by decide), fun q => absurd q (by decide), fun q => absurd q (by decide), fun q => absurd q (by decide), fun q => absurd q (by decide), fun q => absurd q (by decide), fun q => absurd q (by decide), fun q => absurd q (by decide), fun q => absurd q (by decide), fun q => absurd q (by decide), fun q => absurd q (by decide), fun q => absurd q (by decide), fun q => absurd q (by decide), fun q => absurd q (by decide), fun q => absurd q (by decide), fun q => absurd q (by decide), fun q => absurd q (by decide), fun q => absurd q (by decide), fun _ => h, fun q => absurd q (by decide), fun q => absurd q (by decide), fun q => absurd q (by decide), fun q => absurd q (by decide), fun q => absurd q (by decide)⟩
theorem t_N_mk24 {l r p a b c : Int} (hl : lo p = (l, r)) (h0 : 0 ≤ l) (h1 : l ≤ p) (hr : 0 ≤ r) (hw : ∀ q, l ≤ q → q < p → (lo q).2 < r) (h : t_k24 tk lo nb l r p a b c) : t_N tk lo nb p 24 a b c := by
  unfold t_N
  rw [hl]
  exact ⟨⟨⟨h0, h1, by decide, by decide⟩, hr, fun q r1 r2 => Int.le_of_lt (hw q r1 r2), fun _ _ _ _ => hw⟩, fun q => absurd q (by decide), fun q => absurd q (by decide), fun q => absurd q (by decide), fun q => absurd q (by decide), fun q => absurd q (by decide), fun q => absurd q (by decide), fun q => absurd q (by decide), fun q => absurd q (by decide), fun q => absurd q (by decide), fun q => absurd q (by decide), fun q => absurd q (by decide), fun q => absurd q (by decide), fun q => absurd q (by decide), fun q => absurd q (by decide), fun q => absurd q (by decide), fun q => absurd q (by decide), fun q => absurd q (by decide), fun q => absurd q (by decide), fun q => absurd q (by decide), fun q => absurd q (by decide), fun _ => h, fun q => absurd q (by decide), fun q => absurd q (by decide), fun q => absurd q (by decide), fun q => absurd q (by decide)⟩
theorem t_N_mk25 {l r p a b c : Int} (hl : lo p = (l, r)) (h0 : 0 ≤ l) (h1 : l ≤ p) (hr : 0 ≤ r) (hw : ∀ q, l ≤ q → q < p → (lo q).2 < r) (h : t_k25 tk lo nb l r p a b c) : t_N tk lo nb p 25 a b c := by
  unfold t_N
  rw [hl]
  exact ⟨⟨⟨h0, h1, by decide, by decide⟩, hr, fun q r1 r2 => Int.le_of_lt (hw q r1 r2), fun _ _ _ _ => hw⟩, fun q => absurd q (by decide), fun q => absurd q (by decide), fun q => absurd q (by decide), fun q => absurd q (by decide), fun q => absurd q (by decide), fun q => absurd q (by decide), fun q => absurd q (by decide), fun q => absurd q (by decide), fun q => absurd q (by decide), fun q => absurd q (by decide), fun q => absurd q (by decide), fun q => absurd q (by decide), fun q => absurd q (by decide), fun q => absurd q (by decide), fun q => absurd q (by decide), fun q => absurd q (by decide), fun q => absurd q (by decide), fun q => absurd q (by decide), fun q => absurd q (by decide), fun q => absurd q (by decide), fun q => absurd q (by decide), fun _ => h, fun q => absurd q (by decide), fun q => absurd q (by decide), fun q => absurd q (by decide)⟩
theorem t_N_mk26 {l r p a b c : Int} (hl : lo p = (l, r)) (h0 : 0 ≤ l) (h1 : l ≤ p) (hr : 0 ≤ r) (hw : ∀ q, l ≤ q → q < p → (lo q).2 < r) (h : t_k26 tk lo nb l r p a b c) : t_N tk lo nb p 26 a b c := by
  unfold t_N
  rw [hl]
  exact ⟨⟨⟨h0, h1, by decide, by decide⟩, hr, fun q r1 r2 => Int.le_of_lt (hw q r1 r2), fun _ _ _ _ => hw⟩, fun q => absurd q (by decide), fun q => absurd q (by decide), fun q => absurd q (by decide), fun q => absurd q (by decide), fun q => absurd q (by decide), fun q => absurd q (by decide), fun q => absurd q (by decide), fun q => absurd q (by decide), fun q => absurd q (by decide), fun q => absurd q (by decide), fun q => absurd q (by decide), fun q => absurd q (by decide), fun q => absurd q (by decide), fun q => absurd q (by decide), fun q => absurd q (by decide), fun q => absurd q (by decide), fun q => absurd q (by decide), fun q => absurd q (by decide), fun q => absurd q (by decide), fun q => absurd q (by decide), fun q => absurd q (by decide), fun q => absurd q (by decide), fun _ => h, fun q => absurd q (by decide), fun q => absurd q (by decide)⟩
theorem t_N_mk27 {l r p a b c : Int} (hl : lo p = (l, r)) (h0 : 0 ≤ l) (h1 : l ≤ p) (hr : 0 ≤ r) (hw : ∀ q, l ≤ q → q < p → (lo q).2 < r) (h : t_k27 tk lo nb l r p a b c) : t_N tk lo nb p 27 a b c := by
  unfold t_N
  rw [hl]
  exact ⟨⟨⟨h0, h1, by decide, by decide⟩, hr, fun q r1 r2 => Int.le_of_lt (hw q r1 r2), fun _ _ _ _ => hw⟩, fun q => absurd q (by decide), fun q => absurd q (by decide), fun q => absurd q (by decide), fun q => absurd q (by decide), fun q => absurd q (by decide), fun q => absurd q (by decide), fun q => absurd q (by decide), fun q => absurd q (by decide), fun q => absurd q (by decide), fun q => absurd q (by decide), fun q => absurd q (by decide), fun q => absurd q (by decide), fun q => absurd q (by decide), fun q => absurd q (by decide), fun q => absurd q (by decide), fun q => absurd q (by decide), fun q => absurd q (by decide), fun q => absurd q (by decide), fun q => absurd q (by decide), fun q => absurd q (by decide), fun q => absurd q (by decide), fun q => absurd q (by decide), fun q => absurd q (by decide), fun _ => h, fun q => absurd q (by decide)⟩
theorem t_N_mk29 {l r p a b c : Int} (hl : lo p = (l, r)) (h0 : 0 ≤ l) (h1 : l ≤ p) (hr : 0 ≤ r) (hw : ∀ q, l ≤ q → q < p → (lo q).2 < r) (h : t_k29 tk lo nb l r p a b c) : t_N tk lo nb p 29 a b c := by
  unfold t_N
  rw [hl]
  exact ⟨⟨⟨h0, h1, by decide, by decide⟩, hr, fun q r1 r2 => Int.le_of_lt (hw q r1 r2), fun _ _ _ _ => hw⟩, fun q => absurd q (by decide), fun q => absurd q (by decide), fun q => absurd q (by decide), fun q => absurd q (by decide), fun q => absurd q (by decide), fun q => absurd q (by decide), fun q => absurd q (by decide), fun q => absurd q (by decide), fun q => absurd q (by decide), fun q => absurd q (by decide), fun q => absurd q (by decide), fun q => absurd q (by decide), fun q => absurd q (by decide), fun q => absurd q (by decide), fun q => absurd q (by decide), fun q => absurd q (by decide), fun q => absurd q (by decide), fun q => absurd q (by decide), fun q => absurd q (by decide), fun q => absurd q (by decide), fun q => absurd q (by decide), fun q => absurd q (by decide), fun q => absurd q (by decide), fun q => absurd q (by decide), fun _ => h⟩
theorem t_N_mk1 {l r p a b c : Int} (hl : lo p = (l, r)) (h0 : 0 ≤ l) (h1 : l ≤ p) (hr : 0 ≤ r) (hw : ∀ q, l ≤ q → q < p → (lo q).2 < r) : t_N tk lo nb p 1 a b c := by
  unfold t_N
  rw [hl]
  exact ⟨⟨⟨h0, h1, by decide, by decide⟩, hr, fun q r1 r2 => Int.le_of_lt (hw q r1 r2), fun _ _ _ _ => hw⟩, fun q => absurd q (by decide), fun q => absurd q (by decide), fun q => absurd q (by decide), fun q => absurd q (by decide), fun q => absurd q (by decide), fun q => absurd q (by decide), fun q => absurd q (by decide), fun q => absurd q (by decide), fun q => absurd q (by decide), fun q => absurd q (by decide), fun q => absurd q (by decide), fun q => absurd q (by decide), fun q => absurd q (by decide), fun q => absurd q (by decide), fun q => absurd q (by decide), fun q => absurd q (by decide), fun q => absurd q (by decide), fun q => absurd q (by decide), fun q => absurd q (by decide), fun q => absurd q (by decide), fun q => absurd q (by decide), fun q => absurd q (by decide), fun q => absurd q (by decide), fun q => absurd q (by decide), fun q => absurd q (by decide)⟩
theorem t_N_mk2 {l r p a b c : Int} (hl : lo p = (l, r)) (h0 : 0 ≤ l) (h1 : l ≤ p) (hr : 0 ≤ r) (hw : ∀ q, l ≤ q → q < p → (lo q).2 < r) : t_N tk lo nb p 2 a b c := by
  unfold t_N
  rw [hl]
  exact ⟨⟨⟨h0, h1, by decide, by decide⟩, hr, fun q r1 r2 => Int.le_of_lt (hw q r1 r2), fun _ _ _ _ => hw⟩, fun q => absurd q (by decide), fun q => absurd q (by decide), fun q => absurd q (by decide), fun q => absurd q (by decide), fun q => absurd q (by decide), fun q => absurd q (by decide), fun q => absurd q (by decide), fun q => absurd q (by decide), fun q => absurd q (by decide), fun q => absurd q (by decide), fun q => absurd q (by decide), fun q => absurd q (by decide), fun q => absurd q (by decide), fun q => absurd q (by decide), fun q => absurd q (by decide), fun q => absurd q (by decide), fun q => absurd q (by decide), fun q => absurd q (by decide), fun q => absurd q (by decide), fun q => absurd q (by decide), fun q => absurd q (by decide), fun q => absurd q (by decide), fun q => absurd q (by decide), fun q => absurd q (by decide), fun q => absurd q (by decide)⟩
theorem t_N_mk4 {l r p a b c : Int} (hl : lo p = (l, r)) (h0 : 0 ≤ l) (h1 : l ≤ p) (hr : 0 ≤ r) (hw : ∀ q, l ≤ q → q < p → (lo q).2 < r) : t_N tk lo nb p 4 a b c := by
  unfold t_N
  rw [hl]
  exact ⟨⟨⟨h0, h1, by decide, by decide⟩, hr, fun q r1 r2 => Int.le_of_lt (hw q r1 r2), fun _ _ _ _ => hw⟩, fun q => absurd q (by decide), fun q => absurd q (by decide), fun q => absurd q (by decide), fun q => absurd q (by decide), fun q => absurd q (by decide), fun q => absurd q (by decide), fun q => absurd q (by decide), fun q => absurd q (by decide), fun q => absurd q (by decide), fun q => absurd q (by decide), fun q => absurd q (by decide), fun q => absurd q (by decide), fun q => absurd q (by decide), fun q => absurd q (by decide), fun q => absurd q (by decide), fun q => absurd q (by decide), fun q => absurd q (by decide), fun q => absurd q (by decide), fun q => absurd q (by decide), fun q => absurd q (by decide), fun q => absurd q (by decide), fun q => absurd q (by decide), fun q => absurd q (by decide), fun q => absurd q (by decide), fun q => absurd q (by decide)⟩
theorem t_N_mk20 {l r p a b c : Int} (hl : lo p = (l, r)) (h0 : 0 ≤ l) (h1 : l ≤ p) (hr : 0 ≤ r) (hw : ∀ q, l ≤ q → q < p → (lo q).2 < r) : t_N tk lo nb p 20 a b c := by
  unfold t_N
  rw [hl]
  exact ⟨⟨⟨h0, h1, by decide, by decide⟩, hr, fun q r1 r2 => Int.le_of_lt (hw q r1 r2), fun _ _ _ _ => hw⟩, fun q => absurd q (by decide), fun q => absurd q (by decide), fun q => absurd q (by decide), fun q => absurd q (by decide), fun q => absurd q (by decide), fun q => absurd q (by decide), fun q => absurd q (by decide), fun q => absurd q (by decide), fun q => absurd q (by decide), fun q => absurd q (by decide), fun q => absurd q (by decide), fun q => absurd q (by decide), fun q => absurd q (by decide), fun q => absurd q (by decide), fun q => absurd q (by decide), fun q => absurd q (by decide), fun q => absurd q (by decide), fun q => absurd q (by decide), fun q => absurd q (by decide), fun q => absurd q (by decide), fun q => absurd q (by decide), fun q => absurd q (by decide), fun q => absurd q (by decide), fun q => absurd q (by decide), fun q => absurd q (by decide)⟩
def t_up (lo : Int → Int × Int) (v l r : Int) : Int → Int × Int := fun i => if i = v then (l, r) else lo i
theorem t_up_same {lo : Int → Int × Int} {v l r : Int} : t_up lo v l r v = (l, r) := if_pos rfl
theorem t_up_ne {lo : Int → Int × Int} {v l r i : Int} (h : i ≠ v) : t_up lo v l r i = lo i := if_neg h
/-- below l nothing points beyond it -/
def m_cl (A : Nat → Int → Int) (l : Int) : Prop := ∀ p, 0 ≤ p → p < l → A 61 p < l
/-- a node more -/
theorem m_TR_nd {I I' : Nat → Int} {A A' : Nat → Int → Int} {v kd a b c l r : Int} (h : m_TR lo I A) (hn : m_nd I A I' A' v kd a b c) (hl0 : 0 ≤ l) (hl : l ≤ v) (hc : m_cl A l) (hk : t_N (A' 53) (t_up lo v l r) (I' 4033) v kd a b c) : m_TR (t_up lo v l r) I' A' := by
  obtain ⟨e0, ⟨-, -, -, -, e5⟩, e6, e7, e8, e9, e10, e11, e12, e13⟩ := hn
  have enb : I' 4033 = I 4033 := e6 _ (by decide) (by decide) (by decide) (by decide) (by decide)
  have htk : ∀ i, 0 ≤ i → i < v → A' 53 i = A 53 i := fun i h1 h2 => (e8 i h1 h2).1
  have hlo : ∀ i, 0 ≤ i → i < v → t_up lo v l r i = lo i := fun i h1 h2 => t_up_ne (by omega)
  intro p h0 hp
  rw [e5] at hp ⊢
  by_cases e : p = v
  · subst e
    rw [e9, e10, e11, e12]
    refine ⟨hk, Or.inl e13, fun q h1 h2 h3 => Or.inl ?_⟩
    rw [e13]
    by_cases e : q = p
    · subst e; omega
    · omega
  · have hpv : p < v := by omega
    obtain ⟨g1, g2, g3, g4, g5⟩ := e8 p h0 hpv
    obtain ⟨h1, h2, h3⟩ := h p h0 (by omega)
    rw [g1, g2, g3, g4]
    refine ⟨t_N_cong htk hlo (by omega) h0 hpv h1, ?_, ?_⟩
    · rw [g1, g5]
      rcases h2 with h2 | ⟨q1, q2, q3, q4, q5⟩
      · exact Or.inl h2
      · have hx : 0 ≤ A 61 p := by omega
        refine Or.inr ?_
        rw [hlo _ hx (by omega), htk _ hx (by omega)]
        refine ⟨q1, q2, by omega, q4, fun q r1 r2 r3 => ?_⟩
        by_cases e : q = v
        · omega
        · rw [t_up_ne e] at r1
          exact q5 q r1 r2 (by omega)
    · intro q r1 r2 r3
      rw [g5]
      by_cases e : q = v
      · subst e
        rw [t_up_same] at r3 ⊢
        exact Or.inl (hc p h0 r3)
      · rw [t_up_ne e] at r3 ⊢
        exact h3 q r1 (by omega) r3
/-- ranks -/
def m_RK (lo : Int → Int × Int) (a b R : Int) : Prop := ∀ q, a ≤ q → q < b → (lo q).2 ≤ R
/-- what isn't inside a later one -/
def m_rt (lo : Int → Int × Int) (n v : Int) : Prop := ∀ q, v < q → q < n → v < (lo q).1
/-- one is put behind another -/
theorem m_TR_link {I : Nat → Int} {A A' : Nat → Int → Int} {v w : Int} (h : m_TR lo I A) (h53 : A' 53 = A 53) (h55 : A' 55 = A 55) (h57 : A' 57 = A 57) (h59 : A' 59 = A 59) (h61 : A' 61 = w_upA (A 61) v w) (hv : 0 ≤ v) (hw : w < I 3905) (hr : m_rt lo (I 3905) v) (hr2 : m_rt lo (I 3905) w) (hvw : v < (lo w).1) (hww : (lo w).1 ≤ w) (hL : t_L (A 53 v) (A 53 w)) : m_TR lo I A' := by
  intro p h0 hp
  obtain ⟨h1, h2, h3⟩ := h p h0 hp
  rw [h53, h55, h57, h59, h61]
  refine ⟨h1, ?_⟩
  by_cases e : p = v
  · subst e
    have e1 : w_upA (A 61) p w p = w := if_pos rfl
    unfold t_X
    rw [e1]
    refine ⟨Or.inr ⟨hvw, hww, hw, hL, fun q r1 r2 r3 => ?_⟩, fun q r1 r2 r3 => ?_⟩
    · have := hr q r2 r3; omega
    · by_cases e : w < q
      · exact Or.inl (hr2 q e r2)
      · exact Or.inr (by omega)
  · have e1 : w_upA (A 61) v w p = A 61 p := if_neg e
    unfold t_X
    rw [e1]
    exact ⟨h2, h3⟩
theorem m_cl_of {I : Nat → Int} {A : Nat → Int → Int} (h : m_TR lo I A) (h0 : 0 ≤ I 3905) : m_cl A (I 3905) := fun p h1 h2 => by
  obtain ⟨-, h3, -⟩ := h p h1 h2
  rcases h3 with h3 | ⟨-, -, h3, -⟩
  · omega
  · exact h3
theorem m_rt_last {v : Int} : m_rt lo (v + 1) v := fun q h1 h2 => by omega
end TInv
/-- the tokens -/
def m_TK (I : Nat → Int) (A : Nat → Int → Int) : Prop := (1 ≤ I 2754 ∧ I 2754 ≤ 1501) ∧ (A 45 (I 2754 - 1) = 0 ∨ A 45 (I 2754 - 1) = 7) ∧ (∀ i, 0 ≤ i → i < I 2754 - 1 → 1 ≤ A 45 i ∧ A 45 i ≤ 6) ∧ (∀ i, 0 ≤ i → i < I 2754 → A 45 i = 2 → 0 ≤ A 46 i ∧ A 46 i < 400)
theorem m_TK_lt {I : Nat → Int} {A : Nat → Int → Int} (h : m_TK I A) {i : Int} (h2 : i < I 2754) (h3 : 1 ≤ A 45 i) (h4 : A 45 i ≤ 6) : i + 1 < I 2754 := by
  obtain ⟨-, h5, -⟩ := h
  by_cases e : i = I 2754 - 1
  · subst e; omega
  · omega
theorem m_TK_fx {I I' : Nat → Int} {A A' : Nat → Int → Int} (h : m_fx I A I' A') (g : m_TK I A) : m_TK I' A' := by
  obtain ⟨⟨-, e1, -, -⟩, -, e2, e3, -⟩ := h
  unfold m_TK
  rw [e1, e2, e3]
  exact g
/-- the scope -/
def m_SC (I : Nat → Int) (A : Nat → Int → Int) : Prop := (∀ i, 0 ≤ i → i < I 4289 → 0 ≤ A 67 i ∧ A 67 i < I 4033) ∧ (∀ i, 0 ≤ i → i < I 4033 → 0 ≤ A 63 i ∧ A 63 i < 400)
/-- the numbers -/
def m_NU (I : Nat → Int) : Prop := (0 ≤ I 2774 ∧ I 2774 < I 2754 ∧ I 2754 ≤ 1501 ∧ 0 ≤ I 2775 ∧ I 2775 ≤ 24) ∧ (I 3393 = I 3905 ∧ I 3521 = I 3905 ∧ I 3649 = I 3905 ∧ I 3777 = I 3905 ∧ 0 ≤ I 3905 ∧ I 3905 ≤ 3 * I 2774) ∧ (I 4161 = I 4033 ∧ 7 ≤ I 4289 ∧ I 4289 ≤ I 4033 ∧ I 4033 ≤ 7 + I 2774) ∧ 0 ≤ I 5889 ∧ I 5889 ≤ I 2774
/-- what a piece of the parser leaves -/
def m_ST (lo : Int → Int × Int) (I : Nat → Int) (A : Nat → Int → Int) (lo' : Int → Int × Int) (I' : Nat → Int) (A' : Nat → Int → Int) : Prop := (∀ i, 0 ≤ i → i < I 3905 → A' 53 i = A 53 i ∧ A' 55 i = A 55 i ∧ A' 57 i = A 57 i ∧ A' 59 i = A 59 i ∧ A' 61 i = A 61 i ∧ lo' i = lo i) ∧ (∀ q, I 3905 ≤ q → q < I' 3905 → I 3905 ≤ (lo' q).1) ∧ (∀ i, 0 ≤ i → i < I 4289 → A' 67 i = A 67 i) ∧ (∀ i, 0 ≤ i → i < I 5889 → A' 92 i = A 92 i)
theorem m_ST_refl {lo : Int → Int × Int} {I : Nat → Int} {A : Nat → Int → Int} : m_ST lo I A lo I A := ⟨fun _ _ _ => ⟨rfl, rfl, rfl, rfl, rfl, rfl⟩, fun _ h1 h2 => absurd h2 (by omega), fun _ _ _ => rfl, fun _ _ _ => rfl⟩
theorem m_ST_trans {lo lo' lo'' : Int → Int × Int} {I I' I'' : Nat → Int} {A A' A'' : Nat → Int → Int} (h : m_ST lo I A lo' I' A') (g : m_ST lo' I' A' lo'' I'' A'') (hz : 0 ≤ I 3905) (hn : I 3905 ≤ I' 3905) (hs : I 4289 ≤ I' 4289) (hc : I 5889 ≤ I' 5889) : m_ST lo I A lo'' I'' A'' := by
  obtain ⟨a1, a2, a3, a4⟩ := h
  obtain ⟨b1, b2, b3, b4⟩ := g
  refine ⟨fun i h0 h1 => ?_, fun q h0 h1 => ?_, fun i h0 h1 => ?_, fun i h0 h1 => (b4 i h0 (by omega)).trans (a4 i h0 h1)⟩
  · obtain ⟨c1, c2, c3, c4, c5, c6⟩ := a1 i h0 h1
    obtain ⟨d1, d2, d3, d4, d5, d6⟩ := b1 i h0 (by omega)
    exact ⟨d1.trans c1, d2.trans c2, d3.trans c3, d4.trans c4, d5.trans c5, d6.trans c6⟩
  · by_cases e : q < I' 3905
    · obtain ⟨-, -, -, -, -, d6⟩ := b1 q (by omega) e
      rw [d6]
      exact a2 q h0 e
    · have := b2 q (by omega) h1
      omega
  · rw [b3 i h0 (by omega)]
    exact a3 i h0 h1
theorem m_RK_nil {lo : Int → Int × Int} {a R : Int} : m_RK lo a a R := fun q h1 h2 => by omega
theorem m_RK_app {lo lo' : Int → Int × Int} {I I' : Nat → Int} {A A' : Nat → Int → Int} {a R R' Rc : Int} (h : m_RK lo a (I 3905) R) (hs : m_ST lo I A lo' I' A') (hc : m_RK lo' (I 3905) (I' 3905) Rc) (h0 : 0 ≤ a) (h1 : R ≤ R') (h2 : Rc ≤ R') : m_RK lo' a (I' 3905) R' := fun q q1 q2 => by
  by_cases e : q < I 3905
  · obtain ⟨-, -, -, -, -, e6⟩ := hs.1 q (by omega) e
    rw [e6]
    have := h q q1 e
    omega
  · have := hc q (by omega) q2
    omega
theorem m_RK_nd {lo : Int → Int × Int} {a v l r R R' : Int} (h : m_RK lo a v R) (h1 : R ≤ R') (h2 : r ≤ R') : m_RK (t_up lo v l r) a (v + 1) R' := fun q q1 q2 => by
  by_cases e : q = v
  · rw [e, t_up_same]; exact h2
  · rw [t_up_ne e]
    have := h q q1 (by omega)
    omega
theorem m_RK_le {lo : Int → Int × Int} {a b R R' : Int} (h : m_RK lo a b R) (h1 : R ≤ R') : m_RK lo a b R' := fun q q1 q2 => by have := h q q1 q2; omega
theorem m_hw {lo : Int → Int × Int} {a v l r r' R : Int} (h : m_RK lo a v R) (h1 : R < r) : ∀ q, a ≤ q → q < v → (t_up lo v l r' q).2 < r := fun q q1 q2 => by
  rw [t_up_ne (by omega)]
  have := h q q1 q2
  omega
theorem m_hw2 {lo : Int → Int × Int} {a v l r r' R : Int} (h : m_RK lo a v R) (h1 : R ≤ r) : ∀ q, a ≤ q → q < v → (t_up lo v l r' q).2 ≤ r := fun q q1 q2 => by
  rw [t_up_ne (by omega)]
  have := h q q1 q2
  omega
