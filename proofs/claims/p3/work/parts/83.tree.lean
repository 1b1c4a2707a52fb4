/-! TREE of the class: nodes in windows, with ranks. -/
section CTree
def c_ChN (nx : Int → Int) (P : Int → Int → Int → Prop) : Nat → Int → Int → Int → Prop
  | 0 => fun n p q => n = -1 ∧ p ≤ q
  | k + 1 => fun n p q => ∃ r, p ≤ n ∧ n < r ∧ P n p r ∧ c_ChN nx P k (nx n) r q
def c_Ch (nx : Int → Int) (P : Int → Int → Int → Prop) (n p q : Int) : Prop := ∃ k, c_ChN nx P k n p q
theorem c_Ch.nil {nx : Int → Int} {P : Int → Int → Int → Prop} {p q : Int} (h : p ≤ q) : c_Ch nx P (-1) p q := ⟨0, rfl, h⟩
theorem c_Ch.cons {nx : Int → Int} {P : Int → Int → Int → Prop} {n p r q : Int} (h1 : p ≤ n) (h2 : n < r) (h3 : P n p r) (h4 : c_Ch nx P (nx n) r q) : c_Ch nx P n p q := by
  obtain ⟨k, h4⟩ := h4
  exact ⟨k + 1, r, h1, h2, h3, h4⟩
theorem c_Ch.ind {nx : Int → Int} {P : Int → Int → Int → Prop} (mo : Int → Int → Int → Prop) (nil : ∀ {p q : Int}, p ≤ q → mo (-1) p q) (cons : ∀ {n p r q : Int}, p ≤ n → n < r → P n p r → c_Ch nx P (nx n) r q → mo (nx n) r q → mo n p q) {n p q : Int} (h : c_Ch nx P n p q) : mo n p q := by
  obtain ⟨k, h⟩ := h
  induction k generalizing n p q with
  | zero => obtain ⟨rfl, h⟩ := h; exact nil h
  | succ k ih => obtain ⟨r, h1, h2, h3, h4⟩ := h; exact cons h1 h2 h3 ⟨k, h4⟩ (ih h4)
theorem c_Ch.casesX {nx : Int → Int} {P : Int → Int → Int → Prop} {n p q : Int} (h : c_Ch nx P n p q) : (n = -1 ∧ p ≤ q) ∨ ∃ r, p ≤ n ∧ n < r ∧ P n p r ∧ c_Ch nx P (nx n) r q := by
  obtain ⟨k, h⟩ := h
  cases k with
  | zero => exact Or.inl h
  | succ k => obtain ⟨r, h1, h2, h3, h4⟩ := h; exact Or.inr ⟨r, h1, h2, h3, k, h4⟩
/-- a chain up to its last node l -/
def c_ClN (nx : Int → Int) (P : Int → Int → Int → Prop) : Nat → Int → Int → Int → Int → Prop
  | 0 => fun n l p q => n = l ∧ p ≤ l ∧ l < q ∧ P l p q
  | k + 1 => fun n l p q => ∃ r, p ≤ n ∧ n < r ∧ P n p r ∧ c_ClN nx P k (nx n) l r q
def c_Cl (nx : Int → Int) (P : Int → Int → Int → Prop) (n l p q : Int) : Prop := ∃ k, c_ClN nx P k n l p q
theorem c_Cl.one {nx : Int → Int} {P : Int → Int → Int → Prop} {l p q : Int} (h1 : p ≤ l) (h2 : l < q) (h3 : P l p q) : c_Cl nx P l l p q := ⟨0, rfl, h1, h2, h3⟩
theorem c_Cl.cons {nx : Int → Int} {P : Int → Int → Int → Prop} {n l p r q : Int} (h1 : p ≤ n) (h2 : n < r) (h3 : P n p r) (h4 : c_Cl nx P (nx n) l r q) : c_Cl nx P n l p q := by
  obtain ⟨k, h4⟩ := h4
  exact ⟨k + 1, r, h1, h2, h3, h4⟩
theorem c_Cl.ind {nx : Int → Int} {P : Int → Int → Int → Prop} (mo : Int → Int → Int → Int → Prop) (one : ∀ {l p q : Int}, p ≤ l → l < q → P l p q → mo l l p q) (cons : ∀ {n l p r q : Int}, p ≤ n → n < r → P n p r → c_Cl nx P (nx n) l r q → mo (nx n) l r q → mo n l p q) {n l p q : Int} (h : c_Cl nx P n l p q) : mo n l p q := by
  obtain ⟨k, h⟩ := h
  induction k generalizing n p q with
  | zero => obtain ⟨rfl, h1, h2, h3⟩ := h; exact one h1 h2 h3
  | succ k ih => obtain ⟨r, h1, h2, h3, h4⟩ := h; exact cons h1 h2 h3 ⟨k, h4⟩ (ih h4)
def c_PrN (k a b : Int → Int) (R : Int → Int → Int → Prop) : Nat → Int → Int → Int → Prop
  | 0 => fun n p q => k n ≠ 7 ∧ R n p q
  | t + 1 => fun n p q => k n = 7 ∧ p ≤ n ∧ n < q ∧ R (a n) p n ∧ c_PrN k a b R t (b n) (n + 1) q
def c_Pr (k a b : Int → Int) (R : Int → Int → Int → Prop) (n p q : Int) : Prop := ∃ t, c_PrN k a b R t n p q
theorem c_Pr.last {k a b : Int → Int} {R : Int → Int → Int → Prop} {n p q : Int} (h1 : k n ≠ 7) (h2 : R n p q) : c_Pr k a b R n p q := ⟨0, h1, h2⟩
theorem c_Pr.cons {k a b : Int → Int} {R : Int → Int → Int → Prop} {n p q : Int} (h1 : k n = 7) (h2 : p ≤ n) (h3 : n < q) (h4 : R (a n) p n) (h5 : c_Pr k a b R (b n) (n + 1) q) : c_Pr k a b R n p q := by
  obtain ⟨t, h5⟩ := h5
  exact ⟨t + 1, h1, h2, h3, h4, h5⟩
theorem c_Pr.ind {k a b : Int → Int} {R : Int → Int → Int → Prop} (mo : Int → Int → Int → Prop) (last : ∀ {n p q : Int}, k n ≠ 7 → R n p q → mo n p q) (cons : ∀ {n p q : Int}, k n = 7 → p ≤ n → n < q → R (a n) p n → c_Pr k a b R (b n) (n + 1) q → mo (b n) (n + 1) q → mo n p q) {n p q : Int} (h : c_Pr k a b R n p q) : mo n p q := by
  obtain ⟨t, h⟩ := h
  induction t generalizing n p q with
  | zero => exact last h.1 h.2
  | succ t ih => obtain ⟨h1, h2, h3, h4, h5⟩ := h; exact cons h1 h2 h3 h4 ⟨t, h5⟩ (ih h5)
theorem c_Pr.casesX {k a b : Int → Int} {R : Int → Int → Int → Prop} {n p q : Int} (h : c_Pr k a b R n p q) : (k n ≠ 7 ∧ R n p q) ∨ (k n = 7 ∧ p ≤ n ∧ n < q ∧ R (a n) p n ∧ c_Pr k a b R (b n) (n + 1) q) := by
  obtain ⟨t, h⟩ := h
  cases t with
  | zero => exact Or.inl h
  | succ t => obtain ⟨h1, h2, h3, h4, h5⟩ := h; exact Or.inr ⟨h1, h2, h3, h4, t, h5⟩
/-- pairs down to the pair m, whose right side is still to come -/
def c_PxN (k a b : Int → Int) (R : Int → Int → Int → Prop) : Nat → Int → Int → Int → Prop
  | 0 => fun n m p => n = m ∧ k m = 7 ∧ p ≤ m ∧ R (a m) p m
  | t + 1 => fun n m p => k n = 7 ∧ p ≤ n ∧ n < m ∧ R (a n) p n ∧ c_PxN k a b R t (b n) m (n + 1)
def c_Px (k a b : Int → Int) (R : Int → Int → Int → Prop) (n m p : Int) : Prop := ∃ t, c_PxN k a b R t n m p
theorem c_Px.one {k a b : Int → Int} {R : Int → Int → Int → Prop} {m p : Int} (h1 : k m = 7) (h2 : p ≤ m) (h3 : R (a m) p m) : c_Px k a b R m m p := ⟨0, rfl, h1, h2, h3⟩
theorem c_Px.cons {k a b : Int → Int} {R : Int → Int → Int → Prop} {n m p : Int} (h1 : k n = 7) (h2 : p ≤ n) (h3 : n < m) (h4 : R (a n) p n) (h5 : c_Px k a b R (b n) m (n + 1)) : c_Px k a b R n m p := by
  obtain ⟨t, h5⟩ := h5
  exact ⟨t + 1, h1, h2, h3, h4, h5⟩
theorem c_Px.ind {k a b : Int → Int} {R : Int → Int → Int → Prop} (mo : Int → Int → Int → Prop) (one : ∀ {m p : Int}, k m = 7 → p ≤ m → R (a m) p m → mo m m p) (cons : ∀ {n m p : Int}, k n = 7 → p ≤ n → n < m → R (a n) p n → c_Px k a b R (b n) m (n + 1) → mo (b n) m (n + 1) → mo n m p) {n m p : Int} (h : c_Px k a b R n m p) : mo n m p := by
  obtain ⟨t, h⟩ := h
  induction t generalizing n p with
  | zero => obtain ⟨rfl, h1, h2, h3⟩ := h; exact one h1 h2 h3
  | succ t ih => obtain ⟨h1, h2, h3, h4, h5⟩ := h; exact cons h1 h2 h3 h4 ⟨t, h5⟩ (ih h5)
theorem c_Px.same {k a b : Int → Int} {R : Int → Int → Int → Prop} {m p : Int} (h : c_Px k a b R m m p) : k m = 7 ∧ p ≤ m ∧ R (a m) p m := by
  obtain ⟨t, h⟩ := h
  cases t with
  | zero => exact h.2
  | succ t => obtain ⟨h1, h2, h3, h4, h5⟩ := h; omega
def c_Op (k a b : Int → Int) (R : Int → Int → Int → Prop) (n p q : Int) : Prop := ∀ mo : Int → Int → Int → Prop, (∀ n p q, k n ≠ 8 → k n ≠ 9 → R n p q → mo n p q) → (∀ n p r s q, k n = 8 → mo (a n) p r → mo (b n) r s → s ≤ n → n < q → mo n p q) → (∀ n p r q, k n = 9 → mo (a n) p r → r ≤ n → n < q → mo n p q) → mo n p q
theorem c_Op.leaf {k a b : Int → Int} {R : Int → Int → Int → Prop} {n p q : Int} (h1 : k n ≠ 8) (h2 : k n ≠ 9) (h3 : R n p q) : c_Op k a b R n p q := fun _ f _ _ => f n p q h1 h2 h3
theorem c_Op.op {k a b : Int → Int} {R : Int → Int → Int → Prop} {n p r s q : Int} (h1 : k n = 8) (h2 : c_Op k a b R (a n) p r) (h3 : c_Op k a b R (b n) r s) (h4 : s ≤ n) (h5 : n < q) : c_Op k a b R n p q := fun mo f g h => g n p r s q h1 (h2 mo f g h) (h3 mo f g h) h4 h5
theorem c_Op.sel {k a b : Int → Int} {R : Int → Int → Int → Prop} {n p r q : Int} (h1 : k n = 9) (h2 : c_Op k a b R (a n) p r) (h3 : r ≤ n) (h4 : n < q) : c_Op k a b R n p q := fun mo f g h => h n p r q h1 (h2 mo f g h) h3 h4
theorem c_Op.ind {k a b : Int → Int} {R : Int → Int → Int → Prop} (mo : Int → Int → Int → Prop) (leaf : ∀ {n p q : Int}, k n ≠ 8 → k n ≠ 9 → R n p q → mo n p q) (op : ∀ {n p r s q : Int}, k n = 8 → c_Op k a b R (a n) p r → c_Op k a b R (b n) r s → s ≤ n → n < q → mo (a n) p r → mo (b n) r s → mo n p q) (sel : ∀ {n p r q : Int}, k n = 9 → c_Op k a b R (a n) p r → r ≤ n → n < q → mo (a n) p r → mo n p q) {n p q : Int} (h : c_Op k a b R n p q) : mo n p q :=
  (h (fun n p q => c_Op k a b R n p q ∧ mo n p q) (fun _ _ _ h1 h2 h3 => ⟨.leaf h1 h2 h3, leaf h1 h2 h3⟩) (fun _ _ _ _ _ h1 h2 h3 h4 h5 => ⟨.op h1 h2.1 h3.1 h4 h5, op h1 h2.1 h3.1 h4 h5 h2.2 h3.2⟩) (fun _ _ _ _ h1 h2 h3 h4 => ⟨.sel h1 h2.1 h3 h4, sel h1 h2.1 h3 h4 h2.2⟩)).2
theorem c_Op.casesX {k a b : Int → Int} {R : Int → Int → Int → Prop} {n p q : Int} (h : c_Op k a b R n p q) : (k n ≠ 8 ∧ k n ≠ 9 ∧ R n p q) ∨ (∃ r s, k n = 8 ∧ c_Op k a b R (a n) p r ∧ c_Op k a b R (b n) r s ∧ s ≤ n ∧ n < q) ∨ (∃ r, k n = 9 ∧ c_Op k a b R (a n) p r ∧ r ≤ n ∧ n < q) := by
  refine c_Op.ind (fun n p q => (k n ≠ 8 ∧ k n ≠ 9 ∧ R n p q) ∨ (∃ r s, k n = 8 ∧ c_Op k a b R (a n) p r ∧ c_Op k a b R (b n) r s ∧ s ≤ n ∧ n < q) ∨ (∃ r, k n = 9 ∧ c_Op k a b R (a n) p r ∧ r ≤ n ∧ n < q)) (fun h1 h2 h3 => Or.inl ⟨h1, h2, h3⟩) (fun {n p r s q} h1 h2 h3 h4 h5 _ _ => Or.inr (Or.inl ⟨r, s, h1, h2, h3, h4, h5⟩)) (fun {n p r q} h1 h2 h3 h4 _ => Or.inr (Or.inr ⟨r, h1, h2, h3, h4⟩)) h
def c_Bd (A : Nat → Int → Int) (R : Int → Int → Int → Prop) (n p q : Int) : Prop := p ≤ n ∧ n < q ∧ A 27 n = 25 ∧ ∃ r, c_Ch (A 31) R (A 28 n) p r ∧ r ≤ n ∧ (A 29 n = -1 ∨ R (A 29 n) r n)
def c_WN (A : Nat → Int → Int) (R : Int → Int → Int → Prop) (n p q : Int) : Prop :=
  (A 27 n = 5 → c_Ch (A 31) (fun f p _ => R (A 29 f) p f) (A 29 n) p n) ∧
  (A 27 n = 7 → c_Pr (A 27) (A 28) (A 29) R n p q) ∧
  (A 27 n = 8 ∨ A 27 n = 9 → c_Op (A 27) (A 28) (A 29) R n p q) ∧
  (A 27 n = 10 → c_Ch (A 31) R (A 28 n) p n) ∧
  (A 27 n = 11 ∨ A 27 n = 12 ∨ A 27 n = 13 → c_Bd A R (A 29 n) p n) ∧
  (A 27 n = 14 → ∃ r s, r ≤ s ∧ s ≤ n ∧ R (A 28 n) p r ∧ c_Bd A R (A 29 n) r s ∧ (A 30 n = -1 ∨ c_Bd A R (A 30 n) s n)) ∧
  (A 27 n = 15 → ∃ r s, r ≤ s ∧ s ≤ n ∧ R (A 28 n) p r ∧ c_Ch (A 31) (fun f p _ => A 27 f = 16 ∧ c_Bd A R (A 29 f) p f) (A 29 n) r s ∧ (A 30 n = -1 ∨ c_Bd A R (A 30 n) s n)) ∧
  (A 27 n = 19 → c_Bd A R (A 28 n) p n) ∧
  (A 27 n = 20 → ∃ r, r ≤ n ∧ c_Bd A R (A 28 n) p r ∧ c_Bd A R (A 29 n) r n) ∧
  (A 27 n = 21 ∨ A 27 n = 22 → R (A 28 n) p n) ∧
  (A 27 n = 23 → ∃ r, r ≤ n ∧ R (A 28 n) p r ∧ R (A 29 n) r n)
theorem c_WN.k5 {A : Nat → Int → Int} {R : Int → Int → Int → Prop} {n p q : Int} (h : c_WN A R n p q) : A 27 n = 5 → c_Ch (A 31) (fun f p _ => R (A 29 f) p f) (A 29 n) p n := h.1
theorem c_WN.k7 {A : Nat → Int → Int} {R : Int → Int → Int → Prop} {n p q : Int} (h : c_WN A R n p q) : A 27 n = 7 → c_Pr (A 27) (A 28) (A 29) R n p q := h.2.1
theorem c_WN.k8 {A : Nat → Int → Int} {R : Int → Int → Int → Prop} {n p q : Int} (h : c_WN A R n p q) : A 27 n = 8 ∨ A 27 n = 9 → c_Op (A 27) (A 28) (A 29) R n p q := h.2.2.1
theorem c_WN.k10 {A : Nat → Int → Int} {R : Int → Int → Int → Prop} {n p q : Int} (h : c_WN A R n p q) : A 27 n = 10 → c_Ch (A 31) R (A 28 n) p n := h.2.2.2.1
theorem c_WN.k11 {A : Nat → Int → Int} {R : Int → Int → Int → Prop} {n p q : Int} (h : c_WN A R n p q) : A 27 n = 11 ∨ A 27 n = 12 ∨ A 27 n = 13 → c_Bd A R (A 29 n) p n := h.2.2.2.2.1
theorem c_WN.k14 {A : Nat → Int → Int} {R : Int → Int → Int → Prop} {n p q : Int} (h : c_WN A R n p q) : A 27 n = 14 → ∃ r s, r ≤ s ∧ s ≤ n ∧ R (A 28 n) p r ∧ c_Bd A R (A 29 n) r s ∧ (A 30 n = -1 ∨ c_Bd A R (A 30 n) s n) := h.2.2.2.2.2.1
theorem c_WN.k15 {A : Nat → Int → Int} {R : Int → Int → Int → Prop} {n p q : Int} (h : c_WN A R n p q) : A 27 n = 15 → ∃ r s, r ≤ s ∧ s ≤ n ∧ R (A 28 n) p r ∧ c_Ch (A 31) (fun f p _ => A 27 f = 16 ∧ c_Bd A R (A 29 f) p f) (A 29 n) r s ∧ (A 30 n = -1 ∨ c_Bd A R (A 30 n) s n) := h.2.2.2.2.2.2.1
theorem c_WN.k19 {A : Nat → Int → Int} {R : Int → Int → Int → Prop} {n p q : Int} (h : c_WN A R n p q) : A 27 n = 19 → c_Bd A R (A 28 n) p n := h.2.2.2.2.2.2.2.1
theorem c_WN.k20 {A : Nat → Int → Int} {R : Int → Int → Int → Prop} {n p q : Int} (h : c_WN A R n p q) : A 27 n = 20 → ∃ r, r ≤ n ∧ c_Bd A R (A 28 n) p r ∧ c_Bd A R (A 29 n) r n := h.2.2.2.2.2.2.2.2.1
theorem c_WN.k21 {A : Nat → Int → Int} {R : Int → Int → Int → Prop} {n p q : Int} (h : c_WN A R n p q) : A 27 n = 21 ∨ A 27 n = 22 → R (A 28 n) p n := h.2.2.2.2.2.2.2.2.2.1
theorem c_WN.k23 {A : Nat → Int → Int} {R : Int → Int → Int → Prop} {n p q : Int} (h : c_WN A R n p q) : A 27 n = 23 → ∃ r, r ≤ n ∧ R (A 28 n) p r ∧ R (A 29 n) r n := h.2.2.2.2.2.2.2.2.2.2
def c_W (A : Nat → Int → Int) : Nat → Int → Int → Int → Prop
  | 0 => fun _ _ _ => False
  | i + 1 => fun n p q => p ≤ n ∧ n < q ∧ c_WN A (c_W A i) n p q
theorem c_W_in {A : Nat → Int → Int} {i : Nat} {n p q : Int} (h : c_W A i n p q) : p ≤ n ∧ n < q := by
  cases i with
  | zero => exact h.elim
  | succ i => exact ⟨h.1, h.2.1⟩
/-- two trees that are alike at [p, q) -/
def c_agr (A A' : Nat → Int → Int) (p q : Int) : Prop := ∀ m, p ≤ m → m < q → A' 27 m = A 27 m ∧ A' 28 m = A 28 m ∧ A' 29 m = A 29 m ∧ A' 30 m = A 30 m ∧ A' 31 m = A 31 m
def c_agx (A A' : Nat → Int → Int) (n p q : Int) : Prop := ∀ m, p ≤ m → m < q → A' 27 m = A 27 m ∧ A' 28 m = A 28 m ∧ A' 29 m = A 29 m ∧ A' 30 m = A 30 m ∧ (m ≠ n → A' 31 m = A 31 m)
theorem c_agr_sub {A A' : Nat → Int → Int} {p q p' q' : Int} (h : c_agr A A' p q) (h1 : p ≤ p') (h2 : q' ≤ q) : c_agr A A' p' q' := fun m a b => h m (by omega) (by omega)
theorem c_agr_x {A A' : Nat → Int → Int} {n p q : Int} (h : c_agr A A' p q) : c_agx A A' n p q := fun m a b => ⟨(h m a b).1, (h m a b).2.1, (h m a b).2.2.1, (h m a b).2.2.2.1, fun _ => (h m a b).2.2.2.2⟩
theorem c_agx_r {A A' : Nat → Int → Int} {n p q p' q' : Int} (h : c_agx A A' n p q) (h1 : p ≤ p') (h2 : q' ≤ q) (h3 : n < p' ∨ q' ≤ n) : c_agr A A' p' q' := fun m a b => by
  obtain ⟨g1, g2, g3, g4, g5⟩ := h m (by omega) (by omega)
  exact ⟨g1, g2, g3, g4, g5 (by omega)⟩
theorem c_agr_trans {A A' A'' : Nat → Int → Int} {p q : Int} (h : c_agr A A' p q) (g : c_agr A' A'' p q) : c_agr A A'' p q := fun m a b => by
  obtain ⟨g1, g2, g3, g4, g5⟩ := h m a b
  obtain ⟨f1, f2, f3, f4, f5⟩ := g m a b
  exact ⟨f1.trans g1, f2.trans g2, f3.trans g3, f4.trans g4, f5.trans g5⟩
theorem c_Ch_le {nx : Int → Int} {P : Int → Int → Int → Prop} {n p q : Int} (h : c_Ch nx P n p q) : p ≤ q := by
  refine c_Ch.ind (fun n p q => p ≤ q) (fun h => ?_) (fun h1 h2 h3 h4 ih => ?_) h
  · exact h
  · omega
theorem c_Cl_le {nx : Int → Int} {P : Int → Int → Int → Prop} {n l p q : Int} (h : c_Cl nx P n l p q) : p ≤ l ∧ l < q := by
  refine c_Cl.ind (fun n l p q => p ≤ l ∧ l < q) (fun h1 h2 h3 => ?_) (fun h1 h2 h3 h4 ih => ?_) h
  · exact ⟨h1, h2⟩
  · omega
/-- another tree, another relation of the kids -/
theorem c_Ch_map {nx nx' : Int → Int} {P P' : Int → Int → Int → Prop} {n p q : Int} (h : c_Ch nx P n p q) : (∀ m, p ≤ m → m < q → nx' m = nx m) → (∀ m p' r, p ≤ p' → r ≤ q → p' ≤ m → m < r → P m p' r → P' m p' r) → c_Ch nx' P' n p q := by
  refine c_Ch.ind (fun n p q => (∀ m, p ≤ m → m < q → nx' m = nx m) → (∀ m p' r, p ≤ p' → r ≤ q → p' ≤ m → m < r → P m p' r → P' m p' r) → c_Ch nx' P' n p q) (fun h => ?_) (fun {n p r q} h1 h2 h3 h4 ih => ?_) h
  · exact fun _ _ => .nil h
  · intro hn hP
    have hq := c_Ch_le h4
    refine .cons h1 h2 (hP n p r (by omega) (by omega) h1 h2 h3) ?_
    rw [hn n (by omega) (by omega)]
    exact ih (fun m a b => hn m (by omega) b) (fun m p' r' a b c d e => hP m p' r' (by omega) b c d e)
theorem c_Cl_map {nx nx' : Int → Int} {P P' : Int → Int → Int → Prop} {n l p q : Int} (h : c_Cl nx P n l p q) : (∀ m, p ≤ m → m < q → m ≠ l → nx' m = nx m) → (∀ m p' r, p ≤ p' → r ≤ q → p' ≤ m → m < r → P m p' r → P' m p' r) → c_Cl nx' P' n l p q := by
  refine c_Cl.ind (fun n l p q => (∀ m, p ≤ m → m < q → m ≠ l → nx' m = nx m) → (∀ m p' r, p ≤ p' → r ≤ q → p' ≤ m → m < r → P m p' r → P' m p' r) → c_Cl nx' P' n l p q) (fun h1 h2 h3 => ?_) (fun {n l p r q} h1 h2 h3 h4 ih => ?_) h
  · exact fun _ hP => .one h1 h2 (hP _ _ _ (by omega) (by omega) h1 h2 h3)
  · intro hn hP
    have hq := c_Cl_le h4
    refine .cons h1 h2 (hP n p r (by omega) (by omega) h1 h2 h3) ?_
    rw [hn n (by omega) (by omega) (by omega)]
    exact ih (fun m a b => hn m (by omega) b) (fun m p' r' a b c d e => hP m p' r' (by omega) b c d e)
/-- the chain's end -/
theorem c_Cl_end {nx : Int → Int} {P : Int → Int → Int → Prop} {n l p q : Int} (h : c_Cl nx P n l p q) : nx l = -1 → c_Ch nx P n p q := by
  refine c_Cl.ind (fun n l p q => nx l = -1 → c_Ch nx P n p q) (fun h1 h2 h3 => ?_) (fun h1 h2 h3 h4 ih => ?_) h
  · exact fun e => .cons h1 h2 h3 (by rw [e]; exact .nil (by omega))
  · exact fun e => .cons h1 h2 h3 (ih e)
/-- one node more at the end -/
theorem c_Cl_app {nx : Int → Int} {P : Int → Int → Int → Prop} {n l p q v r : Int} (h : c_Cl nx P n l p q) : nx l = v → q ≤ v → v < r → P v q r → c_Cl nx P n v p r := by
  refine c_Cl.ind (fun n l p q => nx l = v → q ≤ v → v < r → P v q r → c_Cl nx P n v p r) (fun h1 h2 h3 => ?_) (fun h1 h2 h3 h4 ih => ?_) h
  · exact fun e a b c => .cons h1 h2 h3 (by rw [e]; exact .one a b c)
  · exact fun e a b c => .cons h1 h2 h3 (ih e a b c)
theorem c_Pr_map {k a b k' a' b' : Int → Int} {R R' : Int → Int → Int → Prop} {n p q : Int} (h : c_Pr k a b R n p q) : (∀ m p' q', R m p' q' → p' ≤ m ∧ m < q') → (∀ m, p ≤ m → m < q → k' m = k m ∧ a' m = a m ∧ b' m = b m) → (∀ m p' q', p ≤ p' → q' ≤ q → R m p' q' → R' m p' q') → c_Pr k' a' b' R' n p q := by
  refine c_Pr.ind (fun n p q => (∀ m p' q', R m p' q' → p' ≤ m ∧ m < q') → (∀ m, p ≤ m → m < q → k' m = k m ∧ a' m = a m ∧ b' m = b m) → (∀ m p' q', p ≤ p' → q' ≤ q → R m p' q' → R' m p' q') → c_Pr k' a' b' R' n p q) (fun {n p q} h1 h2 => ?_) (fun {n p q} h1 h2 h3 h4 h5 ih => ?_) h
  · intro hi hk hR
    have := hi _ _ _ h2
    exact .last (by rw [(hk n this.1 this.2).1]; exact h1) (hR _ _ _ (by omega) (by omega) h2)
  · intro hi hk hR
    obtain ⟨e1, e2, e3⟩ := hk n h2 h3
    refine .cons (by rw [e1]; exact h1) h2 h3 (by rw [e2]; exact hR _ _ _ (by omega) (by omega) h4) ?_
    rw [e3]
    exact ih hi (fun m c d => hk m (by omega) d) (fun m p' q' c d e => hR m p' q' (by omega) d e)
theorem c_Px_le {k a b : Int → Int} {R : Int → Int → Int → Prop} {n m p : Int} (h : c_Px k a b R n m p) : p ≤ n ∧ n ≤ m ∧ k n = 7 := by
  refine c_Px.ind (fun n m p => p ≤ n ∧ n ≤ m ∧ k n = 7) (fun h1 h2 h3 => ?_) (fun h1 h2 h3 h4 h5 ih => ?_) h
  · exact ⟨h2, by omega, h1⟩
  · exact ⟨h2, by omega, h1⟩
theorem c_Px_map {k a b k' a' b' : Int → Int} {R R' : Int → Int → Int → Prop} {n m p : Int} (h : c_Px k a b R n m p) : (∀ j, p ≤ j → j ≤ m → k' j = k j ∧ a' j = a j ∧ (j ≠ m → b' j = b j)) → (∀ j p' q', p ≤ p' → q' ≤ m → R j p' q' → R' j p' q') → c_Px k' a' b' R' n m p := by
  refine c_Px.ind (fun n m p => (∀ j, p ≤ j → j ≤ m → k' j = k j ∧ a' j = a j ∧ (j ≠ m → b' j = b j)) → (∀ j p' q', p ≤ p' → q' ≤ m → R j p' q' → R' j p' q') → c_Px k' a' b' R' n m p) (fun {m p} h1 h2 h3 => ?_) (fun {n m p} h1 h2 h3 h4 h5 ih => ?_) h
  · intro hk hR
    obtain ⟨e1, e2, e3⟩ := hk m h2 (by omega)
    exact .one (by rw [e1]; exact h1) h2 (by rw [e2]; exact hR _ _ _ (by omega) (by omega) h3)
  · intro hk hR
    obtain ⟨e1, e2, e3⟩ := hk n h2 (by omega)
    refine .cons (by rw [e1]; exact h1) h2 h3 (by rw [e2]; exact hR _ _ _ (by omega) (by omega) h4) ?_
    rw [e3 (by omega)]
    exact ih (fun j c d => hk j (by omega) d) (fun j p' q' c d e => hR j p' q' (by omega) d e)
theorem c_Px_end {k a b : Int → Int} {R : Int → Int → Int → Prop} {n m p : Int} (h : c_Px k a b R n m p) {q : Int} : c_Pr k a b R (b m) (m + 1) q → m < q → c_Pr k a b R n p q := by
  refine c_Px.ind (fun n m p => c_Pr k a b R (b m) (m + 1) q → m < q → c_Pr k a b R n p q) (fun h1 h2 h3 => ?_) (fun h1 h2 h3 h4 h5 ih => ?_) h
  · exact fun g hq => .cons h1 h2 hq h3 g
  · exact fun g hq => .cons h1 h2 (by omega) h4 (ih g hq)
theorem c_Px_app {k a b : Int → Int} {R : Int → Int → Int → Prop} {n m p v : Int} (h : c_Px k a b R n m p) : b m = v → k v = 7 → m < v → R (a v) (m + 1) v → c_Px k a b R n v p := by
  refine c_Px.ind (fun n m p => b m = v → k v = 7 → m < v → R (a v) (m + 1) v → c_Px k a b R n v p) (fun h1 h2 h3 => ?_) (fun h1 h2 h3 h4 h5 ih => ?_) h
  · exact fun e a b c => .cons h1 h2 b h3 (by rw [e]; exact .one a (by omega) c)
  · exact fun e a b c => .cons h1 h2 (by omega) h4 (ih e a b c)
theorem c_Op_in {k a b : Int → Int} {R : Int → Int → Int → Prop} (hi : ∀ m p' q', R m p' q' → p' ≤ m ∧ m < q') {n p q : Int} (h : c_Op k a b R n p q) : p ≤ n ∧ n < q := by
  refine c_Op.ind (fun n p q => p ≤ n ∧ n < q) (fun h1 h2 h3 => ?_) (fun h1 h2 h3 h4 h5 ih1 ih2 => ?_) (fun h1 h2 h3 h4 ih => ?_) h
  · exact hi _ _ _ h3
  · omega
  · omega
theorem c_Op_map {k a b k' a' b' : Int → Int} {R R' : Int → Int → Int → Prop} (hi : ∀ m p' q', R m p' q' → p' ≤ m ∧ m < q') {n p q : Int} (h : c_Op k a b R n p q) : (∀ m, p ≤ m → m < q → k' m = k m ∧ a' m = a m ∧ b' m = b m) → (∀ m p' q', p ≤ p' → q' ≤ q → R m p' q' → R' m p' q') → c_Op k' a' b' R' n p q := by
  refine c_Op.ind (fun n p q => (∀ m, p ≤ m → m < q → k' m = k m ∧ a' m = a m ∧ b' m = b m) → (∀ m p' q', p ≤ p' → q' ≤ q → R m p' q' → R' m p' q') → c_Op k' a' b' R' n p q) (fun {n p q} h1 h2 h3 => ?_) (fun {n p r s q} h1 h2 h3 h4 h5 ih1 ih2 => ?_) (fun {n p r q} h1 h2 h3 h4 ih => ?_) h
  · intro hk hR
    have := hi _ _ _ h3
    obtain ⟨e1, e2, e3⟩ := hk n this.1 this.2
    exact .leaf (by rw [e1]; exact h1) (by rw [e1]; exact h2) (hR _ _ _ (by omega) (by omega) h3)
  · intro hk hR
    have g1 := c_Op_in hi h2
    have g2 := c_Op_in hi h3
    obtain ⟨e1, e2, e3⟩ := hk n (by omega) h5
    exact .op (r := r) (s := s) (by rw [e1]; exact h1) (by rw [e2]; exact ih1 (fun m c d => hk m c (by omega)) (fun m p' q' c d e => hR m p' q' c (by omega) e)) (by rw [e3]; exact ih2 (fun m c d => hk m (by omega) (by omega)) (fun m p' q' c d e => hR m p' q' (by omega) (by omega) e)) h4 h5
  · intro hk hR
    have g1 := c_Op_in hi h2
    obtain ⟨e1, e2, e3⟩ := hk n (by omega) h4
    exact .sel (r := r) (by rw [e1]; exact h1) (by rw [e2]; exact ih (fun m c d => hk m c (by omega)) (fun m p' q' c d e => hR m p' q' c (by omega) e)) h3 h4
theorem c_Bd_map {A A' : Nat → Int → Int} {R R' : Int → Int → Int → Prop} {n p q : Int} (h : c_Bd A R n p q) (ha : c_agr A A' p q) (hR : ∀ m p' q', p ≤ p' → q' ≤ q → R m p' q' → R' m p' q') : c_Bd A' R' n p q := by
  obtain ⟨h1, h2, h3, r, h4, h5, h6⟩ := h
  obtain ⟨e1, e2, e3, e4, e5⟩ := ha n h1 h2
  refine ⟨h1, h2, by rw [e1]; exact h3, r, ?_, h5, ?_⟩
  · rw [e2]
    exact c_Ch_map h4 (fun m a b => (ha m a (by omega)).2.2.2.2) (fun m p' q' a b c d e => hR m p' q' a (by omega) e)
  · rw [e3]
    have := c_Ch_le h4
    exact h6.imp_right (fun g => hR _ _ _ (by omega) (by omega) g)
theorem c_WN_map {A A' : Nat → Int → Int} {R R' : Int → Int → Int → Prop} (hi : ∀ m p' q', R m p' q' → p' ≤ m ∧ m < q') {n p q : Int} (hn : p ≤ n ∧ n < q) (h : c_WN A R n p q) (ha : c_agx A A' n p q) (hR : ∀ m p' q', p ≤ p' → q' ≤ q → (n < p' ∨ q' ≤ n) → R m p' q' → R' m p' q') : c_WN A' R' n p q := by
  obtain ⟨hn1, hn2⟩ := hn
  obtain ⟨e1, e2, e3, e4, -⟩ := ha n hn1 hn2
  have hr : c_agr A A' p n := c_agx_r ha (by omega) (by omega) (by omega)
  have hB : ∀ x p' q', p ≤ p' → q' ≤ n → c_Bd A R x p' q' → c_Bd A' R' x p' q' := fun x p' q' a b g => c_Bd_map g (c_agr_sub hr a b) (fun m p'' q'' c d e => hR m p'' q'' (by omega) (by omega) (by omega) e)
  have hE : ∀ x p' q', p ≤ p' → q' ≤ n → R x p' q' → R' x p' q' := fun x p' q' a b g => hR x p' q' a (by omega) (by omega) g
  refine ⟨?_, ?_, ?_, ?_, ?_, ?_, ?_, ?_, ?_, ?_, ?_⟩
  · intro h0; rw [e1] at h0; rw [e3]
    exact c_Ch_map (h.k5 h0) (fun m a b => (hr m a b).2.2.2.2) (fun m p' r a b c d e => by
      show R' (A' 29 m) p' m
      rw [(hr m (by omega) (by omega)).2.2.1]; exact hE _ _ _ a (by omega) e)
  · intro h0; rw [e1] at h0
    rcases (h.k7 h0).casesX with ⟨g1, g2⟩ | ⟨g1, g2, g3, g4, g5⟩
    · exact absurd h0 g1
    · refine c_Pr.cons (by rw [e1]; exact h0) g2 g3 (by rw [e2]; exact hE _ _ _ (by omega) (by omega) g4) ?_
      rw [e3]
      exact c_Pr_map g5 hi (fun m a b => ⟨(ha m (by omega) b).1, (ha m (by omega) b).2.1, (ha m (by omega) b).2.2.1⟩) (fun m p' q' a b e => hR m p' q' (by omega) b (by omega) e)
  · intro h0; rw [e1] at h0
    rcases (h.k8 h0).casesX with ⟨g1, g2, g3⟩ | ⟨r, t, g1, g2, g3, g4, g5⟩ | ⟨r, g1, g2, g3, g4⟩
    · exact absurd h0 (by omega)
    ·
      have q1 := c_Op_in hi g2
      have q2 := c_Op_in hi g3
      exact c_Op.op (by rw [e1]; exact g1) (by rw [e2]; exact c_Op_map hi g2 (fun m a b => ⟨(hr m a (by omega)).1, (hr m a (by omega)).2.1, (hr m a (by omega)).2.2.1⟩) (fun m p' q' a b e => hE m p' q' a (by omega) e)) (by rw [e3]; exact c_Op_map hi g3 (fun m a b => ⟨(hr m (by omega) (by omega)).1, (hr m (by omega) (by omega)).2.1, (hr m (by omega) (by omega)).2.2.1⟩) (fun m p' q' a b e => hE m p' q' (by omega) (by omega) e)) g4 g5
    ·
      have q1 := c_Op_in hi g2
      exact c_Op.sel (by rw [e1]; exact g1) (by rw [e2]; exact c_Op_map hi g2 (fun m a b => ⟨(hr m a (by omega)).1, (hr m a (by omega)).2.1, (hr m a (by omega)).2.2.1⟩) (fun m p' q' a b e => hE m p' q' a (by omega) e)) g3 g4
  · intro h0; rw [e1] at h0; rw [e2]
    exact c_Ch_map (h.k10 h0) (fun m a b => (hr m a b).2.2.2.2) (fun m p' r a b c d e => hE _ _ _ a b e)
  · intro h0; rw [e1] at h0; rw [e3]
    exact hB _ _ _ (by omega) (by omega) (h.k11 h0)
  · intro h0; rw [e1] at h0; rw [e2, e3, e4]
    obtain ⟨r, s, g1, g2, g3, g4, g5⟩ := h.k14 h0
    have q1 := hi _ _ _ g3
    exact ⟨r, s, g1, g2, hE _ _ _ (by omega) (by omega) g3, hB _ _ _ (by omega) (by omega) g4, g5.imp_right (fun g => hB _ _ _ (by omega) (by omega) g)⟩
  · intro h0; rw [e1] at h0; rw [e2, e3, e4]
    obtain ⟨r, s, g1, g2, g3, g4, g5⟩ := h.k15 h0
    have q1 := hi _ _ _ g3
    refine ⟨r, s, g1, g2, hE _ _ _ (by omega) (by omega) g3, c_Ch_map g4 (fun m a b => (hr m (by omega) (by omega)).2.2.2.2) (fun m p' r a b c d e => ?_), g5.imp_right (fun g => hB _ _ _ (by omega) (by omega) g)⟩
    obtain ⟨e6, -, e7, -⟩ := hr m (by omega) (by omega)
    show A' 27 m = 16 ∧ c_Bd A' R' (A' 29 m) p' m
    rw [e6, e7]
    exact ⟨e.1, hB _ _ _ (by omega) (by omega) e.2⟩
  · intro h0; rw [e1] at h0; rw [e2]
    exact hB _ _ _ (by omega) (by omega) (h.k19 h0)
  · intro h0; rw [e1] at h0; rw [e2, e3]
    obtain ⟨r, g1, g2, g3⟩ := h.k20 h0
    have q1 := g2.1
    have q2 := g2.2.1
    exact ⟨r, g1, hB _ _ _ (by omega) (by omega) g2, hB _ _ _ (by omega) (by omega) g3⟩
  · intro h0; rw [e1] at h0; rw [e2]
    exact hE _ _ _ (by omega) (by omega) (h.k21 h0)
  · intro h0; rw [e1] at h0; rw [e2, e3]
    obtain ⟨r, g1, g2, g3⟩ := h.k23 h0
    have q1 := hi _ _ _ g2
    exact ⟨r, g1, hE _ _ _ (by omega) (by omega) g2, hE _ _ _ (by omega) (by omega) g3⟩
theorem c_W_fr {A A' : Nat → Int → Int} : ∀ {i : Nat} {n p q : Int}, c_W A i n p q → c_agx A A' n p q → c_W A' i n p q
  | 0, _, _, _, h, _ => h.elim
  | _ + 1, _, _, _, h, ha => ⟨h.1, h.2.1, c_WN_map (fun _ _ _ g => c_W_in g) ⟨h.1, h.2.1⟩ h.2.2 ha (fun _ _ _ a b c g => c_W_fr g (c_agr_x (c_agx_r ha a b c)))⟩
theorem c_W_up1 {A : Nat → Int → Int} : ∀ {i : Nat} {n p q : Int}, c_W A i n p q → c_W A (i + 1) n p q
  | 0, _, _, _, h => h.elim
  | _ + 1, _, _, _, h => ⟨h.1, h.2.1, c_WN_map (fun _ _ _ g => c_W_in g) ⟨h.1, h.2.1⟩ h.2.2 (c_agr_x (fun _ _ _ => ⟨rfl, rfl, rfl, rfl, rfl⟩)) (fun _ _ _ _ _ _ g => c_W_up1 g)⟩
theorem c_W_up {A : Nat → Int → Int} {i j : Nat} {n p q : Int} (h : c_W A i n p q) (hj : i ≤ j) : c_W A j n p q := by
  obtain ⟨t, rfl⟩ : ∃ t, j = i + t := ⟨j - i, by omega⟩
  clear hj
  induction t with
  | zero => exact h
  | succ t ih => exact c_W_up1 ih
/-- a wider window -/
theorem c_Ch_win {nx : Int → Int} {P : Int → Int → Int → Prop} (hP : ∀ m p q p', P m p q → p' ≤ p → P m p' q) {n p q : Int} (h : c_Ch nx P n p q) {p' q' : Int} (h1 : p' ≤ p) (h2 : q ≤ q') : c_Ch nx P n p' q' :=
  c_Ch.ind (fun n p q => ∀ p', p' ≤ p → q ≤ q' → c_Ch nx P n p' q') (fun h _ h1 h2 => .nil (by omega)) (fun g1 g2 g3 _ ih _ h1 h2 => .cons (by omega) g2 (hP _ _ _ _ g3 h1) (ih _ (Int.le_refl _) h2)) h p' h1 h2
theorem c_Pr_win {k a b : Int → Int} {R : Int → Int → Int → Prop} (hR : ∀ m p q p' q', R m p q → p' ≤ p → q ≤ q' → R m p' q') {n p q : Int} (h : c_Pr k a b R n p q) {p' q' : Int} (h1 : p' ≤ p) (h2 : q ≤ q') : c_Pr k a b R n p' q' :=
  c_Pr.ind (fun n p q => ∀ p', p' ≤ p → q ≤ q' → c_Pr k a b R n p' q') (fun g1 g2 _ h1 h2 => .last g1 (hR _ _ _ _ _ g2 h1 h2)) (fun g1 g2 g3 g4 _ ih _ h1 h2 => .cons g1 (by omega) (by omega) (hR _ _ _ _ _ g4 h1 (Int.le_refl _)) (ih _ (Int.le_refl _) h2)) h p' h1 h2
theorem c_Op_win {k a b : Int → Int} {R : Int → Int → Int → Prop} (hR : ∀ m p q p' q', R m p q → p' ≤ p → q ≤ q' → R m p' q') {n p q : Int} (h : c_Op k a b R n p q) {p' q' : Int} (h1 : p' ≤ p) (h2 : q ≤ q') : c_Op k a b R n p' q' :=
  c_Op.ind (fun n p q => ∀ p' q', p' ≤ p → q ≤ q' → c_Op k a b R n p' q') (fun g1 g2 g3 _ _ h1 h2 => .leaf g1 g2 (hR _ _ _ _ _ g3 h1 h2)) (fun g1 _ g3 g4 g5 ih1 _ _ _ h1 h2 => .op g1 (ih1 _ _ h1 (Int.le_refl _)) g3 g4 (by omega)) (fun g1 _ g3 g4 ih _ _ h1 h2 => .sel g1 (ih _ _ h1 (Int.le_refl _)) g3 (by omega)) h p' q' h1 h2
theorem c_Bd_win {A : Nat → Int → Int} {R : Int → Int → Int → Prop} (hR : ∀ m p q p' q', R m p q → p' ≤ p → q ≤ q' → R m p' q') {n p q p' q' : Int} (h : c_Bd A R n p q) (h1 : p' ≤ p) (h2 : q ≤ q') : c_Bd A R n p' q' := by
  obtain ⟨g1, g2, g3, r, g4, g5, g6⟩ := h
  exact ⟨by omega, by omega, g3, r, c_Ch_win (P := R) (fun m p q p' a b => hR _ _ _ _ _ a b (Int.le_refl _)) g4 h1 (Int.le_refl _), g5, g6⟩
theorem c_W_win {A : Nat → Int → Int} : ∀ {i : Nat} {n p q p' q' : Int}, c_W A i n p q → p' ≤ p → q ≤ q' → c_W A i n p' q'
  | 0, _, _, _, _, _, h, _, _ => h.elim
  | i + 1, n, p, q, p', q', h, h1, h2 => by
    have hR : ∀ m p q p' q', c_W A i m p q → p' ≤ p → q ≤ q' → c_W A i m p' q' := fun m p q p' q' g a b => c_W_win g a b
    obtain ⟨g1, g2, g⟩ := h
    refine ⟨by omega, by omega, ?_⟩
    refine ⟨?_, ?_, ?_, ?_, ?_, ?_, ?_, ?_, ?_, ?_, ?_⟩
    · exact fun h0 => c_Ch_win (P := fun f p _ => c_W A i (A 29 f) p f) (fun m p q p' a b => hR _ _ _ _ _ a b (Int.le_refl _)) (g.k5 h0) h1 (Int.le_refl _)
    · exact fun h0 => c_Pr_win hR (g.k7 h0) h1 h2
    · exact fun h0 => c_Op_win hR (g.k8 h0) h1 h2
    · exact fun h0 => c_Ch_win (P := c_W A i) (fun m p q p' a b => hR _ _ _ _ _ a b (Int.le_refl _)) (g.k10 h0) h1 (Int.le_refl _)
    · exact fun h0 => c_Bd_win hR (g.k11 h0) h1 (Int.le_refl _)
    · intro h0
      obtain ⟨r, s, f1, f2, f3, f4, f5⟩ := g.k14 h0
      exact ⟨r, s, f1, f2, hR _ _ _ _ _ f3 h1 (Int.le_refl _), f4, f5⟩
    · intro h0
      obtain ⟨r, s, f1, f2, f3, f4, f5⟩ := g.k15 h0
      exact ⟨r, s, f1, f2, hR _ _ _ _ _ f3 h1 (Int.le_refl _), f4, f5⟩
    · exact fun h0 => c_Bd_win hR (g.k19 h0) h1 (Int.le_refl _)
    · intro h0
      obtain ⟨r, f1, f2, f3⟩ := g.k20 h0
      exact ⟨r, f1, c_Bd_win hR f2 h1 (Int.le_refl _), f3⟩
    · exact fun h0 => hR _ _ _ _ _ (g.k21 h0) h1 (Int.le_refl _)
    · intro h0
      obtain ⟨r, f1, f2, f3⟩ := g.k23 h0
      exact ⟨r, f1, hR _ _ _ _ _ f2 h1 (Int.le_refl _), f3⟩
end CTree
section CTree2
/-- alike below n -/
def c_agl (A A' : Nat → Int → Int) (n : Int) : Prop := ∀ m, 0 ≤ m → m < n → A' 27 m = A 27 m ∧ A' 28 m = A 28 m ∧ A' 29 m = A 29 m ∧ A' 30 m = A 30 m ∧ A' 31 m = A 31 m
theorem c_agl_refl {A : Nat → Int → Int} {n : Int} : c_agl A A n := fun _ _ _ => ⟨rfl, rfl, rfl, rfl, rfl⟩
theorem c_agl_trans {A A' A'' : Nat → Int → Int} {n n' : Int} (h : c_agl A A' n) (g : c_agl A' A'' n') (hn : n ≤ n') : c_agl A A'' n := fun m a b => by
  obtain ⟨g1, g2, g3, g4, g5⟩ := h m a b
  obtain ⟨f1, f2, f3, f4, f5⟩ := g m a (by omega)
  exact ⟨f1.trans g1, f2.trans g2, f3.trans g3, f4.trans g4, f5.trans g5⟩
theorem c_agl_r {A A' : Nat → Int → Int} {n p q : Int} (h : c_agl A A' n) (hp : 0 ≤ p) (hq : q ≤ n) : c_agr A A' p q := fun m a b => h m (by omega) (by omega)
/-- a node more -/
def c_mk (A A' : Nat → Int → Int) (n kd a b c : Int) : Prop := c_agl A A' n ∧ A' 27 n = kd ∧ A' 28 n = a ∧ A' 29 n = b ∧ A' 30 n = c ∧ A' 31 n = -1
theorem c_W_agl {A A' : Nat → Int → Int} {i : Nat} {v p q n : Int} (w : c_W A i v p q) (h : c_agl A A' n) (hp : 0 ≤ p) (hq : q ≤ n) : c_W A' i v p q := c_W_fr w (c_agr_x (c_agl_r h hp hq))
theorem c_Bd_agl {A A' : Nat → Int → Int} {i : Nat} {v p q n : Int} (w : c_Bd A (c_W A i) v p q) (h : c_agl A A' n) (hp : 0 ≤ p) (hq : q ≤ n) : c_Bd A' (c_W A' i) v p q := c_Bd_map w (c_agl_r h hp hq) (fun _ _ _ a b g => c_W_agl g h (by omega) (by omega))
theorem c_Bd_up {A : Nat → Int → Int} {i j : Nat} {v p q : Int} (w : c_Bd A (c_W A i) v p q) (h : i ≤ j) : c_Bd A (c_W A j) v p q := c_Bd_map w (fun _ _ _ => ⟨rfl, rfl, rfl, rfl, rfl⟩) (fun _ _ _ _ _ g => c_W_up g h)
def c_OpA (A : Nat → Int → Int) (i : Nat) : Int → Int → Int → Prop := c_Op (A 27) (A 28) (A 29) (c_W A i)
def c_PrA (A : Nat → Int → Int) (i : Nat) : Int → Int → Int → Prop := c_Pr (A 27) (A 28) (A 29) (c_W A i)
def c_PxA (A : Nat → Int → Int) (i : Nat) : Int → Int → Int → Prop := c_Px (A 27) (A 28) (A 29) (c_W A i)
theorem c_OpA_agl {A A' : Nat → Int → Int} {i : Nat} {v p q n : Int} (w : c_OpA A i v p q) (h : c_agl A A' n) (hp : 0 ≤ p) (hq : q ≤ n) : c_OpA A' i v p q := c_Op_map (fun _ _ _ g => c_W_in g) w (fun m a b => ⟨(h m (by omega) (by omega)).1, (h m (by omega) (by omega)).2.1, (h m (by omega) (by omega)).2.2.1⟩) (fun _ _ _ a b g => c_W_agl g h (by omega) (by omega))
theorem c_OpA_win {A : Nat → Int → Int} {i : Nat} {v p q p' q' : Int} (w : c_OpA A i v p q) (h1 : p' ≤ p) (h2 : q ≤ q') : c_OpA A i v p' q' := c_Op_win (R := c_W A i) (fun _ _ _ _ _ g a b => c_W_win g a b) w h1 h2
theorem c_OpA_in {A : Nat → Int → Int} {i : Nat} {v p q : Int} (w : c_OpA A i v p q) : p ≤ v ∧ v < q := c_Op_in (fun _ _ _ g => c_W_in g) w
theorem c_OpA_leaf {A : Nat → Int → Int} {i : Nat} {v p q : Int} (w : c_W A i v p q) : c_OpA A i v p q ∨ c_OpA A i v p q := by
  cases i with
  | zero => exact w.elim
  | succ i =>
    by_cases h : A 27 v = 8 ∨ A 27 v = 9
    · exact Or.inl (c_Op_map (fun _ _ _ g => c_W_in g) (w.2.2.k8 h) (fun _ _ _ => ⟨rfl, rfl, rfl⟩) (fun _ _ _ _ _ g => c_W_up1 g))
    · exact Or.inl (.leaf (fun e => h (Or.inl e)) (fun e => h (Or.inr e)) w)
theorem c_OpA_of {A : Nat → Int → Int} {i : Nat} {v p q : Int} (w : c_W A i v p q) : c_OpA A i v p q := (c_OpA_leaf w).elim id id
theorem c_OpA_W {A : Nat → Int → Int} {i : Nat} {v p q : Int} (w : c_OpA A i v p q) : c_W A (i + 1) v p q := by
  have hv := c_OpA_in w
  rcases c_Op.casesX w with ⟨h1, h2, h3⟩ | ⟨r, t, h1, h2, h3, h4, h5⟩ | ⟨r, h1, h2, h3, h4⟩
  · exact c_W_up1 h3
  · exact ⟨hv.1, hv.2, by refine ⟨?_, ?_, ?_, ?_, ?_, ?_, ?_, ?_, ?_, ?_, ?_⟩ <;> intro h0 <;> first | exact c_Op.op h1 h2 h3 h4 h5 | (exfalso; omega)⟩
  · exact ⟨hv.1, hv.2, by refine ⟨?_, ?_, ?_, ?_, ?_, ?_, ?_, ?_, ?_, ?_, ?_⟩ <;> intro h0 <;> first | exact c_Op.sel h1 h2 h3 h4 | (exfalso; omega)⟩
theorem c_OpA_mk8 {A A' : Nat → Int → Int} {i : Nat} {n a b c p r s : Int} (h : c_mk A A' n 8 a b c) (w1 : c_OpA A i a p r) (w2 : c_OpA A i b r s) (hp : 0 ≤ p) (hs : s ≤ n) : c_OpA A' i n p (n + 1) := by
  obtain ⟨h0, h1, h2, h3, h4, h5⟩ := h
  have i1 := c_OpA_in w1
  have i2 := c_OpA_in w2
  refine .op (r := r) (s := s) h1 ?_ ?_ hs (by omega)
  · rw [h2]; exact c_OpA_agl w1 h0 hp (by omega)
  · rw [h3]; exact c_OpA_agl w2 h0 (by omega) hs
theorem c_OpA_mk9 {A A' : Nat → Int → Int} {i : Nat} {n a b c p r : Int} (h : c_mk A A' n 9 a b c) (w1 : c_OpA A i a p r) (hp : 0 ≤ p) (hs : r ≤ n) : c_OpA A' i n p (n + 1) := by
  obtain ⟨h0, h1, h2, h3, h4, h5⟩ := h
  refine .sel (r := r) h1 ?_ hs (by omega)
  rw [h2]; exact c_OpA_agl w1 h0 hp (by omega)
/-- the one next pointer at l -/
def c_nxw (A A' : Nat → Int → Int) (l v : Int) : Prop := A' 27 = A 27 ∧ A' 28 = A 28 ∧ A' 29 = A 29 ∧ A' 30 = A 30 ∧ (∀ m, m ≠ l → A' 31 m = A 31 m) ∧ (0 ≤ l → l < 3016 → A' 31 l = v) ∧ (l < 0 → A' 31 = A 31)
def c_bw (A A' : Nat → Int → Int) (l v : Int) : Prop := A' 27 = A 27 ∧ A' 28 = A 28 ∧ A' 30 = A 30 ∧ A' 31 = A 31 ∧ (∀ m, m ≠ l → A' 29 m = A 29 m) ∧ (0 ≤ l → l < 3016 → A' 29 l = v)
theorem c_agl_nxw {A A' : Nat → Int → Int} {l v n : Int} (h : c_nxw A A' l v) (hn : n ≤ l ∨ l < 0) : c_agl A A' n := fun m a b => by
  obtain ⟨h1, h2, h3, h4, h5, h6, h7⟩ := h
  exact ⟨by rw [h1], by rw [h2], by rw [h3], by rw [h4], h5 m (by omega)⟩
theorem c_agl_bw {A A' : Nat → Int → Int} {l v n : Int} (h : c_bw A A' l v) (hn : n ≤ l ∨ l < 0) : c_agl A A' n := fun m a b => by
  obtain ⟨h1, h2, h3, h4, h5, h6⟩ := h
  exact ⟨by rw [h1], by rw [h2], h5 m (by omega), by rw [h3], by rw [h4]⟩
theorem c_nxw_x {A A' : Nat → Int → Int} {l v p q : Int} (h : c_nxw A A' l v) : c_agx A A' l p q := fun m _ _ => by
  obtain ⟨h1, h2, h3, h4, h5, h6, h7⟩ := h
  exact ⟨by rw [h1], by rw [h2], by rw [h3], by rw [h4], fun e => h5 m e⟩
theorem c_nxw_r {A A' : Nat → Int → Int} {l v p q : Int} (h : c_nxw A A' l v) (hl : l < p ∨ q ≤ l) : c_agr A A' p q := fun m a b => by
  obtain ⟨h1, h2, h3, h4, h5, h6, h7⟩ := h
  exact ⟨by rw [h1], by rw [h2], by rw [h3], by rw [h4], h5 m (by omega)⟩
theorem c_bw_r {A A' : Nat → Int → Int} {l v p q : Int} (h : c_bw A A' l v) (hl : l < p ∨ q ≤ l) : c_agr A A' p q := fun m a b => by
  obtain ⟨h1, h2, h3, h4, h5, h6⟩ := h
  exact ⟨by rw [h1], by rw [h2], h5 m (by omega), by rw [h3], by rw [h4]⟩
/-- chains of three families: exps and items; fields; branches -/
def c_P0 (A : Nat → Int → Int) (i : Nat) : Int → Int → Int → Prop := c_W A i
def c_P1 (A : Nat → Int → Int) (i : Nat) : Int → Int → Int → Prop := fun f p _ => c_W A i (A 29 f) p f
def c_P2 (A : Nat → Int → Int) (i : Nat) : Int → Int → Int → Prop := fun f p _ => A 27 f = 16 ∧ c_Bd A (c_W A i) (A 29 f) p f
def c_Fam (P : (Nat → Int → Int) → Nat → Int → Int → Int → Prop) : Prop := ∀ (A A' : Nat → Int → Int) (i : Nat) (m p q : Int), p ≤ m → m < q → c_agx A A' m p q → P A i m p q → P A' i m p q
theorem c_P0_fam : c_Fam c_P0 := fun _ _ _ _ _ _ _ _ h w => c_W_fr w h
theorem c_P1_fam : c_Fam c_P1 := fun A A' i m p q a b h w => by
  show c_W A' i (A' 29 m) p m
  rw [(h m a b).2.2.1]
  exact c_W_fr w (c_agr_x (c_agx_r h (by omega) (by omega) (by omega)))
theorem c_P2_fam : c_Fam c_P2 := fun A A' i m p q a b h w => by
  show A' 27 m = 16 ∧ c_Bd A' (c_W A' i) (A' 29 m) p m
  rw [(h m a b).1, (h m a b).2.2.1]
  have hr : c_agr A A' p m := c_agx_r h (by omega) (by omega) (by omega)
  exact ⟨w.1, c_Bd_map w.2 hr (fun _ _ _ c d g => c_W_fr g (c_agr_x (c_agr_sub hr c d)))⟩
def c_Chn (P : (Nat → Int → Int) → Nat → Int → Int → Int → Prop) (A : Nat → Int → Int) (i : Nat) (f l p q : Int) : Prop := c_Cl (A 31) (P A i) f l p q ∧ A 31 l = -1
theorem c_Cl_map2 {nx nx' : Int → Int} {P P' : Int → Int → Int → Prop} {n l p q : Int} (h : c_Cl nx P n l p q) : (∀ m, p ≤ m → m < q → m ≠ l → nx' m = nx m) → (∀ m p' r, p ≤ p' → r ≤ q → p' ≤ m → m < r → (m = l ∨ r ≤ l) → P m p' r → P' m p' r) → c_Cl nx' P' n l p q := by
  refine c_Cl.ind (fun n l p q => (∀ m, p ≤ m → m < q → m ≠ l → nx' m = nx m) → (∀ m p' r, p ≤ p' → r ≤ q → p' ≤ m → m < r → (m = l ∨ r ≤ l) → P m p' r → P' m p' r) → c_Cl nx' P' n l p q) (fun h1 h2 h3 => ?_) (fun {n l p r q} h1 h2 h3 h4 ih => ?_) h
  · exact fun _ hP => .one h1 h2 (hP _ _ _ (by omega) (by omega) h1 h2 (Or.inl rfl) h3)
  · intro hn hP
    have hq := c_Cl_le h4
    refine .cons h1 h2 (hP n p r (by omega) (by omega) h1 h2 (by omega) h3) ?_
    rw [hn n (by omega) (by omega) (by omega)]
    exact ih (fun m a b => hn m (by omega) b) (fun m p' r' a b c d e => hP m p' r' (by omega) b c d e)
theorem c_Chn_agl {P : (Nat → Int → Int) → Nat → Int → Int → Int → Prop} (hP : c_Fam P) {A A' : Nat → Int → Int} {i : Nat} {f l p q n : Int} (h : c_Chn P A i f l p q) (ha : c_agl A A' n) (hp : 0 ≤ p) (hq : q ≤ n) : c_Chn P A' i f l p q := by
  have hl := c_Cl_le h.1
  refine ⟨c_Cl_map2 h.1 (fun m a b _ => (ha m (by omega) (by omega)).2.2.2.2) (fun m p' r a b c d _ g => hP _ _ _ _ _ _ c d (c_agr_x (c_agl_r ha (by omega) (by omega))) g), ?_⟩
  rw [(ha l (by omega) (by omega)).2.2.2.2]
  exact h.2
theorem c_Chn_one {P : (Nat → Int → Int) → Nat → Int → Int → Int → Prop} {A : Nat → Int → Int} {i : Nat} {v p q : Int} (hv : p ≤ v ∧ v < q) (w : P A i v p q) (hn : A 31 v = -1) : c_Chn P A i v v p q := ⟨.one hv.1 hv.2 w, hn⟩
theorem c_Chn_app {P : (Nat → Int → Int) → Nat → Int → Int → Int → Prop} (hP : c_Fam P) {A A' : Nat → Int → Int} {i : Nat} {f l p q v r : Int} (h : c_Chn P A i f l p q) (hw : c_nxw A A' l v) (hp : 0 ≤ p) (hq : q ≤ 3016) (hv : q ≤ v ∧ v < r) (w : P A i v q r) (hn : A 31 v = -1) : c_Chn P A' i f v p r := by
  have hl := c_Cl_le h.1
  refine ⟨c_Cl_app (c_Cl_map2 h.1 (fun m a b e => hw.2.2.2.2.1 m e) (fun m p' r' a b c d e g => hP _ _ _ _ _ _ c d ?_ g)) (hw.2.2.2.2.2.1 (by omega) (by omega)) hv.1 hv.2 (hP _ _ _ _ _ _ hv.1 hv.2 (c_agr_x (c_nxw_r hw (by omega))) w), ?_⟩
  · rcases e with e | e
    · rw [e]; exact c_nxw_x hw
    · exact c_agr_x (c_nxw_r hw (by omega))
  · rw [hw.2.2.2.2.1 v (by omega)]
    exact hn
theorem c_Chn_end {P : (Nat → Int → Int) → Nat → Int → Int → Int → Prop} {A : Nat → Int → Int} {i : Nat} {f l p q : Int} (h : c_Chn P A i f l p q) : c_Ch (A 31) (P A i) f p q := c_Cl_end h.1 h.2
/-- pairs -/
theorem c_PxA_agl {A A' : Nat → Int → Int} {i : Nat} {v m p n : Int} (w : c_PxA A i v m p) (h : c_agl A A' n) (hp : 0 ≤ p) (hq : m < n) : c_PxA A' i v m p := c_Px_map w (fun j a b => ⟨(h j (by omega) (by omega)).1, (h j (by omega) (by omega)).2.1, fun _ => (h j (by omega) (by omega)).2.2.1⟩) (fun _ _ _ a b g => c_W_agl g h (by omega) (by omega))
theorem c_PrA_agl {A A' : Nat → Int → Int} {i : Nat} {v p q n : Int} (w : c_PrA A i v p q) (h : c_agl A A' n) (hp : 0 ≤ p) (hq : q ≤ n) : c_PrA A' i v p q := c_Pr_map w (fun _ _ _ g => c_W_in g) (fun m a b => ⟨(h m (by omega) (by omega)).1, (h m (by omega) (by omega)).2.1, (h m (by omega) (by omega)).2.2.1⟩) (fun _ _ _ a b g => c_W_agl g h (by omega) (by omega))
theorem c_PxA_mk {A A' : Nat → Int → Int} {i : Nat} {n a b c p : Int} (h : c_mk A A' n 7 a b c) (w : c_W A i a p n) (hp : 0 ≤ p) : c_PxA A' i n n p := by
  obtain ⟨h0, h1, h2, h3, h4, h5⟩ := h
  have := c_W_in w
  refine .one h1 (by omega) ?_
  rw [h2]
  exact c_W_agl w h0 hp (by omega)
theorem c_PxA_bw {A A' : Nat → Int → Int} {i : Nat} {v m p x : Int} (w : c_PxA A i v m p) (h : c_bw A A' m x) : c_PxA A' i v m p := c_Px_map w (fun j _ _ => ⟨by rw [h.1], by rw [h.2.1], fun e => h.2.2.2.2.1 j e⟩) (fun _ _ _ a b g => c_W_fr g (c_agr_x (c_bw_r h (by omega))))
/-- the right side of the last pair is set: another pair -/
theorem c_PxA_app {A A' : Nat → Int → Int} {i : Nat} {v m p x : Int} (w : c_PxA A i v m p) (h : c_bw A A' m x) (hm : 0 ≤ m ∧ m < 3016) (hx : m < x) (hk : A 27 x = 7) (w2 : c_W A i (A 28 x) (m + 1) x) : c_PxA A' i v x p := by
  refine c_Px_app (c_PxA_bw w h) (h.2.2.2.2.2 hm.1 hm.2) (by rw [h.1]; exact hk) hx ?_
  rw [h.2.1]
  exact c_W_fr w2 (c_agr_x (c_bw_r h (by omega)))
theorem c_PxA_end {A A' : Nat → Int → Int} {i : Nat} {v m p x q : Int} (w : c_PxA A i v m p) (h : c_bw A A' m x) (hm : 0 ≤ m ∧ m < 3016) (w2 : c_W A i x (m + 1) q) : c_W A' (i + 1) v p q := by
  have hx := c_W_in w2
  have hle := c_Px_le w
  have w3 : c_W A' i x (m + 1) q := c_W_fr w2 (c_agr_x (c_bw_r h (by omega)))
  have hb := h.2.2.2.2.2 hm.1 hm.2
  have hpr : c_Pr (A' 27) (A' 28) (A' 29) (c_W A' i) (A' 29 m) (m + 1) q := by
    rw [hb]
    cases i with
    | zero => exact w3.elim
    | succ i =>
      by_cases e : A' 27 x = 7
      · exact c_Pr_map (w3.2.2.k7 e) (fun _ _ _ g => c_W_in g) (fun _ _ _ => ⟨rfl, rfl, rfl⟩) (fun _ _ _ _ _ g => c_W_up1 g)
      · exact .last e w3
  have h7 := c_Px_end (c_PxA_bw w h) hpr (by omega)
  have hk : A' 27 v = 7 := by rw [h.1]; exact hle.2.2
  refine ⟨by omega, by omega, ?_⟩
  refine ⟨?_, ?_, ?_, ?_, ?_, ?_, ?_, ?_, ?_, ?_, ?_⟩ <;> intro h0 <;> first | exact h7 | (exfalso; omega)
/-- nodes of each kind -/
theorem c_W_leaf {A A' : Nat → Int → Int} {n kd a b c p : Int} (h : c_mk A A' n kd a b c) (hk : kd = 1 ∨ kd = 2 ∨ kd = 3 ∨ kd = 4 ∨ kd = 24) (hp : p ≤ n) : c_W A' 1 n p (n + 1) := by
  obtain ⟨h0, h1, h2, h3, h4, h5⟩ := h
  refine ⟨hp, by omega, ?_⟩
  refine ⟨?_, ?_, ?_, ?_, ?_, ?_, ?_, ?_, ?_, ?_, ?_⟩ <;> intro h0 <;> exfalso <;> omega
theorem c_W_21 {A A' : Nat → Int → Int} {i : Nat} {n kd a b c p : Int} (h : c_mk A A' n kd a b c) (hk : kd = 21 ∨ kd = 22) (hp : 0 ≤ p) (w : c_W A i a p n) : c_W A' (i + 1) n p (n + 1) := by
  obtain ⟨h0, h1, h2, h3, h4, h5⟩ := h
  have hw := c_W_in w
  have w' := c_W_agl w h0 hp (by omega)
  refine ⟨by omega, by omega, ?_⟩
  refine ⟨?_, ?_, ?_, ?_, ?_, ?_, ?_, ?_, ?_, ?_, ?_⟩ <;> intro h9 <;> first | (exfalso; omega) | (rw [h2]; exact w')
theorem c_W_23 {A A' : Nat → Int → Int} {i : Nat} {n a b c p r : Int} (h : c_mk A A' n 23 a b c) (hp : 0 ≤ p) (w : c_W A i a p r) (w2 : c_W A i b r n) : c_W A' (i + 1) n p (n + 1) := by
  obtain ⟨h0, h1, h2, h3, h4, h5⟩ := h
  have hw := c_W_in w
  have hw2 := c_W_in w2
  have w' := c_W_agl w h0 hp (by omega)
  have w2' := c_W_agl w2 h0 (by omega) (by omega)
  refine ⟨by omega, by omega, ?_⟩
  refine ⟨?_, ?_, ?_, ?_, ?_, ?_, ?_, ?_, ?_, ?_, ?_⟩ <;> intro h9 <;> first | (exfalso; omega) | (rw [h2, h3]; exact ⟨r, by omega, w', w2'⟩)
theorem c_Ch_agl {P : (Nat → Int → Int) → Nat → Int → Int → Int → Prop} (hP : c_Fam P) {A A' : Nat → Int → Int} {i : Nat} {f p q n : Int} (h : c_Ch (A 31) (P A i) f p q) (ha : c_agl A A' n) (hp : 0 ≤ p) (hq : q ≤ n) : c_Ch (A' 31) (P A' i) f p q := c_Ch_map h (fun m a b => (ha m (by omega) (by omega)).2.2.2.2) (fun m p' r a b c d g => hP _ _ _ _ _ _ c d (c_agr_x (c_agl_r ha (by omega) (by omega))) g)
theorem c_W_5 {A A' : Nat → Int → Int} {i : Nat} {n a b c p : Int} (h : c_mk A A' n 5 a b c) (hp : 0 ≤ p) (w : c_Ch (A 31) (c_P1 A i) b p n) : c_W A' (i + 1) n p (n + 1) := by
  obtain ⟨h0, h1, h2, h3, h4, h5⟩ := h
  have hw := c_Ch_le w
  have w' := c_Ch_agl c_P1_fam w h0 hp (by omega)
  refine ⟨by omega, by omega, ?_⟩
  refine ⟨?_, ?_, ?_, ?_, ?_, ?_, ?_, ?_, ?_, ?_, ?_⟩ <;> intro h9 <;> first | (exfalso; omega) | (rw [h3]; exact w')
theorem c_W_10 {A A' : Nat → Int → Int} {i : Nat} {n a b c p : Int} (h : c_mk A A' n 10 a b c) (hp : 0 ≤ p) (w : c_Ch (A 31) (c_P0 A i) a p n) : c_W A' (i + 1) n p (n + 1) := by
  obtain ⟨h0, h1, h2, h3, h4, h5⟩ := h
  have hw := c_Ch_le w
  have w' := c_Ch_agl c_P0_fam w h0 hp (by omega)
  refine ⟨by omega, by omega, ?_⟩
  refine ⟨?_, ?_, ?_, ?_, ?_, ?_, ?_, ?_, ?_, ?_, ?_⟩ <;> intro h9 <;> first | (exfalso; omega) | (rw [h2]; exact w')
theorem c_W_11 {A A' : Nat → Int → Int} {i : Nat} {n kd a b c p : Int} (h : c_mk A A' n kd a b c) (hk : kd = 11 ∨ kd = 12 ∨ kd = 13) (hp : 0 ≤ p) (w : c_Bd A (c_W A i) b p n) : c_W A' (i + 1) n p (n + 1) := by
  obtain ⟨h0, h1, h2, h3, h4, h5⟩ := h
  have hw := w.1
  have hw2 := w.2.1
  have w' := c_Bd_agl w h0 hp (by omega)
  refine ⟨by omega, by omega, ?_⟩
  refine ⟨?_, ?_, ?_, ?_, ?_, ?_, ?_, ?_, ?_, ?_, ?_⟩ <;> intro h9 <;> first | (exfalso; omega) | (rw [h3]; exact w')
theorem c_W_14 {A A' : Nat → Int → Int} {i : Nat} {n a b c p r s : Int} (h : c_mk A A' n 14 a b c) (hp : 0 ≤ p) (hs : s ≤ n) (w : c_W A i a p r) (w2 : c_Bd A (c_W A i) b r s) (w3 : c = -1 ∨ c_Bd A (c_W A i) c s n) : c_W A' (i + 1) n p (n + 1) := by
  obtain ⟨h0, h1, h2, h3, h4, h5⟩ := h
  have hw := c_W_in w
  have hw2 := w2.1
  have hw3 := w2.2.1
  have w' := c_W_agl w h0 hp (by omega)
  have w2' := c_Bd_agl w2 h0 (by omega) (by omega)
  have w3' : c = -1 ∨ c_Bd A' (c_W A' i) c s n := w3.imp_right (fun g => c_Bd_agl g h0 (by omega) (by omega))
  refine ⟨by omega, by omega, ?_⟩
  refine ⟨?_, ?_, ?_, ?_, ?_, ?_, ?_, ?_, ?_, ?_, ?_⟩ <;> intro h9 <;> first | (exfalso; omega) | (rw [h2, h3, h4]; exact ⟨r, s, by omega, by omega, w', w2', w3'⟩)
theorem c_W_15 {A A' : Nat → Int → Int} {i : Nat} {n a b c p r s : Int} (h : c_mk A A' n 15 a b c) (hp : 0 ≤ p) (hs : s ≤ n) (w : c_W A i a p r) (w2 : c_Ch (A 31) (c_P2 A i) b r s) (w3 : c = -1 ∨ c_Bd A (c_W A i) c s n) : c_W A' (i + 1) n p (n + 1) := by
  obtain ⟨h0, h1, h2, h3, h4, h5⟩ := h
  have hw := c_W_in w
  have hw2 := c_Ch_le w2
  have w' := c_W_agl w h0 hp (by omega)
  have w2' := c_Ch_agl c_P2_fam w2 h0 (by omega) (by omega)
  have w3' : c = -1 ∨ c_Bd A' (c_W A' i) c s n := w3.imp_right (fun g => c_Bd_agl g h0 (by omega) (by omega))
  refine ⟨by omega, by omega, ?_⟩
  refine ⟨?_, ?_, ?_, ?_, ?_, ?_, ?_, ?_, ?_, ?_, ?_⟩ <;> intro h9 <;> first | (exfalso; omega) | (rw [h2, h3, h4]; exact ⟨r, s, by omega, by omega, w', w2', w3'⟩)
theorem c_W_19 {A A' : Nat → Int → Int} {i : Nat} {n a b c p : Int} (h : c_mk A A' n 19 a b c) (hp : 0 ≤ p) (w : c_Bd A (c_W A i) a p n) : c_W A' (i + 1) n p (n + 1) := by
  obtain ⟨h0, h1, h2, h3, h4, h5⟩ := h
  have hw := w.1
  have hw2 := w.2.1
  have w' := c_Bd_agl w h0 hp (by omega)
  refine ⟨by omega, by omega, ?_⟩
  refine ⟨?_, ?_, ?_, ?_, ?_, ?_, ?_, ?_, ?_, ?_, ?_⟩ <;> intro h9 <;> first | (exfalso; omega) | (rw [h2]; exact w')
theorem c_W_20 {A A' : Nat → Int → Int} {i : Nat} {n a b c p r : Int} (h : c_mk A A' n 20 a b c) (hp : 0 ≤ p) (w : c_Bd A (c_W A i) a p r) (w2 : c_Bd A (c_W A i) b r n) : c_W A' (i + 1) n p (n + 1) := by
  obtain ⟨h0, h1, h2, h3, h4, h5⟩ := h
  have hw := w.1
  have hw2 := w.2.1
  have hw3 := w2.1
  have hw4 := w2.2.1
  have w' := c_Bd_agl w h0 hp (by omega)
  have w2' := c_Bd_agl w2 h0 (by omega) (by omega)
  refine ⟨by omega, by omega, ?_⟩
  refine ⟨?_, ?_, ?_, ?_, ?_, ?_, ?_, ?_, ?_, ?_, ?_⟩ <;> intro h9 <;> first | (exfalso; omega) | (rw [h2, h3]; exact ⟨r, by omega, w', w2'⟩)
theorem c_Bd_mk {A A' : Nat → Int → Int} {i : Nat} {n a b c p r : Int} (h : c_mk A A' n 25 a b c) (hp : 0 ≤ p) (w : c_Ch (A 31) (c_P0 A i) a p r) (hr : r ≤ n) (w2 : b = -1 ∨ c_W A i b r n) : c_Bd A' (c_W A' i) n p (n + 1) := by
  obtain ⟨h0, h1, h2, h3, h4, h5⟩ := h
  have hw := c_Ch_le w
  have w' := c_Ch_agl c_P0_fam w h0 hp (by omega)
  have w2' : b = -1 ∨ c_W A' i b r n := w2.imp_right (fun g => c_W_agl g h0 (by omega) (by omega))
  refine ⟨by omega, by omega, h1, r, ?_, hr, ?_⟩
  · rw [h2]; exact w'
  · rw [h3]; exact w2'
theorem c_P1_mk {A A' : Nat → Int → Int} {i : Nat} {n a b c p : Int} (h : c_mk A A' n 6 a b c) (hp : 0 ≤ p) (w : c_W A i b p n) : c_P1 A' i n p (n + 1) ∧ A' 31 n = -1 := by
  obtain ⟨h0, h1, h2, h3, h4, h5⟩ := h
  refine ⟨?_, h5⟩
  show c_W A' i (A' 29 n) p n
  rw [h3]
  exact c_W_agl w h0 hp (by omega)
theorem c_P2_mk {A A' : Nat → Int → Int} {i : Nat} {n a b c p : Int} (h : c_mk A A' n 16 a b c) (hp : 0 ≤ p) (w : c_Bd A (c_W A i) b p n) : c_P2 A' i n p (n + 1) ∧ A' 31 n = -1 := by
  obtain ⟨h0, h1, h2, h3, h4, h5⟩ := h
  refine ⟨?_, h5⟩
  show A' 27 n = 16 ∧ c_Bd A' (c_W A' i) (A' 29 n) p n
  rw [h3]
  exact ⟨h1, c_Bd_agl w h0 hp (by omega)⟩
end CTree2
section CTree3
/-- a node of its own, with nothing behind it yet -/
def c_Wn (A : Nat → Int → Int) (i : Nat) (v p q : Int) : Prop := c_W A i v p q ∧ A 31 v = -1
def c_On (A : Nat → Int → Int) (i : Nat) (v p q : Int) : Prop := c_OpA A i v p q ∧ A 31 v = -1
def c_Pxn (A : Nat → Int → Int) (i : Nat) (v m p : Int) : Prop := c_PxA A i v m p ∧ A 31 v = -1
theorem c_Wn_agl {A A' : Nat → Int → Int} {i : Nat} {v p q n : Int} (w : c_Wn A i v p q) (h : c_agl A A' n) (hp : 0 ≤ p) (hq : q ≤ n) : c_Wn A' i v p q := by
  have hv := c_W_in w.1
  exact ⟨c_W_agl w.1 h hp hq, by rw [(h v (by omega) (by omega)).2.2.2.2]; exact w.2⟩
theorem c_Wn_up {A : Nat → Int → Int} {i j : Nat} {v p q : Int} (w : c_Wn A i v p q) (h : i ≤ j) : c_Wn A j v p q := ⟨c_W_up w.1 h, w.2⟩
theorem c_Wn_win {A : Nat → Int → Int} {i : Nat} {v p q p' q' : Int} (w : c_Wn A i v p q) (h1 : p' ≤ p) (h2 : q ≤ q') : c_Wn A i v p' q' := ⟨c_W_win w.1 h1 h2, w.2⟩
theorem c_On_agl {A A' : Nat → Int → Int} {i : Nat} {v p q n : Int} (w : c_On A i v p q) (h : c_agl A A' n) (hp : 0 ≤ p) (hq : q ≤ n) : c_On A' i v p q := by
  have hv := c_OpA_in w.1
  exact ⟨c_OpA_agl w.1 h hp hq, by rw [(h v (by omega) (by omega)).2.2.2.2]; exact w.2⟩
theorem c_On_of {A : Nat → Int → Int} {i : Nat} {v p q : Int} (w : c_Wn A i v p q) : c_On A i v p q := ⟨c_OpA_of w.1, w.2⟩
theorem c_On_W {A : Nat → Int → Int} {i : Nat} {v p q : Int} (w : c_On A i v p q) : c_Wn A (i + 1) v p q := ⟨c_OpA_W w.1, w.2⟩
theorem c_On_win {A : Nat → Int → Int} {i : Nat} {v p q p' q' : Int} (w : c_On A i v p q) (h1 : p' ≤ p) (h2 : q ≤ q') : c_On A i v p' q' := ⟨c_OpA_win w.1 h1 h2, w.2⟩
theorem c_On_mk8 {A A' : Nat → Int → Int} {i : Nat} {n a b c p r s : Int} (h : c_mk A A' n 8 a b c) (w1 : c_On A i a p r) (w2 : c_On A i b r s) (hp : 0 ≤ p) (hs : s ≤ n) : c_On A' i n p (n + 1) := ⟨c_OpA_mk8 h w1.1 w2.1 hp hs, h.2.2.2.2.2⟩
theorem c_On_mk9 {A A' : Nat → Int → Int} {i : Nat} {n a b c p r : Int} (h : c_mk A A' n 9 a b c) (w1 : c_On A i a p r) (hp : 0 ≤ p) (hs : r ≤ n) : c_On A' i n p (n + 1) := ⟨c_OpA_mk9 h w1.1 hp hs, h.2.2.2.2.2⟩
theorem c_Pxn_agl {A A' : Nat → Int → Int} {i : Nat} {v m p n : Int} (w : c_Pxn A i v m p) (h : c_agl A A' n) (hp : 0 ≤ p) (hq : m < n) : c_Pxn A' i v m p := by
  have hv := c_Px_le w.1
  exact ⟨c_PxA_agl w.1 h hp hq, by rw [(h v (by omega) (by omega)).2.2.2.2]; exact w.2⟩
theorem c_Pxn_mk {A A' : Nat → Int → Int} {i : Nat} {n a b c p : Int} (h : c_mk A A' n 7 a b c) (w : c_Wn A i a p n) (hp : 0 ≤ p) : c_Pxn A' i n n p := ⟨c_PxA_mk h w.1 hp, h.2.2.2.2.2⟩
theorem c_Pxn_app {A A' : Nat → Int → Int} {i : Nat} {v m p x : Int} (w : c_Pxn A i v m p) (h : c_bw A A' m x) (hm : 0 ≤ m ∧ m < 3016) (hx : m < x) (w2 : c_Pxn A i x x (m + 1)) : c_Pxn A' i v x p := by
  refine ⟨?_, by rw [h.2.2.2.1]; exact w.2⟩
  have hk := (c_Px_le w2.1).2.2
  have h2 := w2.1
  exact c_PxA_app w.1 h hm hx hk (c_Px.same h2).2.2
theorem c_Pxn_end {A A' : Nat → Int → Int} {i : Nat} {v m p x q : Int} (w : c_Pxn A i v m p) (h : c_bw A A' m x) (hm : 0 ≤ m ∧ m < 3016) (w2 : c_Wn A i x (m + 1) q) : c_Wn A' (i + 1) v p q := ⟨c_PxA_end w.1 h hm w2.1, by rw [h.2.2.2.1]; exact w.2⟩
theorem c_bw_none {A A' : Nat → Int → Int} {l v n : Int} (h : c_bw A A' l v) (hl : l < 0) : c_agl A A' n := c_agl_bw h (Or.inr hl)
/-- a chain, or none yet -/
def c_Chq (P : (Nat → Int → Int) → Nat → Int → Int → Int → Prop) (A : Nat → Int → Int) (i : Nat) (f l p q : Int) : Prop := p ≤ q ∧ ((f = -1 ∧ l = -1) ∨ (0 ≤ f ∧ c_Chn P A i f l p q))
theorem c_Chq_nil {P : (Nat → Int → Int) → Nat → Int → Int → Int → Prop} {A : Nat → Int → Int} {i : Nat} {p q : Int} (h : p ≤ q) : c_Chq P A i (-1) (-1) p q := ⟨h, Or.inl ⟨rfl, rfl⟩⟩
theorem c_Cl_first {nx : Int → Int} {P : Int → Int → Int → Prop} {n l p q : Int} (h : c_Cl nx P n l p q) : p ≤ n := by
  obtain ⟨k, h⟩ := h
  cases k with
  | zero => rw [h.1]; exact h.2.1
  | succ k => obtain ⟨r, h1, h2, h3, h4⟩ := h; exact h1
theorem c_Chq_one {A : Nat → Int → Int} {i : Nat} {v p q : Int} (w : c_Wn A i v p q) (hp : 0 ≤ p) : c_Chq c_P0 A i v v p q := by
  have hv := c_W_in w.1
  exact ⟨by omega, Or.inr ⟨by omega, c_Chn_one hv w.1 w.2⟩⟩
theorem c_Chq_agl {P : (Nat → Int → Int) → Nat → Int → Int → Int → Prop} (hP : c_Fam P) {A A' : Nat → Int → Int} {i : Nat} {f l p q n : Int} (h : c_Chq P A i f l p q) (ha : c_agl A A' n) (hp : 0 ≤ p) (hq : q ≤ n) : c_Chq P A' i f l p q := ⟨h.1, h.2.imp_right (fun g => ⟨g.1, c_Chn_agl hP g.2 ha hp hq⟩)⟩
theorem c_Chq_app {P : (Nat → Int → Int) → Nat → Int → Int → Int → Prop} (hP : c_Fam P) {A A' : Nat → Int → Int} {i : Nat} {f l p q v r q' : Int} (h : c_Chq P A i f l p q) (hq' : q ≤ q') (hw : c_nxw A A' l v) (hp : 0 ≤ p) (hq : q ≤ 3016) (hv : q' ≤ v ∧ v < r) (w : P A i v q' r) (hn : A 31 v = -1) (hPw : ∀ a b, a ≤ b → P A i v b r → P A i v a r) : ∀ f', (f = -1 ∧ f' = v ∨ f ≠ -1 ∧ f' = f) → c_Chq P A' i f' v p r := fun f' hf => by
  obtain ⟨h0, h1⟩ := h
  refine ⟨by omega, ?_⟩
  rcases h1 with ⟨rfl, rfl⟩ | ⟨h1, h2⟩
  · rcases hf with ⟨-, rfl⟩ | ⟨hf, -⟩
    · refine Or.inr ⟨by omega, ?_⟩
      have w' : P A i f' p r := hPw p q' (by omega) w
      exact c_Chn_one (by omega) (hP _ _ _ _ _ _ (by omega) hv.2 (c_agr_x (c_nxw_r hw (by omega))) w') (by rw [hw.2.2.2.2.1 f' (by omega)]; exact hn)
    · exact absurd rfl hf
  · rcases hf with ⟨hf, -⟩ | ⟨-, rfl⟩
    · omega
    · exact Or.inr ⟨h1, c_Chn_app hP h2 hw hp hq ⟨by omega, hv.2⟩ (hPw q q' hq' w) hn⟩
theorem c_Chq_end {P : (Nat → Int → Int) → Nat → Int → Int → Int → Prop} {A : Nat → Int → Int} {i : Nat} {f l p q : Int} (h : c_Chq P A i f l p q) : c_Ch (A 31) (P A i) f p q := by
  rcases h.2 with ⟨rfl, -⟩ | ⟨-, g⟩
  · exact .nil h.1
  · exact c_Chn_end g
theorem c_P0_win {A : Nat → Int → Int} {i : Nat} {v r : Int} : ∀ a b, a ≤ b → c_P0 A i v b r → c_P0 A i v a r := fun _ _ h w => c_W_win w h (Int.le_refl _)
theorem c_P1_win {A : Nat → Int → Int} {i : Nat} {v r : Int} : ∀ a b, a ≤ b → c_P1 A i v b r → c_P1 A i v a r := fun _ _ h w => c_W_win w h (Int.le_refl _)
theorem c_P2_win {A : Nat → Int → Int} {i : Nat} {v r : Int} : ∀ a b, a ≤ b → c_P2 A i v b r → c_P2 A i v a r := fun _ _ h w => ⟨w.1, c_Bd_win (R := c_W A i) (fun _ _ _ _ _ g x y => c_W_win g x y) w.2 h (Int.le_refl _)⟩
theorem c_Ch_wide {P : (Nat → Int → Int) → Nat → Int → Int → Int → Prop} {A : Nat → Int → Int} {i : Nat} {f p q p' q' : Int} (hP : ∀ v r a b, a ≤ b → P A i v b r → P A i v a r) (h : c_Ch (A 31) (P A i) f p q) (h1 : p' ≤ p) (h2 : q ≤ q') : c_Ch (A 31) (P A i) f p' q' := c_Ch_win (fun m _ r _ g e => hP m r _ _ e g) h h1 h2
theorem c_BdW_win {A : Nat → Int → Int} {i : Nat} {v p q p' q' : Int} (w : c_Bd A (c_W A i) v p q) (h1 : p' ≤ p) (h2 : q ≤ q') : c_Bd A (c_W A i) v p' q' := c_Bd_win (R := c_W A i) (fun _ _ _ _ _ g x y => c_W_win g x y) w h1 h2
end CTree3
section CTree4
/-- pairs of a list, or none yet -/
def c_Pxq (A : Nat → Int → Int) (i : Nat) (f l p z : Int) : Prop := p ≤ z ∧ ((f = -1 ∧ l = -1) ∨ (0 ≤ f ∧ c_Pxn A i f l p ∧ l + 1 = z))
theorem c_Pxq_nil {A : Nat → Int → Int} {i : Nat} {p z : Int} (h : p ≤ z) : c_Pxq A i (-1) (-1) p z := ⟨h, Or.inl ⟨rfl, rfl⟩⟩
theorem c_Pxq_l {A : Nat → Int → Int} {i : Nat} {f l p z : Int} (h : c_Pxq A i f l p z) (hp : 0 ≤ p) : l = -1 ∨ p ≤ l := by
  rcases h.2 with ⟨-, e⟩ | ⟨-, g, -⟩
  · exact Or.inl e
  · have := c_Px_le g.1
    exact Or.inr (by omega)
theorem c_Pxq_agl {A A' : Nat → Int → Int} {i : Nat} {f l p z n : Int} (h : c_Pxq A i f l p z) (ha : c_agl A A' n) (hp : 0 ≤ p) (hz : z ≤ n) : c_Pxq A' i f l p z := ⟨h.1, h.2.imp_right (fun g => ⟨g.1, c_Pxn_agl g.2.1 ha hp (by have := g.2.2; omega), g.2.2⟩)⟩
theorem c_Pxq_app {A A' : Nat → Int → Int} {i : Nat} {f l p z n : Int} (h : c_Pxq A i f l p z) (w : c_Pxn A i n n z) (hb : c_bw A A' l n) (hp : 0 ≤ p) (hn : z ≤ n ∧ n < 3016) : ∀ f', (f = -1 ∧ f' = n ∨ f ≠ -1 ∧ f' = f) → c_Pxq A' i f' n p (n + 1) := fun f' hf => by
  obtain ⟨h0, h1⟩ := h
  refine ⟨by omega, Or.inr ?_⟩
  rcases h1 with ⟨rfl, rfl⟩ | ⟨h1, h2, h3⟩
  · rcases hf with ⟨-, rfl⟩ | ⟨hf, -⟩
    · refine ⟨by omega, ?_, rfl⟩
      have w' := c_Pxn_agl w (c_bw_none (n := f' + 1) hb (by omega)) (by omega) (by omega)
      refine ⟨?_, w'.2⟩
      obtain ⟨g1, g2, g3⟩ := c_Px.same w'.1
      exact c_Px.one g1 (by omega) (c_W_win g3 (by omega) (Int.le_refl _))
    · exact absurd rfl hf
  · rcases hf with ⟨hf, -⟩ | ⟨-, rfl⟩
    · omega
    · have := c_Px_le h2.1
      exact ⟨h1, c_Pxn_app h2 hb (by omega) (by omega) (by rw [h3]; exact w), rfl⟩
theorem c_Pxq_fin {A A' : Nat → Int → Int} {i : Nat} {f l p n : Int} (h : c_Pxq A i f l p n) (w : c_Wn A i n n (n + 1)) (hb : c_bw A A' l n) (hp : 0 ≤ p) (hn : n < 3016) : ∀ v, (f = -1 ∧ v = n ∨ f ≠ -1 ∧ v = f) → c_Wn A' (i + 1) v p (n + 1) := fun v hf => by
  obtain ⟨h0, h1⟩ := h
  rcases h1 with ⟨rfl, rfl⟩ | ⟨h1, h2, h3⟩
  · rcases hf with ⟨-, rfl⟩ | ⟨hf, -⟩
    · exact c_Wn_up (c_Wn_win (c_Wn_agl w (c_bw_none (n := v + 1) hb (by omega)) (by omega) (by omega)) (by omega) (Int.le_refl _)) (by omega)
    · exact absurd rfl hf
  · rcases hf with ⟨hf, -⟩ | ⟨-, rfl⟩
    · omega
    · have := c_Px_le h2.1
      exact c_Pxn_end h2 hb (by omega) (by rw [h3]; exact w)
/-- the right side of an exp with bars -/
def c_Exq (A : Nat → Int → Int) (i : Nat) (k w l p z : Int) : Prop := (k = 18 ∧ c_Pxn A i w l p ∧ l + 1 = z) ∨ (¬ k = 18 ∧ c_Wn A (i + 1) w p z)
theorem c_Exq_18 {A : Nat → Int → Int} {i : Nat} {k w l p z : Int} (h : c_Exq A i k w l p z) (hk : k = 18) : c_Pxn A i w l p ∧ l + 1 = z := by
  rcases h with ⟨-, h⟩ | ⟨h, -⟩
  · exact h
  · exact absurd hk h
theorem c_Exq_no {A : Nat → Int → Int} {i : Nat} {k w l p z : Int} (h : c_Exq A i k w l p z) (hk : ¬ k = 18) : c_Wn A (i + 1) w p z := by
  rcases h with ⟨h, -⟩ | ⟨-, h⟩
  · exact absurd h hk
  · exact h
/-- the operands of comparisons, sums and products -/
def c_Cmp (A : Nat → Int → Int) (i : Nat) (lf sm ad pr p z : Int) : Prop := ∃ r1 r2, p ≤ r1 ∧ r1 ≤ r2 ∧ (lf = -1 ∧ r1 = p ∨ lf ≠ -1 ∧ c_OpA A i lf p r1) ∧ (ad = -1 ∧ r2 = r1 ∨ ad ≠ -1 ∧ c_OpA A i sm r1 r2) ∧ c_On A i pr r2 z
def c_Cm2 (A : Nat → Int → Int) (i : Nat) (lf sm p z : Int) : Prop := ∃ r1, p ≤ r1 ∧ (lf = -1 ∧ r1 = p ∨ lf ≠ -1 ∧ c_OpA A i lf p r1) ∧ c_On A i sm r1 z
theorem c_Cmp_init {A : Nat → Int → Int} {i : Nat} {sm pr p z : Int} (w : c_On A i pr p z) : c_Cmp A i (-1) sm (-1) pr p z := ⟨p, p, Int.le_refl _, Int.le_refl _, Or.inl ⟨rfl, rfl⟩, Or.inl ⟨rfl, rfl⟩, w⟩
theorem c_Cmp_agl {A A' : Nat → Int → Int} {i : Nat} {lf sm ad pr p z n : Int} (h : c_Cmp A i lf sm ad pr p z) (ha : c_agl A A' n) (hp : 0 ≤ p) (hz : z ≤ n) : c_Cmp A' i lf sm ad pr p z := by
  obtain ⟨r1, r2, h1, h2, h3, h4, h5⟩ := h
  have hi := c_OpA_in h5.1
  exact ⟨r1, r2, h1, h2, h3.imp_right (fun g => ⟨g.1, c_OpA_agl g.2 ha hp (by omega)⟩), h4.imp_right (fun g => ⟨g.1, c_OpA_agl g.2 ha (by omega) (by omega)⟩), c_On_agl h5 ha (by omega) hz⟩
theorem c_Cm2_agl {A A' : Nat → Int → Int} {i : Nat} {lf sm p z n : Int} (h : c_Cm2 A i lf sm p z) (ha : c_agl A A' n) (hp : 0 ≤ p) (hz : z ≤ n) : c_Cm2 A' i lf sm p z := by
  obtain ⟨r1, h1, h3, h5⟩ := h
  have hi := c_OpA_in h5.1
  exact ⟨r1, h1, h3.imp_right (fun g => ⟨g.1, c_OpA_agl g.2 ha hp (by omega)⟩), c_On_agl h5 ha (by omega) hz⟩
theorem c_Cmp_prod {A A' : Nat → Int → Int} {i : Nat} {lf sm ad pr p z n v o z' : Int} (h : c_Cmp A i lf sm ad pr p z) (w : c_On A i v z z') (hp : 0 ≤ p) (hz : z' ≤ n) (hm : c_mk A A' n 8 pr v o) : c_Cmp A' i lf sm ad n p (n + 1) := by
  obtain ⟨r1, r2, h1, h2, h3, h4, h5⟩ := h
  have hi := c_OpA_in h5.1
  have hv := c_OpA_in w.1
  exact ⟨r1, r2, h1, h2, h3.imp_right (fun g => ⟨g.1, c_OpA_agl g.2 hm.1 hp (by omega)⟩), h4.imp_right (fun g => ⟨g.1, c_OpA_agl g.2 hm.1 (by omega) (by omega)⟩), c_On_mk8 hm h5 w (by omega) hz⟩
theorem c_Cmp_sum0 {A : Nat → Int → Int} {i : Nat} {lf sm ad pr p z : Int} (h : c_Cmp A i lf sm ad pr p z) (ha : ad = -1) : c_Cm2 A i lf pr p z := by
  obtain ⟨r1, r2, h1, h2, h3, h4, h5⟩ := h
  rcases h4 with ⟨-, rfl⟩ | ⟨h4, -⟩
  · exact ⟨r2, h1, h3, h5⟩
  · exact absurd ha h4
theorem c_Cmp_sum1 {A A' : Nat → Int → Int} {i : Nat} {lf sm ad pr p z n : Int} (h : c_Cmp A i lf sm ad pr p z) (ha : ¬ ad = -1) (hp : 0 ≤ p) (hz : z ≤ n) (hm : c_mk A A' n 8 sm pr ad) : c_Cm2 A' i lf n p (n + 1) := by
  obtain ⟨r1, r2, h1, h2, h3, h4, h5⟩ := h
  rcases h4 with ⟨h4, -⟩ | ⟨-, h4⟩
  · exact absurd h4 ha
  · have hi := c_OpA_in h5.1
    have hi2 := c_OpA_in h4
    exact ⟨r1, h1, h3.imp_right (fun g => ⟨g.1, c_OpA_agl g.2 hm.1 hp (by omega)⟩), ⟨c_OpA_mk8 hm h4 h5.1 (by omega) hz, hm.2.2.2.2.2⟩⟩
theorem c_Cm2_add {A : Nat → Int → Int} {i : Nat} {lf sm o v p z z' : Int} (h : c_Cm2 A i lf sm p z) (w : c_On A i v z z') (ho : ¬ o = -1) : c_Cmp A i lf sm o v p z' := by
  obtain ⟨r1, h1, h3, h5⟩ := h
  have hi := c_OpA_in h5.1
  exact ⟨r1, z, h1, by omega, h3, Or.inr ⟨ho, h5.1⟩, w⟩
theorem c_Cm2_cmp {A : Nat → Int → Int} {i : Nat} {lf sm v p z z' : Int} (h : c_Cm2 A i lf sm p z) (hl : lf = -1) (w : c_On A i v z z') (hp : 0 ≤ p) : c_Cmp A i sm sm (-1) v p z' := by
  obtain ⟨r1, h1, h3, h5⟩ := h
  have hi := c_OpA_in h5.1
  rcases h3 with ⟨-, rfl⟩ | ⟨h3, -⟩
  · exact ⟨z, z, by omega, Int.le_refl _, Or.inr ⟨by omega, h5.1⟩, Or.inl ⟨rfl, rfl⟩, w⟩
  · exact absurd hl h3
theorem c_Cm2_end0 {A : Nat → Int → Int} {i : Nat} {lf sm p z : Int} (h : c_Cm2 A i lf sm p z) (hl : lf = -1) : c_On A i sm p z := by
  obtain ⟨r1, h1, h3, h5⟩ := h
  rcases h3 with ⟨-, rfl⟩ | ⟨h3, -⟩
  · exact h5
  · exact absurd hl h3
theorem c_Cm2_end1 {A A' : Nat → Int → Int} {i : Nat} {lf sm p z n o : Int} (h : c_Cm2 A i lf sm p z) (hl : ¬ lf = -1) (hp : 0 ≤ p) (hz : z ≤ n) (hm : c_mk A A' n 8 lf sm o) : c_On A' i n p (n + 1) := by
  obtain ⟨r1, h1, h3, h5⟩ := h
  rcases h3 with ⟨h3, -⟩ | ⟨-, h3⟩
  · exact absurd h3 hl
  · exact ⟨c_OpA_mk8 hm h3 h5.1 hp hz, hm.2.2.2.2.2⟩
end CTree4
theorem c_Chq_l {P : (Nat → Int → Int) → Nat → Int → Int → Int → Prop} {A : Nat → Int → Int} {i : Nat} {f l p q : Int} (h : c_Chq P A i f l p q) : p ≤ l ∨ l < 0 := by
  rcases h.2 with ⟨-, h⟩ | ⟨-, h⟩
  · exact Or.inr (by omega)
  · exact Or.inl (c_Cl_le h.1).1
theorem c_Pxq_l2 {A : Nat → Int → Int} {i : Nat} {f l p z : Int} (h : c_Pxq A i f l p z) : p ≤ l ∨ l < 0 := by
  rcases h.2 with ⟨-, h⟩ | ⟨-, h, -⟩
  · exact Or.inr (by omega)
  · have := c_Px_le h.1
    exact Or.inl (by omega)
theorem c_Pxn_l {A : Nat → Int → Int} {i : Nat} {f l p : Int} (h : c_Pxn A i f l p) : p ≤ f ∧ f ≤ l := ⟨(c_Px_le h.1).1, (c_Px_le h.1).2.1⟩
