/-! STACK of operations that wait, frames of the builder. -/
section CStk
/-- what a look at a row gave -/
def c_rd (g : Int → Int) (n v : Int) : Prop := 0 ≤ n ∧ n < 3016 → v = g n
theorem c_rd_eq {g : Int → Int} {n v : Int} (h : c_rd g n v) (h0 : 0 ≤ n) (h1 : n < 3016) : v = g n := h ⟨h0, h1⟩
def c_fb (A A' : Nat → Int → Int) (p q : Int) : Prop := ∀ m, (A 27 m ≠ 16 ∨ m < p ∨ q ≤ m) → A' 29 m = A 29 m ∧ A' 30 m = A 30 m
def c_wk (A A' : Nat → Int → Int) (n : Int) : Prop := ∀ m, 0 ≤ m → m < n → A' 41 m = A 41 m ∧ A' 42 m = A 42 m
def c_ke (A A' : Nat → Int → Int) : Prop := A' 27 = A 27 ∧ A' 28 = A 28 ∧ A' 31 = A 31
theorem c_fb_r {A A' : Nat → Int → Int} {p q p' q' : Int} (h : c_fb A A' p q) (e : c_ke A A') (hd : q' ≤ p ∨ q ≤ p') : c_agr A A' p' q' := fun m a b => by
  obtain ⟨e1, e2, e3⟩ := e
  obtain ⟨g1, g2⟩ := h m (by omega)
  exact ⟨by rw [e1], by rw [e2], g1, g2, by rw [e3]⟩
theorem c_fb_all {A A' : Nat → Int → Int} {p p' q' : Int} (h : c_fb A A' p p) (e : c_ke A A') : c_agr A A' p' q' := fun m _ _ => by
  obtain ⟨e1, e2, e3⟩ := e
  obtain ⟨g1, g2⟩ := h m (by omega)
  exact ⟨by rw [e1], by rw [e2], g1, g2, by rw [e3]⟩
theorem c_OpA_agr {A A' : Nat → Int → Int} {i : Nat} {v p q : Int} (w : c_OpA A i v p q) (h : c_agr A A' p q) : c_OpA A' i v p q := c_Op_map (fun _ _ _ g => c_W_in g) w (fun m a b => ⟨(h m a b).1, (h m a b).2.1, (h m a b).2.2.1⟩) (fun _ _ _ a b g => c_W_fr g (c_agr_x (c_agr_sub h a b)))
theorem c_W_agr {A A' : Nat → Int → Int} {i : Nat} {v p q : Int} (w : c_W A i v p q) (h : c_agr A A' p q) : c_W A' i v p q := c_W_fr w (c_agr_x h)
theorem c_Bd_agr {A A' : Nat → Int → Int} {i : Nat} {v p q : Int} (w : c_Bd A (c_W A i) v p q) (h : c_agr A A' p q) : c_Bd A' (c_W A' i) v p q := c_Bd_map w h (fun _ _ _ a b g => c_W_fr g (c_agr_x (c_agr_sub h a b)))
theorem c_Ch_agr {P : (Nat → Int → Int) → Nat → Int → Int → Int → Prop} (hP : c_Fam P) {A A' : Nat → Int → Int} {i : Nat} {f p q : Int} (h : c_Ch (A 31) (P A i) f p q) (ha : c_agr A A' p q) : c_Ch (A' 31) (P A' i) f p q := c_Ch_map h (fun m a b => (ha m a b).2.2.2.2) (fun m p' r a b c d g => hP _ _ _ _ _ _ c d (c_agr_x (c_agr_sub ha a b)) g)
/-- one operation that waits, at place m: what is still to come lies in [p, q) and not in [x, y) -/
def c_Ent (A : Nat → Int → Int) (i : Nat) (m x y p q e : Int) : Prop := (1500 ≤ m ∧ e = 1) ∨ (m < 1500 ∧
  ((A 42 m = 0 ∧ x = y ∧ (A 27 (A 41 m) = 8 ∨ A 27 (A 41 m) = 9) ∧ c_OpA A i (A 41 m) p q ∧ e = 2 * (q - p) - 2) ∨
   (A 42 m = 1 ∧ (A 27 (A 41 m) = 8 ∧ 0 ≤ A 41 m ∧ A 41 m < 3016) ∧ (∃ r s, c_OpA A i (A 29 (A 41 m)) r s ∧ y ≤ r ∧ p ≤ r ∧ s ≤ q ∧ e = 2 * (s - r))) ∨
   (A 42 m = 1 ∧ (A 27 (A 41 m) = 9 ∧ 0 ≤ A 41 m ∧ A 41 m < 3016) ∧ e = 1) ∨ (A 42 m = 2 ∧ (A 27 (A 41 m) = 8 ∧ 0 ≤ A 41 m ∧ A 41 m < 3016) ∧ e = 1)))
def c_Stk (A : Nat → Int → Int) (i : Nat) (P Q : Int) : Nat → Int → Int → Int → Int → Prop
  | 0 => fun _ x y c => P ≤ x ∧ y ≤ Q ∧ c = 0
  | k + 1 => fun m x y c => ∃ p q e, 0 ≤ m ∧ p ≤ x ∧ y ≤ q ∧ c_Ent A i m x y p q e ∧ c_Stk A i P Q k (m - 1) p q (c - e)
theorem c_Ent_fr {A A' : Nat → Int → Int} {i : Nat} {m x y p q e : Int} (h : c_Ent A i m x y p q e) (h1 : A' 41 m = A 41 m) (h2 : A' 42 m = A 42 m) (ek : c_ke A A') (hf : c_fb A A' x y) : c_Ent A' i m x y p q e := by
  rcases h with h | ⟨h0, h⟩
  · exact Or.inl h
  · refine Or.inr ⟨h0, ?_⟩
    rw [h1, h2, ek.1]
    rcases h with ⟨g1, g2, g3, g4, g5⟩ | ⟨g1, g2, r, s, g3, g4, g5, g6, g7⟩ | h | h
    · subst g2
      exact Or.inl ⟨g1, rfl, g3, c_OpA_agr g4 (c_fb_all hf ek), g5⟩
    · refine Or.inr (Or.inl ⟨g1, g2, r, s, ?_, g4, g5, g6, g7⟩)
      rw [(hf (A 41 m) (Or.inl (by omega))).1]
      exact c_OpA_agr g3 (c_fb_r hf ek (Or.inr g4))
    · exact Or.inr (Or.inr (Or.inl h))
    · exact Or.inr (Or.inr (Or.inr h))
theorem c_Stk_fr {A A' : Nat → Int → Int} {i : Nat} {P Q : Int} (ek : c_ke A A') : ∀ {k : Nat} {m x y c : Int}, c_Stk A i P Q k m x y c → (∀ j, 0 ≤ j → j ≤ m → A' 41 j = A 41 j ∧ A' 42 j = A 42 j) → c_fb A A' x y → c_Stk A' i P Q k m x y c
  | 0, _, _, _, _, h, _, _ => h
  | k + 1, m, x, y, c, h, hw, hf => by
    obtain ⟨p, q, e, h0, h1, h2, h3, h4⟩ := h
    have hm := hw m h0 (Int.le_refl _)
    exact ⟨p, q, e, h0, h1, h2, c_Ent_fr h3 hm.1 hm.2 ek hf, c_Stk_fr ek h4 (fun j a b => hw j a (by omega)) (fun j g => hf j (by omega))⟩
theorem c_OpA_two {A : Nat → Int → Int} {i : Nat} {v p q : Int} (w : c_OpA A i v p q) (hk : A 27 v = 8 ∨ A 27 v = 9) : p + 2 ≤ q := by
  rcases c_Op.casesX w with ⟨h1, h2, h3⟩ | ⟨r, s, h1, h2, h3, h4, h5⟩ | ⟨r, h1, h2, h3, h4⟩
  · omega
  · have a := c_OpA_in h2
    have b := c_OpA_in h3
    omega
  · have a := c_OpA_in h2
    omega
theorem c_Ent_pos {A : Nat → Int → Int} {i : Nat} {m x y p q e : Int} (h : c_Ent A i m x y p q e) : 1 ≤ e := by
  rcases h with h | ⟨h0, h⟩
  · omega
  · rcases h with ⟨g1, g2, g3, g4, g5⟩ | ⟨g1, g2, r, s, g3, g4, g5, g6, g7⟩ | h | h
    · have := c_OpA_two g4 g3
      omega
    · have := c_OpA_in g3
      omega
    · omega
    · omega
theorem c_Stk_pos {A : Nat → Int → Int} {i : Nat} {P Q : Int} : ∀ {k : Nat} {m x y c : Int}, c_Stk A i P Q k m x y c → (k : Int) ≤ c
  | 0, _, _, _, _, h => by have := h.2.2; omega
  | k + 1, m, x, y, c, h => by
    obtain ⟨p, q, e, h0, h1, h2, h3, h4⟩ := h
    have a := c_Stk_pos h4
    have b := c_Ent_pos h3
    omega
theorem c_Stk_win {A : Nat → Int → Int} {i : Nat} {P Q : Int} : ∀ {k : Nat} {m x y c : Int}, c_Stk A i P Q k m x y c → P ≤ x ∧ y ≤ Q
  | 0, _, _, _, _, h => ⟨h.1, h.2.1⟩
  | k + 1, m, x, y, c, h => by
    obtain ⟨p, q, e, h0, h1, h2, h3, h4⟩ := h
    have a := c_Stk_win h4
    exact ⟨by omega, by omega⟩
/-- the first operation -/
theorem c_Stk_one {A : Nat → Int → Int} {i : Nat} {P Q m n : Int} (w : c_OpA A i n P Q) (hk : A 27 n = 8 ∨ A 27 n = 9) (h0 : 0 ≤ m) (h1 : m < 1500 → A 41 m = n ∧ A 42 m = 0) : ∃ c, c_Stk A i P Q 1 m P P c ∧ c ≤ 2 * (Q - P) - 2 := by
  have h2 := c_OpA_two w hk
  by_cases e : m < 1500
  · obtain ⟨a, b⟩ := h1 e
    exact ⟨2 * (Q - P) - 2, ⟨P, Q, 2 * (Q - P) - 2, h0, Int.le_refl _, by omega, Or.inr ⟨e, Or.inl ⟨b, rfl, by rw [a]; exact hk, by rw [a]; exact w, rfl⟩⟩, Int.le_refl _, Int.le_refl _, by omega⟩, Int.le_refl _⟩
  · exact ⟨1, ⟨P, Q, 1, h0, Int.le_refl _, by omega, Or.inl ⟨by omega, rfl⟩, Int.le_refl _, Int.le_refl _, by omega⟩, by omega⟩
/-- one operation more: the hole is its window -/
theorem c_Stk_push {A A' : Nat → Int → Int} {i : Nat} {P Q : Int} {k : Nat} {m x y c n : Int} (h : c_Stk A i P Q k m x y c) (w : c_OpA A i n x y) (hk : A 27 n = 8 ∨ A 27 n = 9) (hm : -1 ≤ m) (ek : c_ke A A') (hb : A' 29 = A 29 ∧ A' 30 = A 30) (hw : ∀ j, 0 ≤ j → j ≤ m → A' 41 j = A 41 j ∧ A' 42 j = A 42 j) (h1 : m + 1 < 1500 → A' 41 (m + 1) = n ∧ A' 42 (m + 1) = 0) : ∃ c', c_Stk A' i P Q (k + 1) (m + 1) x x c' ∧ c' ≤ c + 2 * (y - x) - 2 := by
  have h2 := c_OpA_two w hk
  have hf : c_fb A A' x y := fun j _ => ⟨by rw [hb.1], by rw [hb.2]⟩
  have h' := c_Stk_fr ek h hw hf
  have w' : c_OpA A' i n x y := c_OpA_agr w (fun j _ _ => ⟨by rw [ek.1], by rw [ek.2.1], by rw [hb.1], by rw [hb.2], by rw [ek.2.2]⟩)
  by_cases e : m + 1 < 1500
  · obtain ⟨a, b⟩ := h1 e
    refine ⟨c + (2 * (y - x) - 2), ⟨x, y, 2 * (y - x) - 2, by omega, Int.le_refl _, by omega, Or.inr ⟨e, Or.inl ⟨b, rfl, by rw [a, ek.1]; exact hk, by rw [a]; exact w', rfl⟩⟩, ?_⟩, by omega⟩
    rw [show m + 1 - 1 = m by omega, show c + (2 * (y - x) - 2) - (2 * (y - x) - 2) = c by omega]
    exact h'
  · refine ⟨c + 1, ⟨x, y, 1, by omega, Int.le_refl _, by omega, Or.inl ⟨by omega, rfl⟩, ?_⟩, by omega⟩
    rw [show m + 1 - 1 = m by omega, show c + 1 - 1 = c by omega]
    exact h'
/-- what the next operand is -/
def c_nop (A A' : Nat → Int → Int) (m n v : Int) : Prop := c_ke A A' ∧ A' 29 = A 29 ∧ A' 30 = A 30 ∧ A' 41 = A 41 ∧ (∀ j, j ≠ m → A' 42 j = A 42 j) ∧ ((m < 1500 ∧ (A 42 m = 0 ∨ A 42 m = 1 → A' 42 m = A 42 m + 1) ∧ ((A 42 m = 0 ∧ c_rd (A 28) n v) ∨ (A 42 m = 1 ∧ c_rd (fun j => if A 27 j = 8 then A 29 j else -1) n v) ∨ (A 42 m ≠ 0 ∧ A 42 m ≠ 1 ∧ v = -1))) ∨ (1500 ≤ m ∧ v = -1))
theorem c_Stk_next {A A' : Nat → Int → Int} {i : Nat} {P Q : Int} {k : Nat} {m x y c n v : Int} (h : c_Stk A i P Q (k + 1) m x y c) (hP : 0 ≤ P) (hQ : Q ≤ 3016) (hn : m < 1500 → n = A 41 m) (ho : c_nop A A' m n v) : (v = -1 ∧ ∃ x' y' c', c_Stk A' i P Q k (m - 1) x' y' c' ∧ c' + 1 ≤ c) ∨ (¬ v = -1 ∧ ∃ x' y' c', P ≤ x' ∧ y' ≤ Q ∧ c_OpA A' i v x' y' ∧ c_Stk A' i P Q (k + 1) m x' y' c' ∧ c' + 1 ≤ c ∧ c' + 2 * (y' - x') - 1 ≤ c) := by
  obtain ⟨p, q, e, h0, h1, h2, h3, h4⟩ := h
  obtain ⟨ek, o1, o2, o3, o4, o5⟩ := ho
  have hf : ∀ x y, c_fb A A' x y := fun x y j _ => ⟨by rw [o1], by rw [o2]⟩
  have hr : ∀ p q, c_agr A A' p q := fun p q j _ _ => ⟨by rw [ek.1], by rw [ek.2.1], by rw [o1], by rw [o2], by rw [ek.2.2]⟩
  have h4' : c_Stk A' i P Q k (m - 1) p q (c - e) := c_Stk_fr ek h4 (fun j a b => ⟨by rw [o3], o4 j (by omega)⟩) (hf p q)
  have hpq := c_Stk_win h4
  rcases h3 with ⟨g0, g1⟩ | ⟨g0, h3⟩
  · rcases o5 with ⟨o6, -⟩ | ⟨-, o6⟩
    · omega
    · exact Or.inl ⟨o6, p, q, c - e, h4', by omega⟩
  · rcases o5 with ⟨-, o6, o7⟩ | ⟨o6, -⟩
    · have hn' := hn g0
      rcases h3 with ⟨g1, g2, g3, g4, g5⟩ | ⟨g1, g2, r, s, g3, g4, g5, g6, g7⟩ | ⟨g1, g2, g3⟩ | ⟨g1, g2, g3⟩
      · have hin := c_OpA_in g4
        have hv : v = A 28 (A 41 m) := by
          rcases o7 with ⟨-, o7⟩ | ⟨o7, -⟩ | ⟨o7, -⟩
          · rw [← hn']; exact c_rd_eq o7 (by omega) (by omega)
          · omega
          · omega
        rcases c_Op.casesX g4 with ⟨f1, f2, f3⟩ | ⟨r, s, f1, f2, f3, f4, f5⟩ | ⟨r, f1, f2, f3, f4⟩
        · omega
        · have i1 := c_OpA_in f2
          have i2 := c_OpA_in f3
          refine Or.inr ⟨by omega, p, r, c - e + 2 * (s - r), by omega, by omega, ?_, ⟨p, q, 2 * (s - r), h0, Int.le_refl _, by omega, Or.inr ⟨g0, Or.inr (Or.inl ⟨by omega, ⟨by rw [o3, ek.1]; exact f1, by rw [o3]; omega, by rw [o3]; omega⟩, r, s, ?_, Int.le_refl _, by omega, by omega, rfl⟩)⟩, ?_⟩, by omega, by omega⟩
          · rw [hv]; exact c_OpA_agr f2 (hr _ _)
          · rw [o3, o1]; exact c_OpA_agr f3 (hr _ _)
          · rw [show c - e + 2 * (s - r) - 2 * (s - r) = c - e by omega]; exact h4'
        · have i1 := c_OpA_in f2
          refine Or.inr ⟨by omega, p, r, c - e + 1, by omega, by omega, ?_, ⟨p, q, 1, h0, Int.le_refl _, by omega, Or.inr ⟨g0, Or.inr (Or.inr (Or.inl ⟨by omega, ⟨by rw [o3, ek.1]; exact f1, by rw [o3]; omega, by rw [o3]; omega⟩, rfl⟩))⟩, ?_⟩, by omega, by omega⟩
          · rw [hv]; exact c_OpA_agr f2 (hr _ _)
          · rw [show c - e + 1 - 1 = c - e by omega]; exact h4'
      · have i1 := c_OpA_in g3
        have hz := g2.2
        have hv : v = A 29 (A 41 m) := by
          rcases o7 with ⟨o7, -⟩ | ⟨-, o7⟩ | ⟨-, o7, -⟩
          · omega
          · rw [← hn'] at hz ⊢
            rw [c_rd_eq o7 hz.1 hz.2]
            rw [hn']
            exact if_pos g2.1
          · omega
        refine Or.inr ⟨by omega, r, s, c - e + 1, by omega, by omega, ?_, ⟨p, q, 1, h0, by omega, by omega, Or.inr ⟨g0, Or.inr (Or.inr (Or.inr ⟨by omega, ⟨by rw [o3, ek.1]; exact g2.1, by rw [o3]; omega, by rw [o3]; omega⟩, rfl⟩))⟩, ?_⟩, by omega, by omega⟩
        · rw [hv]; exact c_OpA_agr g3 (hr _ _)
        · rw [show c - e + 1 - 1 = c - e by omega]; exact h4'
      · have hz := g2.2
        have hv : v = -1 := by
          rcases o7 with ⟨o7, -⟩ | ⟨-, o7⟩ | ⟨-, o7, -⟩
          · omega
          · rw [← hn'] at hz
            rw [c_rd_eq o7 hz.1 hz.2, hn']
            exact if_neg (by omega)
          · omega
        exact Or.inl ⟨hv, p, q, c - e, h4', by omega⟩
      · have hv : v = -1 := by
          rcases o7 with ⟨o7, -⟩ | ⟨o7, -⟩ | ⟨-, -, o7⟩
          · omega
          · omega
          · exact o7
        exact Or.inl ⟨hv, p, q, c - e, h4', by omega⟩
    · omega
end CStk
section CStk2
theorem c_Ch_ne {nx : Int → Int} {P : Int → Int → Int → Prop} {n p q : Int} (h : c_Ch nx P n p q) (hn : ¬ n = -1) : ∃ r, p ≤ n ∧ n < r ∧ r ≤ q ∧ P n p r ∧ c_Ch nx P (nx n) r q := by
  rcases h.casesX with ⟨e, -⟩ | ⟨r, h1, h2, h3, h4⟩
  · exact absurd e hn
  · exact ⟨r, h1, h2, c_Ch_le h4, h3, h4⟩
theorem c_Pr_in {k a b : Int → Int} {R : Int → Int → Int → Prop} (hi : ∀ m p' q', R m p' q' → p' ≤ m ∧ m < q') {n p q : Int} (h : c_Pr k a b R n p q) : p ≤ n ∧ n < q := by
  rcases h.casesX with ⟨-, h⟩ | ⟨-, h1, h2, -⟩
  · exact hi _ _ _ h
  · exact ⟨h1, h2⟩
theorem c_Pr_7 {k a b : Int → Int} {R : Int → Int → Int → Prop} {n p q : Int} (h : c_Pr k a b R n p q) (hk : k n = 7) : R (a n) p n ∧ c_Pr k a b R (b n) (n + 1) q := by
  rcases h.casesX with ⟨h, -⟩ | ⟨-, h1, h2, h3, h4⟩
  · exact absurd hk h
  · exact ⟨h3, h4⟩
theorem c_Pr_no {k a b : Int → Int} {R : Int → Int → Int → Prop} {n p q : Int} (h : c_Pr k a b R n p q) (hk : ¬ k n = 7) : R n p q := by
  rcases h.casesX with ⟨-, h⟩ | ⟨h, -⟩
  · exact h
  · exact absurd h hk
theorem c_Pr_three {k a b : Int → Int} {R : Int → Int → Int → Prop} (hi : ∀ m p' q', R m p' q' → p' ≤ m ∧ m < q') {n p q : Int} (h : c_Pr k a b R n p q) (hk : k n = 7) : p + 3 ≤ q := by
  obtain ⟨h1, h2⟩ := c_Pr_7 h hk
  have a1 := hi _ _ _ h1
  have a2 := c_Pr_in hi h2
  omega
theorem c_Pr_agr {A A' : Nat → Int → Int} {i : Nat} {v p q : Int} (w : c_Pr (A 27) (A 28) (A 29) (c_W A i) v p q) (h : c_agr A A' p q) : c_Pr (A' 27) (A' 28) (A' 29) (c_W A' i) v p q := c_Pr_map w (fun _ _ _ g => c_W_in g) (fun m a b => ⟨(h m a b).1, (h m a b).2.1, (h m a b).2.2.1⟩) (fun _ _ _ a b g => c_W_fr g (c_agr_x (c_agr_sub h a b)))
end CStk2
section CStk3
def c_awt (A A' : Nat → Int → Int) (w n : Int) : Prop := c_ke A A' ∧ (A' 29 = A 29 ∧ A' 30 = A 30) ∧ (∀ j, j ≠ w → A' 41 j = A 41 j ∧ A' 42 j = A 42 j) ∧ (0 ≤ w → w < 1500 → A' 41 w = n ∧ A' 42 w = 0)
/-- the stack, however high -/
def c_Stq (A : Nat → Int → Int) (i : Nat) (P Q base w t : Int) : Prop := ∃ (k : Nat) (x y c : Int), c_Stk A i P Q k (w - 1) x y c ∧ (k : Int) = w - base ∧ t + c ≤ 6000
theorem c_Stq_end {A : Nat → Int → Int} {i : Nat} {P Q base w t : Int} (h : c_Stq A i P Q base w t) (h1 : 6000 ≤ t ∨ w ≤ base) : w = base := by
  obtain ⟨k, x, y, c, h2, h3, h4⟩ := h
  have := c_Stk_pos h2
  omega
theorem c_Stq_one {A A' : Nat → Int → Int} {i : Nat} {P Q n base : Int} (w : c_OpA A i n P Q) (hk : A 27 n = 8 ∨ A 27 n = 9) (h0 : 0 ≤ base) (hP : 0 ≤ P) (hQ : Q ≤ 3001) (ha : c_awt A A' base n) : c_Stq A' i P Q base (base + 1) 0 := by
  obtain ⟨ek, hb, hw, h1⟩ := ha
  have w' : c_OpA A' i n P Q := c_OpA_agr w (fun j _ _ => ⟨by rw [ek.1], by rw [ek.2.1], by rw [hb.1], by rw [hb.2], by rw [ek.2.2]⟩)
  obtain ⟨c, hc, hc2⟩ := c_Stk_one (m := base) w' (by rw [ek.1]; exact hk) h0 (fun e => h1 h0 e)
  refine ⟨1, P, P, c, ?_, by omega, by omega⟩
  rw [show base + 1 - 1 = base by omega]
  exact hc
/-- the top has no operand left, or it has one -/
theorem c_Stq_next {A A' : Nat → Int → Int} {i : Nat} {P Q base w t n v : Int} (h : c_Stq A i P Q base w t) (hw : base < w) (hP : 0 ≤ P) (hQ : Q ≤ 3016) (hn : w - 1 < 1500 → n = A 41 (w - 1)) (ho : c_nop A A' (w - 1) n v) : (v = -1 ∧ c_Stq A' i P Q base (w - 1) (t + 1)) ∨ (¬ v = -1 ∧ ∃ (k : Nat) (x y c : Int), P ≤ x ∧ y ≤ Q ∧ c_OpA A' i v x y ∧ c_Stk A' i P Q k (w - 1) x y c ∧ (k : Int) = w - base ∧ t + 1 + c ≤ 6000 ∧ t + 1 + c + 2 * (y - x) - 2 ≤ 6000) := by
  obtain ⟨k, x, y, c, h2, h3, h4⟩ := h
  obtain ⟨k, rfl⟩ : ∃ k0, k = k0 + 1 := ⟨k - 1, by omega⟩
  rcases c_Stk_next h2 hP hQ hn ho with ⟨e, x', y', c', g1, g2⟩ | ⟨e, x', y', c', g1, g2, g3, g4, g5, g6⟩
  · exact Or.inl ⟨e, k, x', y', c', g1, by omega, by omega⟩
  · exact Or.inr ⟨e, k + 1, x', y', c', g1, g2, g3, g4, by omega, by omega, by omega⟩
theorem c_Stk_fr2 {A A' : Nat → Int → Int} {i : Nat} {P Q : Int} {k : Nat} {m x y c a b w : Int} (h : c_Stk A i P Q k m x y c) (ek : c_ke A A') (hf : c_fb A A' a b) (hw : c_wk A A' w) (hm : m < w) (hd : b ≤ a ∨ (x ≤ a ∧ b ≤ y)) : c_Stk A' i P Q k m x y c := c_Stk_fr ek h (fun j u v => hw j u (by omega)) (fun j g => hf j (by omega))
theorem c_Stq_push {A A' : Nat → Int → Int} {i : Nat} {P Q base w t : Int} {k : Nat} {x y c n : Int} (h : c_Stk A i P Q k (w - 1) x y c) (wo : c_OpA A i n x y) (hk : A 27 n = 8 ∨ A 27 n = 9) (hw : 0 ≤ w) (h3 : (k : Int) = w - base) (h4 : t + c + 2 * (y - x) - 2 ≤ 6000) (ha : c_awt A A' w n) : c_Stq A' i P Q base (w + 1) t := by
  obtain ⟨ek, hb, hj, h1⟩ := ha
  obtain ⟨c', g1, g2⟩ := c_Stk_push h wo hk (by omega) ek hb (fun j a b => hj j (by omega)) (fun e => by rw [show w - 1 + 1 = w by omega]; exact h1 hw (by omega))
  refine ⟨k + 1, x, x, c', ?_, by omega, by omega⟩
  rw [show w + 1 - 1 = w - 1 + 1 by omega]
  exact g1
theorem c_OpA_no {A : Nat → Int → Int} {i : Nat} {v p q : Int} (w : c_OpA A i v p q) (h : ¬ A 27 v = 8 ∧ ¬ A 27 v = 9) : c_W A i v p q := by
  rcases c_Op.casesX w with ⟨h1, h2, h3⟩ | ⟨r, s, h1, h2, h3, h4, h5⟩ | ⟨r, h1, h2, h3, h4⟩
  · exact h3
  · exact absurd h1 h.1
  · exact absurd h1 h.2
end CStk3
