/-! LAW: the two objects in one memory. -/
section WLaw
def w_dom (T : w_T) (B : Nat → Nat) (k : Nat) : Bool := (T.1 k).isSome || (T.2.1 k).isSome || T.2.2.any (fun j => Nat.beq (B j) k)
variable {T : w_T} {fr fr' : Nat → Bool} {X X' : Nat → Option (q_C (Nat → Int32))} {u l u' l' : Nat} {I : Nat → Int} {A : Nat → Int → Int} {B C : Nat → Nat} {M M' : w_M}
theorem w_dom_o {k ci : Nat} {ds : List (Value ⊕ Bool)} (h : T.1 k = some (ci, ds)) : w_dom T B k = true := by
  unfold w_dom
  rw [h]
  rfl
theorem w_dom_a {k n : Nat} {ty : FieldType} (h : T.2.1 k = some (ty, n)) : w_dom T B k = true := by
  unfold w_dom
  rw [h]
  cases (T.1 k).isSome <;> rfl
theorem w_dom_r {k : Nat} (h : k ∈ T.2.2) : w_dom T B (B k) = true := by
  unfold w_dom
  have : T.2.2.any (fun j => Nat.beq (B j) (B k)) = true := List.any_eq_true.mpr ⟨k, h, Nat.beq_refl _⟩
  rw [this]
  cases (T.1 (B k)).isSome <;> cases (T.2.1 (B k)).isSome <;> rfl
/-- what belongs to a table has a cell -/
theorem w_dom_lt (h : w_Rep T fr X u l I A B C M) {k : Nat} (hk : w_dom T B k = true) : k < M.1.length ∧ fr k = false := by
  obtain ⟨h1, h2, h3, -⟩ := h
  unfold w_dom at hk
  rw [Bool.or_eq_true, Bool.or_eq_true] at hk
  rcases hk with (hk | hk) | hk
  · obtain ⟨⟨ci, ds⟩, hq⟩ := Option.isSome_iff_exists.mp hk
    obtain ⟨g1, g2⟩ := h1 k ci ds hq
    exact ⟨(List.getElem?_eq_some_iff.mp g1).1, g2⟩
  · obtain ⟨⟨ty, n⟩, hq⟩ := Option.isSome_iff_exists.mp hk
    obtain ⟨g1, g2, -⟩ := h2 k ty n hq
    exact ⟨(List.getElem?_eq_some_iff.mp g1).1, g2⟩
  · obtain ⟨j, hj, e⟩ := List.any_eq_true.mp hk
    have e2 : B j = k := Nat.eq_of_beq_eq_true e
    obtain ⟨g1, g2, -⟩ := h3 j hj
    rw [e2] at g1 g2
    exact ⟨(List.getElem?_eq_some_iff.mp g1).1, g2⟩
/-- another memory, in which the table's cells are as they were -/
theorem w_Rep.move (h : w_Rep T fr X u l I A B C M) (hk : ∀ k, w_dom T B k = true → M'.1[k]? = M.1[k]?) (hf : ∀ k, fr' k = true → M'.1[k]? = X' k ∧ k < M'.1.length) (hd : ∀ k, w_dom T B k = true → fr' k = false) (h1 : M'.2.1 = M'.1.length) (h2 : M'.2.2 = u' + 2 * w_sum C T.2.2) (h3 : 64 * M'.1.length ≤ l' + w_sum C T.2.2) (h4 : l' ≤ 8000000) : w_Rep T fr' X' u' l' I A B C M' := by
  obtain ⟨g1, g2, g3, g4, g5, g6, g7, g8, g9⟩ := h
  refine ⟨fun k ci ds e => ?_, fun k ty n e => ?_, fun k e => ?_, g4, hf, g6, g7, ⟨h1, h2, h3, h4⟩, g9⟩
  · exact ⟨by rw [hk k (w_dom_o e)]; exact (g1 k ci ds e).1, hd k (w_dom_o e)⟩
  · obtain ⟨a1, a2, a3⟩ := g2 k ty n e
    exact ⟨by rw [hk k (w_dom_a e)]; exact a1, hd k (w_dom_a e), a3⟩
  · obtain ⟨a1, a2, a3⟩ := g3 k e
    exact ⟨by rw [hk (B k) (w_dom_r e)]; exact a1, hd (B k) (w_dom_r e), a3⟩
theorem w_sum_nil {C : Nat → Nat} : w_sum C [] = 0 := rfl
/-- both objects -/
def w_Two (u l : Nat) (I : Nat → Int) (A : Nat → Int → Int) (B C : Nat → Nat) (J : Nat → Int) (E : Nat → Int → Int) (F G : Nat → Nat) (M : w_M) : Prop := w_Rep w_TC (w_dom w_TM F) (fun k => M.1[k]?) M.2.2 (64 * M.1.length) I A B C M ∧ w_Rep w_TM (w_dom w_TC B) (fun k => M.1[k]?) u l J E F G M ∧ l ≤ 200000
theorem w_sumM (h : w_Rep T fr X u l I A B C M) : w_sum C T.2.2 ≤ 4194304 := by
  obtain ⟨-, -, h3, -, -, -, -, -, -, -, h10⟩ := h
  have h := w_sum_le (C := C) (m := 131072) (l := T.2.2) (fun k hk => (h3 k hk).2.2.2.2.2.1)
  exact Nat.le_trans h (Nat.mul_le_mul_right 131072 h10)
set_option maxRecDepth 100000 in
/-- behind a call of the class, with e throws -/
theorem w_Two.cls {u l : Nat} {I : Nat → Int} {A : Nat → Int → Int} {B C : Nat → Nat} {J : Nat → Int} {E : Nat → Int → Int} {F G : Nat → Nat} {M : w_M} (h : w_Two u l I A B C J E F G M) (e : Nat) (he : l + 64 * e ≤ 200000) {I' : Nat → Int} {A' : Nat → Int → Int} {B' C' : Nat → Nat} {M' : w_M} (g : w_Rep w_TC (w_dom w_TM F) (fun k => M.1[k]?) (M.2.2 + 6 * e) (64 * M.1.length + 64 * e) I' A' B' C' M') : w_Two (u + 6 * e) (l + 64 * e) I' A' B' C' J E F G M' := by
  obtain ⟨h1, h2, h3⟩ := h
  have hs := w_sumM h2
  have hk : ∀ k, w_dom w_TM F k = true → M'.1[k]? = M.1[k]? := fun k q => (g.2.2.2.2.1 k q).1
  have gd := g.2.2.2.2.2.2.2.1
  have hd := h2.2.2.2.2.2.2.2.1
  have hn : w_sum C' w_TC.2.2 = 0 := rfl
  rw [hn] at gd
  have dis : ∀ k, w_dom w_TC B' k = true → w_dom w_TM F k = false := fun k q => (w_dom_lt g q).2
  have dis2 : ∀ k, w_dom w_TM F k = true → w_dom w_TC B' k = false := fun k q => by
    cases e2 : w_dom w_TC B' k with
    | false => rfl
    | true => rw [dis k e2] at q; cases q
  have k2 : w_Rep w_TM (w_dom w_TC B') (fun k => M'.1[k]?) (u + 6 * e) (l + 64 * e) J E F G M' := w_Rep.move h2 hk (fun k q => ⟨rfl, (w_dom_lt g q).1⟩) dis2 gd.1 (by omega) (by omega) (by omega)
  exact ⟨w_Rep.move g (fun _ _ => rfl) (fun k q => ⟨rfl, by have := (g.2.2.2.2.1 k q).2; exact this⟩) dis gd.1 (by rw [hn]; omega) (by rw [hn]; omega) (by omega), k2, he⟩
set_option maxRecDepth 100000 in
/-- behind a call of the reference -/
theorem w_Two.ref {u l : Nat} {I : Nat → Int} {A : Nat → Int → Int} {B C : Nat → Nat} {J : Nat → Int} {E : Nat → Int → Int} {F G : Nat → Nat} {M : w_M} (h : w_Two u l I A B C J E F G M) {J' : Nat → Int} {E' : Nat → Int → Int} {F' G' : Nat → Nat} {M' : w_M} (g : w_Rep w_TM (w_dom w_TC B) (fun k => M.1[k]?) u l J' E' F' G' M') : w_Two u l I A B C J' E' F' G' M' := by
  obtain ⟨h1, h2, h3⟩ := h
  have hs := w_sumM g
  have hk : ∀ k, w_dom w_TC B k = true → M'.1[k]? = M.1[k]? := fun k q => (g.2.2.2.2.1 k q).1
  have gd := g.2.2.2.2.2.2.2.1
  have hn : w_sum C w_TC.2.2 = 0 := rfl
  have dis : ∀ k, w_dom w_TM F' k = true → w_dom w_TC B k = false := fun k q => (w_dom_lt g q).2
  have dis2 : ∀ k, w_dom w_TC B k = true → w_dom w_TM F' k = false := fun k q => by
    cases e2 : w_dom w_TM F' k with
    | false => rfl
    | true => rw [dis k e2] at q; cases q
  exact ⟨w_Rep.move h1 hk (fun k q => ⟨rfl, (w_dom_lt g q).1⟩) dis2 gd.1 (by rw [hn]; omega) (by rw [hn]; omega) (by omega), w_Rep.move g (fun _ _ => rfl) (fun k q => ⟨rfl, (g.2.2.2.2.1 k q).2⟩) dis gd.1 (by omega) (by omega) (by omega), h3⟩
end WLaw
