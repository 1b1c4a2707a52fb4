/-! START of the law: what holds behind the constructors. -/
theorem z_fn_all {p : Nat → Int32 → Bool} (h0 : ∀ k, p k 0 = true) : ∀ {l : List (Nat × Int32)}, l.all (fun q => p q.1 q.2) = true → ∀ k, p k (q_fn l k) = true
  | [], _, k => h0 k
  | (i, v) :: l, h, k => by
    rw [List.all_cons, Bool.and_eq_true] at h
    show p k (bif Nat.beq k i then v else q_fn l k) = true
    cases e : Nat.beq k i with
    | true => rw [Nat.eq_of_beq_eq_true e]; exact h.1
    | false => exact z_fn_all h0 h.2 k
def z_ltB (a b : Int) (v : Int32) : Bool := decide (a ≤ v.toInt) && decide (v.toInt ≤ b)
theorem z_arr_ltB {k n : Nat} {ty : FieldType} {l : List (Nat × Int32)} {a b : Int} (h : z_m_c95.1[k]? = some (.inl (ty, n, l))) (h0 : z_ltB a b 0 = true) (h1 : l.all (fun q => z_ltB a b q.2) = true) (i : Int) : a ≤ z_arr k i ∧ z_arr k i ≤ b := by
  have g := z_fn_all (p := fun _ v => z_ltB a b v) (fun _ => h0) h1 i.toNat
  unfold z_arr
  rw [h]
  unfold z_ltB at g
  rw [Bool.and_eq_true] at g
  exact ⟨of_decide_eq_true g.1, of_decide_eq_true g.2⟩
theorem z_arr_nb {k n : Nat} {ty : FieldType} {l : List (Nat × Int32)} (h : z_m_c95.1[k]? = some (.inl (ty, n, l))) (h1 : l.all (fun q => z_ltB 0 (24 * (q.1 : Int)) q.2) = true) {i : Int} (hi : 0 ≤ i) : 0 ≤ z_arr k i ∧ z_arr k i ≤ 24 * i := by
  have g := z_fn_all (p := fun k v => z_ltB 0 (24 * (k : Int)) v) (fun k => by
    unfold z_ltB
    rw [Bool.and_eq_true]
    have e0 : (0 : Int32).toInt = 0 := by decide
    rw [e0]
    exact ⟨decide_eq_true (by omega), decide_eq_true (by omega)⟩) h1 i.toNat
  unfold z_arr
  rw [h]
  unfold z_ltB at g
  rw [Bool.and_eq_true] at g
  have g1 := of_decide_eq_true g.1
  have g2 := of_decide_eq_true g.2
  rw [Int.toNat_of_nonneg hi] at g2
  exact ⟨g1, g2⟩
set_option maxRecDepth 1000000 in
theorem z_lC : l_C z_I0 z_arr := ⟨⟨⟨(show (0 : Int) ≤ 0 by decide), (show (0 : Int) ≤ 8192 by decide)⟩, ⟨(show (36 : Int) ≤ 36 by decide), (show (36 : Int) ≤ 419 by decide), (show (0 : Int) ≤ 0 by decide), (show (0 : Int) ≤ 24 by decide)⟩, (show (0 : Int) ≤ 0 by decide), (show (0 : Int) ≤ 10000 by decide)⟩, fun i => (z_arr_ltB (k := 5) (a := -1) (b := 24) rfl (by decide) (by decide +kernel) i).2, fun i => z_arr_ltB (k := 22) (a := -1) (b := 10000) rfl (by decide) (by decide +kernel) i⟩
set_option maxRecDepth 1000000 in
theorem z_E49 : z_E0 49 = z_arr 49 := rfl
set_option maxRecDepth 1000000 in
theorem z_E51 : z_E0 51 = z_arr 51 := rfl
set_option maxRecDepth 1000000 in
theorem z_E70 : z_E0 70 = z_arr 71 := rfl
set_option maxRecDepth 1000000 in
theorem z_lR : l_R z_I0 z_E0 := by
  refine ⟨⟨(show (0 : Int) ≤ 0 by decide), (show (0 : Int) ≤ 8192 by decide)⟩, ⟨⟨rfl, rfl, rfl, rfl, rfl, rfl⟩, ⟨(show (0 : Int) ≤ 0 by decide), (show (0 : Int) ≤ 7 by decide), (show (0 : Int) ≤ 0 by decide)⟩⟩, rfl, ⟨⟨(show (0 : Int) ≤ 10 by decide), (show (0 : Int) ≤ 7 by decide), (show (10 : Int) + 7 ≤ 400 by decide)⟩, fun i h0 h1 => ?_⟩, fun s h0 h1 => ?_, fun i h0 h1 => ?_⟩
  · rw [z_E49, z_E51]
    exact ⟨z_arr_nb (k := 49) rfl (by decide +kernel) h0, z_arr_nb (k := 51) rfl (by decide +kernel) h0⟩
  · exfalso
    have h1 : s < 0 := h1
    omega
  · rw [z_E70]
    have g := z_arr_ltB (k := 71) (a := -1) (b := 399) rfl (by decide) (by decide +kernel) i
    omega
set_option maxRecDepth 1000000 in
theorem z_lP : l_P 0 0 0 z_M0 := ⟨0, z_I0, z_arr, z_B0, z_B0, z_I0, z_E0, z_F0, z_G0, Nat.le_refl 0, z_two0, z_lC, z_lR, rfl, rfl⟩
