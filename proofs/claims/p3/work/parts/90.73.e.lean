def m_fst (A : Nat → Int → Int) (n : Int) : Int := if A 53 n = 9 then A 57 n else A 55 n
def m_oc (A : Nat → Int → Int) (ch : Int → Int) (lo : Int → Int × Int) (e c0 c x : Int) : Prop := ∀ k, c0 ≤ k → k + 1 < c → 2 ∣ (k - c0) → (0 ≤ ch k ∧ 2 * ch k + (k - c0) ≤ 2 * e ∧ (lo e).1 ≤ (lo (ch k)).1 ∧ (A 53 (ch k) = 9 ∨ A 53 (ch k) = 10) ∧ (lo (ch k)).2 ≤ (lo e).2) ∧ ((k + 3 < c ∧ m_fst A (ch k) = ch (k + 2)) ∨ (c ≤ k + 3 ∧ m_fst A (ch k) = x))
theorem m_oc_ch {A : Nat → Int → Int} {ch ch' : Int → Int} {lo : Int → Int × Int} {e c0 c x : Int} (h : m_oc A ch lo e c0 c x) (h0 : 0 ≤ c0) (g : ∀ i, 0 ≤ i → i < c → ch' i = ch i) : m_oc A ch' lo e c0 c x := by
  intro k h1 h2 h3
  have q := h k h1 h2 h3
  rw [g k (by omega) (by omega)]
  refine ⟨q.1, ?_⟩
  rcases q.2 with ⟨q1, q2⟩ | q2
  · exact Or.inl ⟨q1, by rw [g (k + 2) (by omega) (by omega)]; exact q2⟩
  · exact Or.inr q2
theorem m_oc_push {A : Nat → Int → Int} {ch ch' : Int → Int} {lo : Int → Int × Int} {e c0 c x : Int} (h : m_oc A ch lo e c0 c x) (h0 : 0 ≤ c0) (hc : c0 ≤ c) (hd : 2 ∣ (c - c0)) (g : ∀ i, 0 ≤ i → i < c → ch' i = ch i) (gx : ch' c = x) (hx : 0 ≤ x ∧ 2 * x + (c - c0) ≤ 2 * e ∧ (lo e).1 ≤ (lo x).1 ∧ (A 53 x = 9 ∨ A 53 x = 10) ∧ (lo x).2 ≤ (lo e).2) : m_oc A ch' lo e c0 (c + 2) (m_fst A x) := by
  intro k h1 h2 h3
  by_cases e1 : k = c
  · subst e1
    rw [gx]
    exact ⟨hx, Or.inr ⟨by omega, rfl⟩⟩
  · have q := h k h1 (by omega) h3
    rw [g k (by omega) (by omega)]
    refine ⟨q.1, Or.inl ⟨by omega, ?_⟩⟩
    rcases q.2 with ⟨q1, q2⟩ | ⟨q1, q2⟩
    · rw [g (k + 2) (by omega) (by omega)]; exact q2
    · rw [show k + 2 = c by omega, gx]; exact q2
theorem m_oc_nil {A : Nat → Int → Int} {ch : Int → Int} {lo : Int → Int × Int} {e c0 x : Int} : m_oc A ch lo e c0 c0 x := fun k h1 h2 => by omega
theorem m_oc_pop {A : Nat → Int → Int} {ch : Int → Int} {lo : Int → Int × Int} {e c0 c x : Int} (h : m_oc A ch lo e c0 c x) (hc : c0 < c) (hd : 2 ∣ (c - c0)) : ((0 ≤ ch (c - 2) ∧ 2 * ch (c - 2) + (c - 2 - c0) ≤ 2 * e ∧ (lo e).1 ≤ (lo (ch (c - 2))).1 ∧ (A 53 (ch (c - 2)) = 9 ∨ A 53 (ch (c - 2)) = 10) ∧ (lo (ch (c - 2))).2 ≤ (lo e).2) ∧ m_fst A (ch (c - 2)) = x) ∧ m_oc A ch lo e c0 (c - 2) (ch (c - 2)) := by
  have q := h (c - 2) (by omega) (by omega) (by omega)
  refine ⟨⟨q.1, ?_⟩, fun k h1 h2 h3 => ?_⟩
  · rcases q.2 with ⟨q1, -⟩ | ⟨-, q2⟩
    · omega
    · exact q2
  · have q := h k h1 (by omega) h3
    refine ⟨q.1, ?_⟩
    by_cases e1 : k + 3 < c - 2
    · refine Or.inl ⟨e1, ?_⟩
      rcases q.2 with ⟨-, q2⟩ | ⟨q1, -⟩
      · exact q2
      · omega
    · refine Or.inr ⟨by omega, ?_⟩
      rcases q.2 with ⟨-, q2⟩ | ⟨q1, -⟩
      · rw [q2]; congr 1; omega
      · omega
/-- the first part of an operation -/
theorem m_fst_ok {lo : Int → Int × Int} {I : Nat → Int} {A : Nat → Int → Int} {n : Int} (h : m_TR lo I A) (h0 : 0 ≤ n) (h1 : n < I 3905) (hk : A 53 n = 9 ∨ A 53 n = 10) : (lo n).1 ≤ (lo (m_fst A n)).1 ∧ 0 ≤ (lo (m_fst A n)).1 ∧ (lo (m_fst A n)).1 ≤ m_fst A n ∧ m_fst A n < n ∧ t_E (A 53 (m_fst A n)) ∧ ((A 53 (m_fst A n) = 9 ∨ A 53 (m_fst A n) = 10) ∨ (lo (m_fst A n)).2 < (lo n).2) ∧ (lo (m_fst A n)).2 ≤ (lo n).2 := by
  have hw := m_rkw (q := m_fst A n) h h0 h1
  unfold m_fst at hw ⊢
  by_cases e : A 53 n = 9
  · rw [if_pos e] at hw ⊢
    obtain ⟨⟨a1, a2, a3, a4, a5⟩, -, -, r1, -⟩ := (h n h0 h1).1.2.2.2.2.2.2.2.1 e
    exact ⟨a1, a2, a3, a4, a5, r1, hw (by omega) a4⟩
  · rw [if_neg e] at hw ⊢
    obtain ⟨⟨a1, a2, a3, a4, a5⟩, r1⟩ := (h n h0 h1).1.2.2.2.2.2.2.2.2.1 (by omega)
    exact ⟨a1, a2, a3, a4, a5, r1, hw (by omega) a4⟩
def m_isOperation_Q (fr : Nat → Bool) (X : Nat → Option (q_C (Nat → Int32))) (u l : Nat) (I : Nat → Int) (A : Nat → Int → Int) (B C : Nat → Nat) (M : w_M) (e : Int) : w_X → w_M → Prop := fun r M' => ((r = .inl (some 1)) ∧ (M' = M) ∧ ((A 53) (e) = 9 ∨ (A 53) (e) = 10)) ∨ ((r = .inl (some 0)) ∧ (M' = M) ∧ (¬ (A 53) (e) = 9 ∧ ¬ (A 53) (e) = 10))
set_option maxHeartbeats 100000000 in
set_option maxRecDepth 100000 in
theorem m_isOperation {L : Nat} {xs : Nat → Int32} {d : Nat} {fr : Nat → Bool} {X : Nat → Option (q_C (Nat → Int32))} {u l : Nat} {I : Nat → Int} {A : Nat → Int → Int} {B C : Nat → Nat} {M : w_M} (e : Int) (hR : w_Rep w_TM fr X u l I A B C M) (hd : 1 ≤ d) (r_e : w_in e) (hn : 0 ≤ e ∧ e < (I 3905) ∧ (I 3393) = (I 3905) ∧ (I 3521) = (I 3905) ∧ (I 3649) = (I 3905)) : w_W (z_P L xs) d 293 (0, [(0, .ref 43), (1, .int (Int32.ofInt (e)))], [], M) (m_isOperation_Q fr X u l I A B C M e) := by
  obtain ⟨ra_e, rb_e⟩ := r_e
  obtain ⟨d, rfl⟩ : ∃ d0, d = d0 + 1 := ⟨d - 1, by omega⟩
  refine w_adv (n := 1) (F' := (1, [(0, .ref 43), (1, .int (Int32.ofInt (e)))], [.ref 43], M)) rfl ?_
  refine w_gf (v := .ref 53) hR rfl rfl rfl rfl ?_
  refine w_adv (n := 1) (F' := (5, [(0, .ref 43), (1, .int (Int32.ofInt (e)))], [.int (Int32.ofInt (e)), .ref 53], M)) rfl ?_
  obtain ⟨r1a, r1b, r1c⟩ : 0 ≤ (I 3393) ∧ (I 3393) ≤ (C 53 : Int) ∧ (C 53 : Int) ≤ 131072 := hR.sz (show 53 ∈ w_TM.2.2 by decide)
  refine w_call (cm := 238) (as := [(0, .ref 53), (1, .int (Int32.ofInt (e)))]) (rest := []) (o := some (10, 53)) rfl (w_fitR hR rfl) (m_get (e) 53 (by decide) rfl hR ⟨by omega, by omega⟩ (show 0 ≤ e by first | assumption | omega) (show e < (C 53 : Int) by first | assumption | omega)) (fun r2 M3 q4 => ?_)
  rcases q4 with ⟨e5, e6⟩
  rw [e5, e6]
  obtain ⟨r7, r8⟩ : -2147483648 ≤ (A 53) (e) ∧ (A 53) (e) ≤ 2147483647 := hR.ra 53 (e)
  show w_W _ _ _ (8, [(0, .ref 43), (1, .int (Int32.ofInt (e)))], [.int (Int32.ofInt ((A 53) (e)))], M) _
  refine w_adv (n := 1) (F' := (10, [(0, .ref 43), (1, .int (Int32.ofInt (e)))], [.int (Int32.ofInt (9)), .int (Int32.ofInt ((A 53) (e)))], M)) rfl ?_
  refine w_br2 (a := (A 53) (e)) (b := 9) rfl rfl ⟨by omega, by omega⟩ ⟨by omega, by omega⟩ (fun h9 => ?_) (fun h9 => ?_)
  · have h9 : (A 53) (e) = 9 := h9
    show w_W _ _ _ (26, [(0, .ref 43), (1, .int (Int32.ofInt (e)))], [], M) _
    refine w_adv (n := 2) (F' := (31, [(0, .ref 43), (1, .int (Int32.ofInt (e)))], [.int (Int32.ofInt (1))], M)) rfl ?_
    refine w_fin (r := .inl (some (1))) (M' := M) rfl ?_
    exact Or.inl ⟨rfl, rfl, (show (A 53) (e) = 9 ∨ (A 53) (e) = 10 by first | assumption | omega)⟩
  · have h9 : ¬ ((A 53) (e) = 9) := h9
    show w_W _ _ _ (13, [(0, .ref 43), (1, .int (Int32.ofInt (e)))], [], M) _
    refine w_adv (n := 1) (F' := (14, [(0, .ref 43), (1, .int (Int32.ofInt (e)))], [.ref 43], M)) rfl ?_
    refine w_gf (v := .ref 53) hR rfl rfl rfl rfl ?_
    refine w_adv (n := 1) (F' := (18, [(0, .ref 43), (1, .int (Int32.ofInt (e)))], [.int (Int32.ofInt (e)), .ref 53], M)) rfl ?_
    refine w_call (cm := 238) (as := [(0, .ref 53), (1, .int (Int32.ofInt (e)))]) (rest := []) (o := some (10, 53)) rfl (w_fitR hR rfl) (m_get (e) 53 (by decide) rfl hR ⟨by omega, by omega⟩ (show 0 ≤ e by first | assumption | omega) (show e < (C 53 : Int) by first | assumption | omega)) (fun r10 M11 q12 => ?_)
    rcases q12 with ⟨e13, e14⟩
    rw [e13, e14]
    show w_W _ _ _ (21, [(0, .ref 43), (1, .int (Int32.ofInt (e)))], [.int (Int32.ofInt ((A 53) (e)))], M) _
    refine w_adv (n := 1) (F' := (23, [(0, .ref 43), (1, .int (Int32.ofInt (e)))], [.int (Int32.ofInt (10)), .int (Int32.ofInt ((A 53) (e)))], M)) rfl ?_
    refine w_br2 (a := (A 53) (e)) (b := 10) rfl rfl ⟨by omega, by omega⟩ ⟨by omega, by omega⟩ (fun h15 => ?_) (fun h15 => ?_)
    · have h15 : ¬ (A 53) (e) = 10 := h15
      show w_W _ _ _ (30, [(0, .ref 43), (1, .int (Int32.ofInt (e)))], [], M) _
      refine w_adv (n := 1) (F' := (31, [(0, .ref 43), (1, .int (Int32.ofInt (e)))], [.int (Int32.ofInt (0))], M)) rfl ?_
      refine w_fin (r := .inl (some (0))) (M' := M) rfl ?_
      exact Or.inr (⟨rfl, rfl, (show ¬ (A 53) (e) = 9 ∧ ¬ (A 53) (e) = 10 by first | assumption | omega)⟩)
    · have h15 : ¬ (¬ (A 53) (e) = 10) := h15
      show w_W _ _ _ (26, [(0, .ref 43), (1, .int (Int32.ofInt (e)))], [], M) _
      refine w_adv (n := 2) (F' := (31, [(0, .ref 43), (1, .int (Int32.ofInt (e)))], [.int (Int32.ofInt (1))], M)) rfl ?_
      refine w_fin (r := .inl (some (1))) (M' := M) rfl ?_
      exact Or.inl ⟨rfl, rfl, (show (A 53) (e) = 9 ∨ (A 53) (e) = 10 by first | assumption | omega)⟩
def m_firstOf_Q (fr : Nat → Bool) (X : Nat → Option (q_C (Nat → Int32))) (u l : Nat) (I : Nat → Int) (A : Nat → Int → Int) (B C : Nat → Nat) (M : w_M) (e : Int) : w_X → w_M → Prop := fun r M' => (∃ v : Int, (r = .inl (some v)) ∧ (w_in v) ∧ (M' = M) ∧ (v = (if (A 53) (e) = 9 then (A 57) (e) else (A 55) (e))))
set_option maxHeartbeats 100000000 in
set_option maxRecDepth 100000 in
theorem m_firstOf {L : Nat} {xs : Nat → Int32} {d : Nat} {fr : Nat → Bool} {X : Nat → Option (q_C (Nat → Int32))} {u l : Nat} {I : Nat → Int} {A : Nat → Int → Int} {B C : Nat → Nat} {M : w_M} (e : Int) (hR : w_Rep w_TM fr X u l I A B C M) (hd : 1 ≤ d) (r_e : w_in e) (hn : 0 ≤ e ∧ e < (I 3905) ∧ (I 3393) = (I 3905) ∧ (I 3521) = (I 3905) ∧ (I 3649) = (I 3905)) : w_W (z_P L xs) d 292 (0, [(0, .ref 43), (1, .int (Int32.ofInt (e)))], [], M) (m_firstOf_Q fr X u l I A B C M e) := by
  obtain ⟨ra_e, rb_e⟩ := r_e
  obtain ⟨d, rfl⟩ : ∃ d0, d = d0 + 1 := ⟨d - 1, by omega⟩
  refine w_adv (n := 1) (F' := (1, [(0, .ref 43), (1, .int (Int32.ofInt (e)))], [.ref 43], M)) rfl ?_
  refine w_gf (v := .ref 53) hR rfl rfl rfl rfl ?_
  refine w_adv (n := 1) (F' := (5, [(0, .ref 43), (1, .int (Int32.ofInt (e)))], [.int (Int32.ofInt (e)), .ref 53], M)) rfl ?_
  obtain ⟨r1a, r1b, r1c⟩ : 0 ≤ (I 3393) ∧ (I 3393) ≤ (C 53 : Int) ∧ (C 53 : Int) ≤ 131072 := hR.sz (show 53 ∈ w_TM.2.2 by decide)
  refine w_call (cm := 238) (as := [(0, .ref 53), (1, .int (Int32.ofInt (e)))]) (rest := []) (o := some (10, 53)) rfl (w_fitR hR rfl) (m_get (e) 53 (by decide) rfl hR ⟨by omega, by omega⟩ (show 0 ≤ e by first | assumption | omega) (show e < (C 53 : Int) by first | assumption | omega)) (fun r2 M3 q4 => ?_)
  rcases q4 with ⟨e5, e6⟩
  rw [e5, e6]
  obtain ⟨r7, r8⟩ : -2147483648 ≤ (A 53) (e) ∧ (A 53) (e) ≤ 2147483647 := hR.ra 53 (e)
  show w_W _ _ _ (8, [(0, .ref 43), (1, .int (Int32.ofInt (e)))], [.int (Int32.ofInt ((A 53) (e)))], M) _
  refine w_adv (n := 1) (F' := (10, [(0, .ref 43), (1, .int (Int32.ofInt (e)))], [.int (Int32.ofInt (9)), .int (Int32.ofInt ((A 53) (e)))], M)) rfl ?_
  refine w_br2 (a := (A 53) (e)) (b := 9) rfl rfl ⟨by omega, by omega⟩ ⟨by omega, by omega⟩ (fun h9 => ?_) (fun h9 => ?_)
  · have h9 : ¬ (A 53) (e) = 9 := h9
    show w_W _ _ _ (24, [(0, .ref 43), (1, .int (Int32.ofInt (e)))], [], M) _
    refine w_adv (n := 1) (F' := (25, [(0, .ref 43), (1, .int (Int32.ofInt (e)))], [.ref 43], M)) rfl ?_
    refine w_gf (v := .ref 55) hR rfl rfl rfl rfl ?_
    refine w_adv (n := 1) (F' := (29, [(0, .ref 43), (1, .int (Int32.ofInt (e)))], [.int (Int32.ofInt (e)), .ref 55], M)) rfl ?_
    obtain ⟨r10a, r10b, r10c⟩ : 0 ≤ (I 3521) ∧ (I 3521) ≤ (C 55 : Int) ∧ (C 55 : Int) ≤ 131072 := hR.sz (show 55 ∈ w_TM.2.2 by decide)
    refine w_call (cm := 238) (as := [(0, .ref 55), (1, .int (Int32.ofInt (e)))]) (rest := []) (o := some (10, 55)) rfl (w_fitR hR rfl) (m_get (e) 55 (by decide) rfl hR ⟨by omega, by omega⟩ (show 0 ≤ e by first | assumption | omega) (show e < (C 55 : Int) by first | assumption | omega)) (fun r11 M12 q13 => ?_)
    rcases q13 with ⟨e14, e15⟩
    rw [e14, e15]
    obtain ⟨r16, r17⟩ : -2147483648 ≤ (A 55) (e) ∧ (A 55) (e) ≤ 2147483647 := hR.ra 55 (e)
    show w_W _ _ _ (32, [(0, .ref 43), (1, .int (Int32.ofInt (e)))], [.int (Int32.ofInt ((A 55) (e)))], M) _
    refine w_fin (r := .inl (some ((A 55) (e)))) (M' := M) rfl ?_
    exact ⟨(A 55) (e), rfl, ⟨by omega, by omega⟩, rfl, (show (A 55) (e) = (if (A 53) (e) = 9 then (A 57) (e) else (A 55) (e)) by first | (rw [if_pos (by omega)]) | (rw [if_neg (by omega)]))⟩
  · have h9 : ¬ (¬ (A 53) (e) = 9) := h9
    show w_W _ _ _ (13, [(0, .ref 43), (1, .int (Int32.ofInt (e)))], [], M) _
    refine w_adv (n := 1) (F' := (14, [(0, .ref 43), (1, .int (Int32.ofInt (e)))], [.ref 43], M)) rfl ?_
    refine w_gf (v := .ref 57) hR rfl rfl rfl rfl ?_
    refine w_adv (n := 1) (F' := (18, [(0, .ref 43), (1, .int (Int32.ofInt (e)))], [.int (Int32.ofInt (e)), .ref 57], M)) rfl ?_
    obtain ⟨r18a, r18b, r18c⟩ : 0 ≤ (I 3649) ∧ (I 3649) ≤ (C 57 : Int) ∧ (C 57 : Int) ≤ 131072 := hR.sz (show 57 ∈ w_TM.2.2 by decide)
    refine w_call (cm := 238) (as := [(0, .ref 57), (1, .int (Int32.ofInt (e)))]) (rest := []) (o := some (10, 57)) rfl (w_fitR hR rfl) (m_get (e) 57 (by decide) rfl hR ⟨by omega, by omega⟩ (show 0 ≤ e by first | assumption | omega) (show e < (C 57 : Int) by first | assumption | omega)) (fun r19 M20 q21 => ?_)
    rcases q21 with ⟨e22, e23⟩
    rw [e22, e23]
    obtain ⟨r24, r25⟩ : -2147483648 ≤ (A 57) (e) ∧ (A 57) (e) ≤ 2147483647 := hR.ra 57 (e)
    show w_W _ _ _ (21, [(0, .ref 43), (1, .int (Int32.ofInt (e)))], [.int (Int32.ofInt ((A 57) (e)))], M) _
    refine w_adv (n := 1) (F' := (32, [(0, .ref 43), (1, .int (Int32.ofInt (e)))], [.int (Int32.ofInt ((A 57) (e)))], M)) rfl ?_
    refine w_fin (r := .inl (some ((A 57) (e)))) (M' := M) rfl ?_
    exact ⟨(A 57) (e), rfl, ⟨by omega, by omega⟩, rfl, (show (A 57) (e) = (if (A 53) (e) = 9 then (A 57) (e) else (A 55) (e)) by first | (rw [if_pos (by omega)]) | (rw [if_neg (by omega)]))⟩
