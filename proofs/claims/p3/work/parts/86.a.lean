/-! BUILDER of the class: frames. -/
def c_bs (s : Nat) : Bool := Nat.beq (s / 64) 39 || Nat.beq (s / 64) 16
def c_bo (k : Nat) : Bool := c_in 17 21 k || c_in 23 25 k || Nat.beq k 32 || Nat.beq k 36 || Nat.beq k 40
def c_ba (k : Nat) : Bool := c_bo k || Nat.beq k 22 || Nat.beq k 29 || Nat.beq k 30 || c_in 41 42 k
def c_ks (A : Nat → Int → Int) : Prop := ∀ i, -1 ≤ A 22 i ∧ A 22 i ≤ 10000
def c_bz (I : Nat → Int) (A : Nat → Int → Int) (I' : Nat → Int) (A' : Nat → Int → Int) (p q w : Int) : Prop := c_fi c_bs I I' ∧ c_fa c_ba A A' ∧ c_fb A A' p q ∧ c_wk A A' w ∧ (c_ks A → c_ks A')
section CBz
variable {I I' I'' : Nat → Int} {A A' A'' : Nat → Int → Int} {p q w : Int}
theorem c_bz_refl : c_bz I A I A p q w := ⟨c_fi_refl, c_fa_refl, fun _ _ => ⟨rfl, rfl⟩, fun _ _ _ => ⟨rfl, rfl⟩, id⟩
theorem c_bz_ke (h : c_bz I A I' A' p q w) : c_ke A A' := ⟨h.2.1 27 rfl, h.2.1 28 rfl, h.2.1 31 rfl⟩
theorem c_bz_trans {p' q' w' P Q W : Int} (h : c_bz I A I' A' p q w) (g : c_bz I' A' I'' A'' p' q' w') (h1 : P ≤ p) (h2 : q ≤ Q) (h3 : P ≤ p' ∨ q' ≤ p') (h4 : q' ≤ Q ∨ q' ≤ p') (h5 : W ≤ w) (h6 : W ≤ w') : c_bz I A I'' A'' P Q W := by
  refine ⟨c_fi_trans h.1 g.1, c_fa_trans h.2.1 g.2.1, fun m c => ?_, fun m a b => ?_, fun k => g.2.2.2.2 (h.2.2.2.2 k)⟩
  · obtain ⟨a1, a2⟩ := h.2.2.1 m (by omega)
    obtain ⟨b1, b2⟩ := g.2.2.1 m (by rw [(c_bz_ke h).1]; omega)
    exact ⟨b1.trans a1, b2.trans a2⟩
  · obtain ⟨a1, a2⟩ := h.2.2.2.1 m a (by omega)
    obtain ⟨b1, b2⟩ := g.2.2.2.1 m a (by omega)
    exact ⟨b1.trans a1, b2.trans a2⟩
theorem c_bz_up {s : Nat} {v : Int} (h : c_bz I A I' A' p q w) (hs : c_bs s = true) : c_bz I A (w_up I' s v) A' p q w := ⟨c_fi_up h.1 hs, h.2⟩
theorem c_bz_upF {k : Nat} {g : Int → Int} (h : c_bz I A I' A' p q w) (hk : c_bo k = true) : c_bz I A I' (w_upF A' k g) p q w := by
  have hk2 : ∀ j, c_bo j = false → w_upF A' k g j = A' j := fun j e => w_upF_ne (fun e2 => by rw [e2, hk] at e; cases e)
  refine ⟨h.1, c_fa_up h.2.1 (by unfold c_ba; rw [hk]; rfl), fun m c => ?_, fun m a b => ?_, fun c => ?_⟩
  · rw [hk2 29 rfl, hk2 30 rfl]; exact h.2.2.1 m c
  · rw [hk2 41 rfl, hk2 42 rfl]; exact h.2.2.2.1 m a b
  · intro i
    rw [hk2 22 rfl]; exact h.2.2.2.2 c i
theorem c_bz_upS {n : Nat} {j v : Int} {g : Int → Int} (h : c_bz I A I' A' p q w) (hg : g = w_upG n (A' 22) j v) (hv : -1 ≤ v ∧ v ≤ 10000) : c_bz I A I' (w_upF A' 22 g) p q w := by
  have hk2 : ∀ j, j ≠ 22 → w_upF A' 22 g j = A' j := fun j e => w_upF_ne e
  refine ⟨h.1, c_fa_up h.2.1 rfl, fun m c => ?_, fun m a b => ?_, fun c i => ?_⟩
  · rw [hk2 29 (by decide), hk2 30 (by decide)]; exact h.2.2.1 m c
  · rw [hk2 41 (by decide), hk2 42 (by decide)]; exact h.2.2.2.1 m a b
  · rw [w_upF_same, hg]
    unfold w_upG
    by_cases e : 0 ≤ j ∧ j < (n : Int)
    · rw [if_pos e]
      unfold w_upA
      by_cases e2 : i = j
      · rw [if_pos e2]; exact hv
      · rw [if_neg e2]; exact h.2.2.2.2 c i
    · rw [if_neg e]; exact h.2.2.2.2 c i
theorem c_bz_r {p' q' : Int} (h : c_bz I A I' A' p q w) (hd : q' ≤ p ∨ q ≤ p' ∨ q ≤ p) : c_agr A A' p' q' := fun m a b => by
  obtain ⟨e1, e2, e3⟩ := c_bz_ke h
  obtain ⟨g1, g2⟩ := h.2.2.1 m (by omega)
  exact ⟨by rw [e1], by rw [e2], g1, g2, by rw [e3]⟩
theorem c_bz_n {n : Int} (h : c_bz I A I' A' p q w) (hn : A 27 n ≠ 16) : A' 29 n = A 29 n ∧ A' 30 n = A 30 n := h.2.2.1 n (Or.inl hn)
theorem c_bz_b {j v : Int} {g : Int → Int} (h : c_bz I A I' A' p q w) (hg : g = w_upG 3016 (A' 29) j v) (hk : A 27 j = 16) (hj : p ≤ j ∧ j < q) : c_bz I A I' (w_upF A' 29 g) p q w := by
  have hk2 : ∀ k, k ≠ 29 → w_upF A' 29 g k = A' k := fun k e => w_upF_ne e
  refine ⟨h.1, c_fa_up h.2.1 rfl, fun m c => ?_, fun m a b => ?_, fun c i => ?_⟩
  · have hm : m ≠ j := fun e => by rw [e] at c; omega
    rw [w_upF_same, hk2 30 (by decide), hg, w_upG_ne hm]; exact h.2.2.1 m c
  · rw [hk2 41 (by decide), hk2 42 (by decide)]; exact h.2.2.2.1 m a b
  · rw [hk2 22 (by decide)]; exact h.2.2.2.2 c i
theorem c_bz_c {j v : Int} {g : Int → Int} (h : c_bz I A I' A' p q w) (hg : g = w_upG 3016 (A' 30) j v) (hk : A 27 j = 16) (hj : p ≤ j ∧ j < q) : c_bz I A I' (w_upF A' 30 g) p q w := by
  have hk2 : ∀ k, k ≠ 30 → w_upF A' 30 g k = A' k := fun k e => w_upF_ne e
  refine ⟨h.1, c_fa_up h.2.1 rfl, fun m c => ?_, fun m a b => ?_, fun c i => ?_⟩
  · have hm : m ≠ j := fun e => by rw [e] at c; omega
    rw [w_upF_same, hk2 29 (by decide), hg, w_upG_ne hm]; exact h.2.2.1 m c
  · rw [hk2 41 (by decide), hk2 42 (by decide)]; exact h.2.2.2.1 m a b
  · rw [hk2 22 (by decide)]; exact h.2.2.2.2 c i
theorem c_bz_w41 {j v : Int} {g : Int → Int} (h : c_bz I A I' A' p q w) (hg : g = w_upG 1500 (A' 41) j v) (hj : w ≤ j) : c_bz I A I' (w_upF A' 41 g) p q w := by
  have hk2 : ∀ k, k ≠ 41 → w_upF A' 41 g k = A' k := fun k e => w_upF_ne e
  refine ⟨h.1, c_fa_up h.2.1 rfl, fun m c => ?_, fun m a b => ?_, fun c i => ?_⟩
  · rw [hk2 29 (by decide), hk2 30 (by decide)]; exact h.2.2.1 m c
  · rw [w_upF_same, hk2 42 (by decide), hg, w_upG_ne (by omega)]; exact h.2.2.2.1 m a b
  · rw [hk2 22 (by decide)]; exact h.2.2.2.2 c i
theorem c_bz_w42 {j v : Int} {g : Int → Int} (h : c_bz I A I' A' p q w) (hg : g = w_upG 1500 (A' 42) j v) (hj : w ≤ j) : c_bz I A I' (w_upF A' 42 g) p q w := by
  have hk2 : ∀ k, k ≠ 42 → w_upF A' 42 g k = A' k := fun k e => w_upF_ne e
  refine ⟨h.1, c_fa_up h.2.1 rfl, fun m c => ?_, fun m a b => ?_, fun c i => ?_⟩
  · rw [hk2 29 (by decide), hk2 30 (by decide)]; exact h.2.2.1 m c
  · rw [w_upF_same, hk2 41 (by decide), hg, w_upG_ne (by omega)]; exact h.2.2.2.1 m a b
  · rw [hk2 22 (by decide)]; exact h.2.2.2.2 c i
end CBz
theorem c_W_succ {A : Nat → Int → Int} {i : Nat} {n p q : Int} (h : c_W A i n p q) : ∃ j, i = j + 1 := by
  cases i with
  | zero => exact h.elim
  | succ j => exact ⟨j, rfl⟩
def c_Tkind_Q (fr : Nat → Bool) (X : Nat → Option (q_C (Nat → Int32))) (u l : Nat) (I : Nat → Int) (A : Nat → Int → Int) (B C : Nat → Nat) (M : w_M) (n : Int) : w_X → w_M → Prop := fun r M' => (∃ v : Int, (r = .inl (some v)) ∧ (w_in v) ∧ (M' = M) ∧ (c_rd (A 27) n v))
set_option maxHeartbeats 100000000 in
set_option maxRecDepth 100000 in
theorem c_Tkind {L : Nat} {xs : Nat → Int32} {d : Nat} {fr : Nat → Bool} {X : Nat → Option (q_C (Nat → Int32))} {u l : Nat} {I : Nat → Int} {A : Nat → Int → Int} {B C : Nat → Nat} {M : w_M} (n : Int) (hR : w_Rep w_TC fr X u l I A B C M) (hd : 1 ≤ d) (r_n : w_in n) : w_W (z_P L xs) d 135 (0, [(0, .ref 26), (1, .int (Int32.ofInt (n)))], [], M) (c_Tkind_Q fr X u l I A B C M n) := by
  obtain ⟨ra_n, rb_n⟩ := r_n
  obtain ⟨d, rfl⟩ : ∃ d0, d = d0 + 1 := ⟨d - 1, by omega⟩
  refine w_adv (n := 1) (F' := (1, [(0, .ref 26), (1, .int (Int32.ofInt (n)))], [.ref 26], M)) rfl ?_
  refine w_gf (v := .ref 27) hR rfl rfl rfl rfl ?_
  refine w_adv (n := 1) (F' := (5, [(0, .ref 26), (1, .int (Int32.ofInt (n)))], [.int (Int32.ofInt (n)), .ref 27], M)) rfl ?_
  refine w_call (cm := 21) (as := [(0, .ref 27), (1, .int (Int32.ofInt (n)))]) (rest := []) (o := none) rfl (trivial) (c_at (n) 27 3016 rfl (by decide) hR ⟨by omega, by omega⟩) (fun r1 M2 q3 => ?_)
  rcases q3 with ⟨v4, e5, ⟨r6, r7⟩, e8, f9⟩
  rw [e5, e8]
  replace f9 : ((0 ≤ n ∧ n < (3016 : Int) ∧ v4 = (A 27) (n)) ∨ (¬ (0 ≤ n ∧ n < (3016 : Int)) ∧ v4 = -1)) := f9
  show w_W _ _ _ (8, [(0, .ref 26), (1, .int (Int32.ofInt (n)))], [.int (Int32.ofInt (v4))], M) _
  refine w_fin (r := .inl (some (v4))) (M' := M) rfl ?_
  exact ⟨v4, rfl, ⟨by omega, by omega⟩, rfl, (show c_rd (A 27) n v4 by unfold c_rd; intro h; omega)⟩
def c_Ta_Q (fr : Nat → Bool) (X : Nat → Option (q_C (Nat → Int32))) (u l : Nat) (I : Nat → Int) (A : Nat → Int → Int) (B C : Nat → Nat) (M : w_M) (n : Int) : w_X → w_M → Prop := fun r M' => (∃ v : Int, (r = .inl (some v)) ∧ (w_in v) ∧ (M' = M) ∧ (c_rd (A 28) n v))
set_option maxHeartbeats 100000000 in
set_option maxRecDepth 100000 in
theorem c_Ta {L : Nat} {xs : Nat → Int32} {d : Nat} {fr : Nat → Bool} {X : Nat → Option (q_C (Nat → Int32))} {u l : Nat} {I : Nat → Int} {A : Nat → Int → Int} {B C : Nat → Nat} {M : w_M} (n : Int) (hR : w_Rep w_TC fr X u l I A B C M) (hd : 1 ≤ d) (r_n : w_in n) : w_W (z_P L xs) d 145 (0, [(0, .ref 26), (1, .int (Int32.ofInt (n)))], [], M) (c_Ta_Q fr X u l I A B C M n) := by
  obtain ⟨ra_n, rb_n⟩ := r_n
  obtain ⟨d, rfl⟩ : ∃ d0, d = d0 + 1 := ⟨d - 1, by omega⟩
  refine w_adv (n := 1) (F' := (1, [(0, .ref 26), (1, .int (Int32.ofInt (n)))], [.ref 26], M)) rfl ?_
  refine w_gf (v := .ref 28) hR rfl rfl rfl rfl ?_
  refine w_adv (n := 1) (F' := (5, [(0, .ref 26), (1, .int (Int32.ofInt (n)))], [.int (Int32.ofInt (n)), .ref 28], M)) rfl ?_
  refine w_call (cm := 21) (as := [(0, .ref 28), (1, .int (Int32.ofInt (n)))]) (rest := []) (o := none) rfl (trivial) (c_at (n) 28 3016 rfl (by decide) hR ⟨by omega, by omega⟩) (fun r1 M2 q3 => ?_)
  rcases q3 with ⟨v4, e5, ⟨r6, r7⟩, e8, f9⟩
  rw [e5, e8]
  replace f9 : ((0 ≤ n ∧ n < (3016 : Int) ∧ v4 = (A 28) (n)) ∨ (¬ (0 ≤ n ∧ n < (3016 : Int)) ∧ v4 = -1)) := f9
  show w_W _ _ _ (8, [(0, .ref 26), (1, .int (Int32.ofInt (n)))], [.int (Int32.ofInt (v4))], M) _
  refine w_fin (r := .inl (some (v4))) (M' := M) rfl ?_
  exact ⟨v4, rfl, ⟨by omega, by omega⟩, rfl, (show c_rd (A 28) n v4 by unfold c_rd; intro h; omega)⟩
def c_Tb_Q (fr : Nat → Bool) (X : Nat → Option (q_C (Nat → Int32))) (u l : Nat) (I : Nat → Int) (A : Nat → Int → Int) (B C : Nat → Nat) (M : w_M) (n : Int) : w_X → w_M → Prop := fun r M' => (∃ v : Int, (r = .inl (some v)) ∧ (w_in v) ∧ (M' = M) ∧ (c_rd (A 29) n v))
set_option maxHeartbeats 100000000 in
set_option maxRecDepth 100000 in
theorem c_Tb {L : Nat} {xs : Nat → Int32} {d : Nat} {fr : Nat → Bool} {X : Nat → Option (q_C (Nat → Int32))} {u l : Nat} {I : Nat → Int} {A : Nat → Int → Int} {B C : Nat → Nat} {M : w_M} (n : Int) (hR : w_Rep w_TC fr X u l I A B C M) (hd : 1 ≤ d) (r_n : w_in n) : w_W (z_P L xs) d 152 (0, [(0, .ref 26), (1, .int (Int32.ofInt (n)))], [], M) (c_Tb_Q fr X u l I A B C M n) := by
  obtain ⟨ra_n, rb_n⟩ := r_n
  obtain ⟨d, rfl⟩ : ∃ d0, d = d0 + 1 := ⟨d - 1, by omega⟩
  refine w_adv (n := 1) (F' := (1, [(0, .ref 26), (1, .int (Int32.ofInt (n)))], [.ref 26], M)) rfl ?_
  refine w_gf (v := .ref 29) hR rfl rfl rfl rfl ?_
  refine w_adv (n := 1) (F' := (5, [(0, .ref 26), (1, .int (Int32.ofInt (n)))], [.int (Int32.ofInt (n)), .ref 29], M)) rfl ?_
  refine w_call (cm := 21) (as := [(0, .ref 29), (1, .int (Int32.ofInt (n)))]) (rest := []) (o := none) rfl (trivial) (c_at (n) 29 3016 rfl (by decide) hR ⟨by omega, by omega⟩) (fun r1 M2 q3 => ?_)
  rcases q3 with ⟨v4, e5, ⟨r6, r7⟩, e8, f9⟩
  rw [e5, e8]
  replace f9 : ((0 ≤ n ∧ n < (3016 : Int) ∧ v4 = (A 29) (n)) ∨ (¬ (0 ≤ n ∧ n < (3016 : Int)) ∧ v4 = -1)) := f9
  show w_W _ _ _ (8, [(0, .ref 26), (1, .int (Int32.ofInt (n)))], [.int (Int32.ofInt (v4))], M) _
  refine w_fin (r := .inl (some (v4))) (M' := M) rfl ?_
  exact ⟨v4, rfl, ⟨by omega, by omega⟩, rfl, (show c_rd (A 29) n v4 by unfold c_rd; intro h; omega)⟩
def c_Tc_Q (fr : Nat → Bool) (X : Nat → Option (q_C (Nat → Int32))) (u l : Nat) (I : Nat → Int) (A : Nat → Int → Int) (B C : Nat → Nat) (M : w_M) (n : Int) : w_X → w_M → Prop := fun r M' => (∃ v : Int, (r = .inl (some v)) ∧ (w_in v) ∧ (M' = M) ∧ (c_rd (A 30) n v))
set_option maxHeartbeats 100000000 in
set_option maxRecDepth 100000 in
theorem c_Tc {L : Nat} {xs : Nat → Int32} {d : Nat} {fr : Nat → Bool} {X : Nat → Option (q_C (Nat → Int32))} {u l : Nat} {I : Nat → Int} {A : Nat → Int → Int} {B C : Nat → Nat} {M : w_M} (n : Int) (hR : w_Rep w_TC fr X u l I A B C M) (hd : 1 ≤ d) (r_n : w_in n) : w_W (z_P L xs) d 174 (0, [(0, .ref 26), (1, .int (Int32.ofInt (n)))], [], M) (c_Tc_Q fr X u l I A B C M n) := by
  obtain ⟨ra_n, rb_n⟩ := r_n
  obtain ⟨d, rfl⟩ : ∃ d0, d = d0 + 1 := ⟨d - 1, by omega⟩
  refine w_adv (n := 1) (F' := (1, [(0, .ref 26), (1, .int (Int32.ofInt (n)))], [.ref 26], M)) rfl ?_
  refine w_gf (v := .ref 30) hR rfl rfl rfl rfl ?_
  refine w_adv (n := 1) (F' := (5, [(0, .ref 26), (1, .int (Int32.ofInt (n)))], [.int (Int32.ofInt (n)), .ref 30], M)) rfl ?_
  refine w_call (cm := 21) (as := [(0, .ref 30), (1, .int (Int32.ofInt (n)))]) (rest := []) (o := none) rfl (trivial) (c_at (n) 30 3016 rfl (by decide) hR ⟨by omega, by omega⟩) (fun r1 M2 q3 => ?_)
  rcases q3 with ⟨v4, e5, ⟨r6, r7⟩, e8, f9⟩
  rw [e5, e8]
  replace f9 : ((0 ≤ n ∧ n < (3016 : Int) ∧ v4 = (A 30) (n)) ∨ (¬ (0 ≤ n ∧ n < (3016 : Int)) ∧ v4 = -1)) := f9
  show w_W _ _ _ (8, [(0, .ref 26), (1, .int (Int32.ofInt (n)))], [.int (Int32.ofInt (v4))], M) _
  refine w_fin (r := .inl (some (v4))) (M' := M) rfl ?_
  exact ⟨v4, rfl, ⟨by omega, by omega⟩, rfl, (show c_rd (A 30) n v4 by unfold c_rd; intro h; omega)⟩
def c_Tnext_Q (fr : Nat → Bool) (X : Nat → Option (q_C (Nat → Int32))) (u l : Nat) (I : Nat → Int) (A : Nat → Int → Int) (B C : Nat → Nat) (M : w_M) (n : Int) : w_X → w_M → Prop := fun r M' => (∃ v : Int, (r = .inl (some v)) ∧ (w_in v) ∧ (M' = M) ∧ (c_rd (A 31) n v))
set_option maxHeartbeats 100000000 in
set_option maxRecDepth 100000 in
theorem c_Tnext {L : Nat} {xs : Nat → Int32} {d : Nat} {fr : Nat → Bool} {X : Nat → Option (q_C (Nat → Int32))} {u l : Nat} {I : Nat → Int} {A : Nat → Int → Int} {B C : Nat → Nat} {M : w_M} (n : Int) (hR : w_Rep w_TC fr X u l I A B C M) (hd : 1 ≤ d) (r_n : w_in n) : w_W (z_P L xs) d 161 (0, [(0, .ref 26), (1, .int (Int32.ofInt (n)))], [], M) (c_Tnext_Q fr X u l I A B C M n) := by
  obtain ⟨ra_n, rb_n⟩ := r_n
  obtain ⟨d, rfl⟩ : ∃ d0, d = d0 + 1 := ⟨d - 1, by omega⟩
  refine w_adv (n := 1) (F' := (1, [(0, .ref 26), (1, .int (Int32.ofInt (n)))], [.ref 26], M)) rfl ?_
  refine w_gf (v := .ref 31) hR rfl rfl rfl rfl ?_
  refine w_adv (n := 1) (F' := (5, [(0, .ref 26), (1, .int (Int32.ofInt (n)))], [.int (Int32.ofInt (n)), .ref 31], M)) rfl ?_
  refine w_call (cm := 21) (as := [(0, .ref 31), (1, .int (Int32.ofInt (n)))]) (rest := []) (o := none) rfl (trivial) (c_at (n) 31 3016 rfl (by decide) hR ⟨by omega, by omega⟩) (fun r1 M2 q3 => ?_)
  rcases q3 with ⟨v4, e5, ⟨r6, r7⟩, e8, f9⟩
  rw [e5, e8]
  replace f9 : ((0 ≤ n ∧ n < (3016 : Int) ∧ v4 = (A 31) (n)) ∨ (¬ (0 ≤ n ∧ n < (3016 : Int)) ∧ v4 = -1)) := f9
  show w_W _ _ _ (8, [(0, .ref 26), (1, .int (Int32.ofInt (n)))], [.int (Int32.ofInt (v4))], M) _
  refine w_fin (r := .inl (some (v4))) (M' := M) rfl ?_
  exact ⟨v4, rfl, ⟨by omega, by omega⟩, rfl, (show c_rd (A 31) n v4 by unfold c_rd; intro h; omega)⟩
def c_kmk_Q (fr : Nat → Bool) (X : Nat → Option (q_C (Nat → Int32))) (u l : Nat) (I : Nat → Int) (A : Nat → Int → Int) (B C : Nat → Nat) (M : w_M) (k : Int) (x : Int) (a : Int) (b : Int) : w_X → w_M → Prop := fun r M' => (∃ v : Int, ∃ (I' : Nat → Int) (A' : Nat → Int → Int) (B' C' : Nat → Nat), (r = .inl (some v)) ∧ (w_in v) ∧ (w_Rep w_TC fr X u l I' A' B' C' M') ∧ (c_bz I A I' A' 0 0 (I 2503)) ∧ ((I' 2503) = (I 2503) ∧ (0 ≤ (I' 1035) ∧ (I' 1035) ≤ 10000) ∧ (I' 200) = (I 200) ∧ (I' 202) = (I 202)) ∧ ((I' 2502) = (I 2502)))
set_option maxHeartbeats 100000000 in
set_option maxRecDepth 100000 in
theorem c_kmk {L : Nat} {xs : Nat → Int32} {d : Nat} {fr : Nat → Bool} {X : Nat → Option (q_C (Nat → Int32))} {u l : Nat} {I : Nat → Int} {A : Nat → Int → Int} {B C : Nat → Nat} {M : w_M} (k : Int) (x : Int) (a : Int) (b : Int) (hR : w_Rep w_TC fr X u l I A B C M) (hd : 2 ≤ d) (r_k : w_in k) (r_x : w_in x) (r_a : w_in a) (r_b : w_in b) (hKI : 0 ≤ (I 1035) ∧ (I 1035) ≤ 10000) (hW0 : 0 ≤ (I 2503)) : w_W (z_P L xs) d 149 (0, [(0, .ref 16), (1, .int (Int32.ofInt (k))), (2, .int (Int32.ofInt (x))), (3, .int (Int32.ofInt (a))), (4, .int (Int32.ofInt (b)))], [], M) (c_kmk_Q fr X u l I A B C M k x a b) := by
  obtain ⟨ra_k, rb_k⟩ := r_k
  obtain ⟨ra_x, rb_x⟩ := r_x
  obtain ⟨ra_a, rb_a⟩ := r_a
  obtain ⟨ra_b, rb_b⟩ := r_b
  obtain ⟨d, rfl⟩ : ∃ d0, d = d0 + 1 := ⟨d - 1, by omega⟩
  refine w_adv (n := 1) (F' := (1, [(0, .ref 16), (1, .int (Int32.ofInt (k))), (2, .int (Int32.ofInt (x))), (3, .int (Int32.ofInt (a))), (4, .int (Int32.ofInt (b)))], [.ref 16], M)) rfl ?_
  refine w_gf (v := .int (Int32.ofInt ((I 1034)))) hR rfl rfl rfl rfl ?_
  obtain ⟨r1, r2⟩ : -2147483648 ≤ (I 1034) ∧ (I 1034) ≤ 2147483647 := hR.ri 1034
  refine w_adv (n := 1) (F' := (7, [(0, .ref 16), (1, .int (Int32.ofInt (k))), (2, .int (Int32.ofInt (x))), (3, .int (Int32.ofInt (a))), (4, .int (Int32.ofInt (b)))], [.int (Int32.ofInt (3200)), .int (Int32.ofInt ((I 1034)))], M)) rfl ?_
  refine w_br2 (a := (I 1034)) (b := 3200) rfl rfl ⟨by omega, by omega⟩ ⟨by omega, by omega⟩ (fun h3 => ?_) (fun h3 => ?_)
  · have h3 : (I 1034) < 3200 := h3
    show w_W _ _ _ (12, [(0, .ref 16), (1, .int (Int32.ofInt (k))), (2, .int (Int32.ofInt (x))), (3, .int (Int32.ofInt (a))), (4, .int (Int32.ofInt (b)))], [], M) _
    refine w_adv (n := 1) (F' := (13, [(0, .ref 16), (1, .int (Int32.ofInt (k))), (2, .int (Int32.ofInt (x))), (3, .int (Int32.ofInt (a))), (4, .int (Int32.ofInt (b)))], [.ref 16], M)) rfl ?_
    refine w_gf (v := .int (Int32.ofInt ((I 1034)))) hR rfl rfl rfl rfl ?_
    refine w_adv (n := 2) (F' := (19, [(5, .int (Int32.ofInt ((I 1034)))), (0, .ref 16), (1, .int (Int32.ofInt (k))), (2, .int (Int32.ofInt (x))), (3, .int (Int32.ofInt (a))), (4, .int (Int32.ofInt (b)))], [.ref 16], M)) rfl ?_
    refine w_gf (v := .ref 17) hR rfl rfl rfl rfl ?_
    refine w_adv (n := 2) (F' := (25, [(5, .int (Int32.ofInt ((I 1034)))), (0, .ref 16), (1, .int (Int32.ofInt (k))), (2, .int (Int32.ofInt (x))), (3, .int (Int32.ofInt (a))), (4, .int (Int32.ofInt (b)))], [.int (Int32.ofInt (k)), .int (Int32.ofInt ((I 1034))), .ref 17], M)) rfl ?_
    refine w_call (cm := 25) (as := [(0, .ref 17), (1, .int (Int32.ofInt ((I 1034)))), (2, .int (Int32.ofInt (k)))]) (rest := []) (o := none) rfl (trivial) (c_set ((I 1034)) (k) 17 3200 rfl (by decide) hR ⟨by omega, by omega⟩ ⟨by omega, by omega⟩) (fun r4 M5 q6 => ?_)
    rcases q6 with ⟨e7, hR6a⟩
    rw [e7]
    replace hR6a : w_Rep w_TC fr X u l I (w_upF A 17 (w_upG 3200 (A 17) ((I 1034)) (k))) B C M5 := hR6a
    show w_W _ _ _ (28, [(5, .int (Int32.ofInt ((I 1034)))), (0, .ref 16), (1, .int (Int32.ofInt (k))), (2, .int (Int32.ofInt (x))), (3, .int (Int32.ofInt (a))), (4, .int (Int32.ofInt (b)))], [], M5) _
    refine w_adv (n := 1) (F' := (29, [(5, .int (Int32.ofInt ((I 1034)))), (0, .ref 16), (1, .int (Int32.ofInt (k))), (2, .int (Int32.ofInt (x))), (3, .int (Int32.ofInt (a))), (4, .int (Int32.ofInt (b)))], [.ref 16], M5)) rfl ?_
    refine w_gf (v := .ref 18) hR6a rfl rfl rfl rfl ?_
    refine w_adv (n := 2) (F' := (35, [(5, .int (Int32.ofInt ((I 1034)))), (0, .ref 16), (1, .int (Int32.ofInt (k))), (2, .int (Int32.ofInt (x))), (3, .int (Int32.ofInt (a))), (4, .int (Int32.ofInt (b)))], [.int (Int32.ofInt (x)), .int (Int32.ofInt ((I 1034))), .ref 18], M5)) rfl ?_
    refine w_call (cm := 25) (as := [(0, .ref 18), (1, .int (Int32.ofInt ((I 1034)))), (2, .int (Int32.ofInt (x)))]) (rest := []) (o := none) rfl (trivial) (c_set ((I 1034)) (x) 18 3200 rfl (by decide) hR6a ⟨by omega, by omega⟩ ⟨by omega, by omega⟩) (fun r8 M9 q10 => ?_)
    rcases q10 with ⟨e11, hR10a⟩
    rw [e11]
    replace hR10a : w_Rep w_TC fr X u l I (w_upF (w_upF A 17 (w_upG 3200 (A 17) ((I 1034)) (k))) 18 (w_upG 3200 (A 18) ((I 1034)) (x))) B C M9 := hR10a
    show w_W _ _ _ (38, [(5, .int (Int32.ofInt ((I 1034)))), (0, .ref 16), (1, .int (Int32.ofInt (k))), (2, .int (Int32.ofInt (x))), (3, .int (Int32.ofInt (a))), (4, .int (Int32.ofInt (b)))], [], M9) _
    refine w_adv (n := 1) (F' := (39, [(5, .int (Int32.ofInt ((I 1034)))), (0, .ref 16), (1, .int (Int32.ofInt (k))), (2, .int (Int32.ofInt (x))), (3, .int (Int32.ofInt (a))), (4, .int (Int32.ofInt (b)))], [.ref 16], M9)) rfl ?_
    refine w_gf (v := .ref 19) hR10a rfl rfl rfl rfl ?_
    refine w_adv (n := 2) (F' := (45, [(5, .int (Int32.ofInt ((I 1034)))), (0, .ref 16), (1, .int (Int32.ofInt (k))), (2, .int (Int32.ofInt (x))), (3, .int (Int32.ofInt (a))), (4, .int (Int32.ofInt (b)))], [.int (Int32.ofInt (a)), .int (Int32.ofInt ((I 1034))), .ref 19], M9)) rfl ?_
    refine w_call (cm := 25) (as := [(0, .ref 19), (1, .int (Int32.ofInt ((I 1034)))), (2, .int (Int32.ofInt (a)))]) (rest := []) (o := none) rfl (trivial) (c_set ((I 1034)) (a) 19 3200 rfl (by decide) hR10a ⟨by omega, by omega⟩ ⟨by omega, by omega⟩) (fun r12 M13 q14 => ?_)
    rcases q14 with ⟨e15, hR14a⟩
    rw [e15]
    replace hR14a : w_Rep w_TC fr X u l I (w_upF (w_upF (w_upF A 17 (w_upG 3200 (A 17) ((I 1034)) (k))) 18 (w_upG 3200 (A 18) ((I 1034)) (x))) 19 (w_upG 3200 (A 19) ((I 1034)) (a))) B C M13 := hR14a
    show w_W _ _ _ (48, [(5, .int (Int32.ofInt ((I 1034)))), (0, .ref 16), (1, .int (Int32.ofInt (k))), (2, .int (Int32.ofInt (x))), (3, .int (Int32.ofInt (a))), (4, .int (Int32.ofInt (b)))], [], M13) _
    refine w_adv (n := 1) (F' := (49, [(5, .int (Int32.ofInt ((I 1034)))), (0, .ref 16), (1, .int (Int32.ofInt (k))), (2, .int (Int32.ofInt (x))), (3, .int (Int32.ofInt (a))), (4, .int (Int32.ofInt (b)))], [.ref 16], M13)) rfl ?_
    refine w_gf (v := .ref 20) hR14a rfl rfl rfl rfl ?_
    refine w_adv (n := 2) (F' := (56, [(5, .int (Int32.ofInt ((I 1034)))), (0, .ref 16), (1, .int (Int32.ofInt (k))), (2, .int (Int32.ofInt (x))), (3, .int (Int32.ofInt (a))), (4, .int (Int32.ofInt (b)))], [.int (Int32.ofInt (b)), .int (Int32.ofInt ((I 1034))), .ref 20], M13)) rfl ?_
    refine w_call (cm := 25) (as := [(0, .ref 20), (1, .int (Int32.ofInt ((I 1034)))), (2, .int (Int32.ofInt (b)))]) (rest := []) (o := none) rfl (trivial) (c_set ((I 1034)) (b) 20 3200 rfl (by decide) hR14a ⟨by omega, by omega⟩ ⟨by omega, by omega⟩) (fun r16 M17 q18 => ?_)
    rcases q18 with ⟨e19, hR18a⟩
    rw [e19]
    replace hR18a : w_Rep w_TC fr X u l I (w_upF (w_upF (w_upF (w_upF A 17 (w_upG 3200 (A 17) ((I 1034)) (k))) 18 (w_upG 3200 (A 18) ((I 1034)) (x))) 19 (w_upG 3200 (A 19) ((I 1034)) (a))) 20 (w_upG 3200 (A 20) ((I 1034)) (b))) B C M17 := hR18a
    show w_W _ _ _ (59, [(5, .int (Int32.ofInt ((I 1034)))), (0, .ref 16), (1, .int (Int32.ofInt (k))), (2, .int (Int32.ofInt (x))), (3, .int (Int32.ofInt (a))), (4, .int (Int32.ofInt (b)))], [], M17) _
    refine w_adv (n := 1) (F' := (60, [(5, .int (Int32.ofInt ((I 1034)))), (0, .ref 16), (1, .int (Int32.ofInt (k))), (2, .int (Int32.ofInt (x))), (3, .int (Int32.ofInt (a))), (4, .int (Int32.ofInt (b)))], [.ref 16], M17)) rfl ?_
    refine w_gf (v := .ref 21) hR18a rfl rfl rfl rfl ?_
    refine w_adv (n := 2) (F' := (66, [(5, .int (Int32.ofInt ((I 1034)))), (0, .ref 16), (1, .int (Int32.ofInt (k))), (2, .int (Int32.ofInt (x))), (3, .int (Int32.ofInt (a))), (4, .int (Int32.ofInt (b)))], [.int (Int32.ofInt ((-1))), .int (Int32.ofInt ((I 1034))), .ref 21], M17)) rfl ?_
    refine w_call (cm := 25) (as := [(0, .ref 21), (1, .int (Int32.ofInt ((I 1034)))), (2, .int (Int32.ofInt ((-1))))]) (rest := []) (o := none) rfl (trivial) (c_set ((I 1034)) ((-1)) 21 3200 rfl (by decide) hR18a ⟨by omega, by omega⟩ ⟨by omega, by omega⟩) (fun r20 M21 q22 => ?_)
    rcases q22 with ⟨e23, hR22a⟩
    rw [e23]
    replace hR22a : w_Rep w_TC fr X u l I (w_upF (w_upF (w_upF (w_upF (w_upF A 17 (w_upG 3200 (A 17) ((I 1034)) (k))) 18 (w_upG 3200 (A 18) ((I 1034)) (x))) 19 (w_upG 3200 (A 19) ((I 1034)) (a))) 20 (w_upG 3200 (A 20) ((I 1034)) (b))) 21 (w_upG 3200 (A 21) ((I 1034)) ((-1)))) B C M21 := hR22a
    show w_W _ _ _ (69, [(5, .int (Int32.ofInt ((I 1034)))), (0, .ref 16), (1, .int (Int32.ofInt (k))), (2, .int (Int32.ofInt (x))), (3, .int (Int32.ofInt (a))), (4, .int (Int32.ofInt (b)))], [], M21) _
    refine w_adv (n := 1) (F' := (70, [(5, .int (Int32.ofInt ((I 1034)))), (0, .ref 16), (1, .int (Int32.ofInt (k))), (2, .int (Int32.ofInt (x))), (3, .int (Int32.ofInt (a))), (4, .int (Int32.ofInt (b)))], [.ref 16], M21)) rfl ?_
    refine w_gf (v := .ref 22) hR22a rfl rfl rfl rfl ?_
    refine w_adv (n := 2) (F' := (76, [(5, .int (Int32.ofInt ((I 1034)))), (0, .ref 16), (1, .int (Int32.ofInt (k))), (2, .int (Int32.ofInt (x))), (3, .int (Int32.ofInt (a))), (4, .int (Int32.ofInt (b)))], [.ref 16, .int (Int32.ofInt ((I 1034))), .ref 22], M21)) rfl ?_
    refine w_gf (v := .int (Int32.ofInt ((I 1035)))) hR22a rfl rfl rfl rfl ?_
    obtain ⟨r24, r25⟩ : -2147483648 ≤ (I 1035) ∧ (I 1035) ≤ 2147483647 := hR22a.ri 1035
    refine w_call (cm := 25) (as := [(0, .ref 22), (1, .int (Int32.ofInt ((I 1034)))), (2, .int (Int32.ofInt ((I 1035))))]) (rest := []) (o := none) rfl (trivial) (c_set ((I 1034)) ((I 1035)) 22 3200 rfl (by decide) hR22a ⟨by omega, by omega⟩ ⟨by omega, by omega⟩) (fun r26 M27 q28 => ?_)
    rcases q28 with ⟨e29, hR28a⟩
    rw [e29]
    replace hR28a : w_Rep w_TC fr X u l I (w_upF (w_upF (w_upF (w_upF (w_upF (w_upF A 17 (w_upG 3200 (A 17) ((I 1034)) (k))) 18 (w_upG 3200 (A 18) ((I 1034)) (x))) 19 (w_upG 3200 (A 19) ((I 1034)) (a))) 20 (w_upG 3200 (A 20) ((I 1034)) (b))) 21 (w_upG 3200 (A 21) ((I 1034)) ((-1)))) 22 (w_upG 3200 (A 22) ((I 1034)) ((I 1035)))) B C M27 := hR28a
    show w_W _ _ _ (82, [(5, .int (Int32.ofInt ((I 1034)))), (0, .ref 16), (1, .int (Int32.ofInt (k))), (2, .int (Int32.ofInt (x))), (3, .int (Int32.ofInt (a))), (4, .int (Int32.ofInt (b)))], [], M27) _
    refine w_adv (n := 1) (F' := (83, [(5, .int (Int32.ofInt ((I 1034)))), (0, .ref 16), (1, .int (Int32.ofInt (k))), (2, .int (Int32.ofInt (x))), (3, .int (Int32.ofInt (a))), (4, .int (Int32.ofInt (b)))], [.ref 16], M27)) rfl ?_
    refine w_gf (v := .ref 23) hR28a rfl rfl rfl rfl ?_
    refine w_adv (n := 2) (F' := (89, [(5, .int (Int32.ofInt ((I 1034)))), (0, .ref 16), (1, .int (Int32.ofInt (k))), (2, .int (Int32.ofInt (x))), (3, .int (Int32.ofInt (a))), (4, .int (Int32.ofInt (b)))], [.int (Int32.ofInt (0)), .int (Int32.ofInt ((I 1034))), .ref 23], M27)) rfl ?_
    refine w_call (cm := 25) (as := [(0, .ref 23), (1, .int (Int32.ofInt ((I 1034)))), (2, .int (Int32.ofInt (0)))]) (rest := []) (o := none) rfl (trivial) (c_set ((I 1034)) (0) 23 3200 rfl (by decide) hR28a ⟨by omega, by omega⟩ ⟨by omega, by omega⟩) (fun r30 M31 q32 => ?_)
    rcases q32 with ⟨e33, hR32a⟩
    rw [e33]
    replace hR32a : w_Rep w_TC fr X u l I (w_upF (w_upF (w_upF (w_upF (w_upF (w_upF (w_upF A 17 (w_upG 3200 (A 17) ((I 1034)) (k))) 18 (w_upG 3200 (A 18) ((I 1034)) (x))) 19 (w_upG 3200 (A 19) ((I 1034)) (a))) 20 (w_upG 3200 (A 20) ((I 1034)) (b))) 21 (w_upG 3200 (A 21) ((I 1034)) ((-1)))) 22 (w_upG 3200 (A 22) ((I 1034)) ((I 1035)))) 23 (w_upG 3200 (A 23) ((I 1034)) (0))) B C M31 := hR32a
    show w_W _ _ _ (92, [(5, .int (Int32.ofInt ((I 1034)))), (0, .ref 16), (1, .int (Int32.ofInt (k))), (2, .int (Int32.ofInt (x))), (3, .int (Int32.ofInt (a))), (4, .int (Int32.ofInt (b)))], [], M31) _
    refine w_adv (n := 2) (F' := (94, [(5, .int (Int32.ofInt ((I 1034)))), (0, .ref 16), (1, .int (Int32.ofInt (k))), (2, .int (Int32.ofInt (x))), (3, .int (Int32.ofInt (a))), (4, .int (Int32.ofInt (b)))], [.ref 16, .ref 16], M31)) rfl ?_
    refine w_gf (v := .int (Int32.ofInt ((I 1034)))) hR32a rfl rfl rfl rfl ?_
    refine w_adv (n := 1) (F' := (98, [(5, .int (Int32.ofInt ((I 1034)))), (0, .ref 16), (1, .int (Int32.ofInt (k))), (2, .int (Int32.ofInt (x))), (3, .int (Int32.ofInt (a))), (4, .int (Int32.ofInt (b)))], [.int (Int32.ofInt (1)), .int (Int32.ofInt ((I 1034))), .ref 16], M31)) rfl ?_
    refine w_add rfl ?_
    refine w_pf hR32a rfl rfl rfl rfl (show w_in ((I 1034) + 1) from ⟨by omega, by omega⟩) (fun h => absurd h (by decide)) (fun M34 hR35 => ?_)
    replace hR35 : w_Rep w_TC fr X u l (w_up I 1034 ((I 1034) + 1)) (w_upF (w_upF (w_upF (w_upF (w_upF (w_upF (w_upF A 17 (w_upG 3200 (A 17) ((I 1034)) (k))) 18 (w_upG 3200 (A 18) ((I 1034)) (x))) 19 (w_upG 3200 (A 19) ((I 1034)) (a))) 20 (w_upG 3200 (A 20) ((I 1034)) (b))) 21 (w_upG 3200 (A 21) ((I 1034)) ((-1)))) 22 (w_upG 3200 (A 22) ((I 1034)) ((I 1035)))) 23 (w_upG 3200 (A 23) ((I 1034)) (0))) B C M34 := hR35
    refine w_adv (n := 1) (F' := (104, [(5, .int (Int32.ofInt ((I 1034)))), (0, .ref 16), (1, .int (Int32.ofInt (k))), (2, .int (Int32.ofInt (x))), (3, .int (Int32.ofInt (a))), (4, .int (Int32.ofInt (b)))], [.int (Int32.ofInt ((I 1034)))], M34)) rfl ?_
    refine w_fin (r := .inl (some ((I 1034)))) (M' := M34) rfl ?_
    exact ⟨(I 1034), (w_up I 1034 ((I 1034) + 1)), (w_upF (w_upF (w_upF (w_upF (w_upF (w_upF (w_upF A 17 (w_upG 3200 (A 17) ((I 1034)) (k))) 18 (w_upG 3200 (A 18) ((I 1034)) (x))) 19 (w_upG 3200 (A 19) ((I 1034)) (a))) 20 (w_upG 3200 (A 20) ((I 1034)) (b))) 21 (w_upG 3200 (A 21) ((I 1034)) ((-1)))) 22 (w_upG 3200 (A 22) ((I 1034)) ((I 1035)))) 23 (w_upG 3200 (A 23) ((I 1034)) (0))), B, C, rfl, ⟨by omega, by omega⟩, hR35, (show c_bz I A (w_up I 1034 ((I 1034) + 1)) (w_upF (w_upF (w_upF (w_upF (w_upF (w_upF (w_upF A 17 (w_upG 3200 (A 17) ((I 1034)) (k))) 18 (w_upG 3200 (A 18) ((I 1034)) (x))) 19 (w_upG 3200 (A 19) ((I 1034)) (a))) 20 (w_upG 3200 (A 20) ((I 1034)) (b))) 21 (w_upG 3200 (A 21) ((I 1034)) ((-1)))) 22 (w_upG 3200 (A 22) ((I 1034)) ((I 1035)))) 23 (w_upG 3200 (A 23) ((I 1034)) (0))) 0 0 (I 2503) by exact (c_bz_upF (c_bz_upS (c_bz_upF (c_bz_upF (c_bz_upF (c_bz_upF (c_bz_upF (c_bz_up c_bz_refl rfl) rfl) rfl) rfl) rfl) rfl) rfl ⟨by omega, by omega⟩) rfl)), (show (I 2503) = (I 2503) ∧ (0 ≤ (I 1035) ∧ (I 1035) ≤ 10000) ∧ (I 200) = (I 200) ∧ (I 202) = (I 202) by (repeat' apply And.intro) <;> first | assumption | omega), (show (I 2502) = (I 2502) by (repeat' apply And.intro) <;> first | assumption | omega)⟩
  · have h3 : ¬ ((I 1034) < 3200) := h3
    show w_W _ _ _ (10, [(0, .ref 16), (1, .int (Int32.ofInt (k))), (2, .int (Int32.ofInt (x))), (3, .int (Int32.ofInt (a))), (4, .int (Int32.ofInt (b)))], [], M) _
    refine w_adv (n := 1) (F' := (11, [(0, .ref 16), (1, .int (Int32.ofInt (k))), (2, .int (Int32.ofInt (x))), (3, .int (Int32.ofInt (a))), (4, .int (Int32.ofInt (b)))], [.int (Int32.ofInt ((-1)))], M)) rfl ?_
    refine w_fin (r := .inl (some ((-1)))) (M' := M) rfl ?_
    exact ⟨(-1), I, A, B, C, rfl, ⟨by omega, by omega⟩, hR, (show c_bz I A I A 0 0 (I 2503) by exact c_bz_refl), (show (I 2503) = (I 2503) ∧ (0 ≤ (I 1035) ∧ (I 1035) ≤ 10000) ∧ (I 200) = (I 200) ∧ (I 202) = (I 202) by (repeat' apply And.intro) <;> first | assumption | omega), (show (I 2502) = (I 2502) by (repeat' apply And.intro) <;> first | assumption | omega)⟩
def c_kmv_Q (fr : Nat → Bool) (X : Nat → Option (q_C (Nat → Int32))) (u l : Nat) (I : Nat → Int) (A : Nat → Int → Int) (B C : Nat → Nat) (M : w_M) (n : Int) : w_X → w_M → Prop := fun r M' => (∃ v : Int, ∃ (I' : Nat → Int) (A' : Nat → Int → Int) (B' C' : Nat → Nat), (r = .inl (some v)) ∧ (w_in v) ∧ (w_Rep w_TC fr X u l I' A' B' C' M') ∧ (c_bz I A I' A' 0 0 (I 2503)) ∧ ((I' 2503) = (I 2503) ∧ (0 ≤ (I' 1035) ∧ (I' 1035) ≤ 10000) ∧ (I' 200) = (I 200) ∧ (I' 202) = (I 202)) ∧ ((I' 2502) = (I 2502)))
set_option maxHeartbeats 100000000 in
set_option maxRecDepth 100000 in
theorem c_kmv {L : Nat} {xs : Nat → Int32} {d : Nat} {fr : Nat → Bool} {X : Nat → Option (q_C (Nat → Int32))} {u l : Nat} {I : Nat → Int} {A : Nat → Int → Int} {B C : Nat → Nat} {M : w_M} (n : Int) (hR : w_Rep w_TC fr X u l I A B C M) (hd : 2 ≤ d) (r_n : w_in n) (hKI : 0 ≤ (I 1035) ∧ (I 1035) ≤ 10000) (hW0 : 0 ≤ (I 2503)) : w_W (z_P L xs) d 31 (0, [(0, .ref 16), (1, .int (Int32.ofInt (n)))], [], M) (c_kmv_Q fr X u l I A B C M n) := by
  obtain ⟨ra_n, rb_n⟩ := r_n
  obtain ⟨d, rfl⟩ : ∃ d0, d = d0 + 1 := ⟨d - 1, by omega⟩
  refine w_adv (n := 1) (F' := (1, [(0, .ref 16), (1, .int (Int32.ofInt (n)))], [.ref 16], M)) rfl ?_
  refine w_gf (v := .int (Int32.ofInt ((I 1036)))) hR rfl rfl rfl rfl ?_
  obtain ⟨r1, r2⟩ : -2147483648 ≤ (I 1036) ∧ (I 1036) ≤ 2147483647 := hR.ri 1036
  refine w_adv (n := 1) (F' := (7, [(0, .ref 16), (1, .int (Int32.ofInt (n)))], [.int (Int32.ofInt (3107)), .int (Int32.ofInt ((I 1036)))], M)) rfl ?_
  refine w_br2 (a := (I 1036)) (b := 3107) rfl rfl ⟨by omega, by omega⟩ ⟨by omega, by omega⟩ (fun h3 => ?_) (fun h3 => ?_)
  · have h3 : (I 1036) < 3107 := h3
    show w_W _ _ _ (12, [(0, .ref 16), (1, .int (Int32.ofInt (n)))], [], M) _
    refine w_adv (n := 1) (F' := (13, [(0, .ref 16), (1, .int (Int32.ofInt (n)))], [.ref 16], M)) rfl ?_
    refine w_gf (v := .int (Int32.ofInt ((I 1036)))) hR rfl rfl rfl rfl ?_
    refine w_adv (n := 2) (F' := (18, [(2, .int (Int32.ofInt ((I 1036)))), (0, .ref 16), (1, .int (Int32.ofInt (n)))], [.ref 16], M)) rfl ?_
    refine w_gf (v := .ref 25) hR rfl rfl rfl rfl ?_
    refine w_adv (n := 2) (F' := (23, [(2, .int (Int32.ofInt ((I 1036)))), (0, .ref 16), (1, .int (Int32.ofInt (n)))], [.int (Int32.ofInt (n)), .int (Int32.ofInt ((I 1036))), .ref 25], M)) rfl ?_
    refine w_call (cm := 25) (as := [(0, .ref 25), (1, .int (Int32.ofInt ((I 1036)))), (2, .int (Int32.ofInt (n)))]) (rest := []) (o := none) rfl (trivial) (c_set ((I 1036)) (n) 25 3107 rfl (by decide) hR ⟨by omega, by omega⟩ ⟨by omega, by omega⟩) (fun r4 M5 q6 => ?_)
    rcases q6 with ⟨e7, hR6a⟩
    rw [e7]
    replace hR6a : w_Rep w_TC fr X u l I (w_upF A 25 (w_upG 3107 (A 25) ((I 1036)) (n))) B C M5 := hR6a
    show w_W _ _ _ (26, [(2, .int (Int32.ofInt ((I 1036)))), (0, .ref 16), (1, .int (Int32.ofInt (n)))], [], M5) _
    refine w_adv (n := 2) (F' := (28, [(2, .int (Int32.ofInt ((I 1036)))), (0, .ref 16), (1, .int (Int32.ofInt (n)))], [.ref 16, .ref 16], M5)) rfl ?_
    refine w_gf (v := .int (Int32.ofInt ((I 1036)))) hR6a rfl rfl rfl rfl ?_
    refine w_adv (n := 1) (F' := (32, [(2, .int (Int32.ofInt ((I 1036)))), (0, .ref 16), (1, .int (Int32.ofInt (n)))], [.int (Int32.ofInt (1)), .int (Int32.ofInt ((I 1036))), .ref 16], M5)) rfl ?_
    refine w_add rfl ?_
    refine w_pf hR6a rfl rfl rfl rfl (show w_in ((I 1036) + 1) from ⟨by omega, by omega⟩) (fun h => absurd h (by decide)) (fun M8 hR9 => ?_)
    replace hR9 : w_Rep w_TC fr X u l (w_up I 1036 ((I 1036) + 1)) (w_upF A 25 (w_upG 3107 (A 25) ((I 1036)) (n))) B C M8 := hR9
    refine w_adv (n := 1) (F' := (37, [(2, .int (Int32.ofInt ((I 1036)))), (0, .ref 16), (1, .int (Int32.ofInt (n)))], [.int (Int32.ofInt ((I 1036)))], M8)) rfl ?_
    refine w_fin (r := .inl (some ((I 1036)))) (M' := M8) rfl ?_
    exact ⟨(I 1036), (w_up I 1036 ((I 1036) + 1)), (w_upF A 25 (w_upG 3107 (A 25) ((I 1036)) (n))), B, C, rfl, ⟨by omega, by omega⟩, hR9, (show c_bz I A (w_up I 1036 ((I 1036) + 1)) (w_upF A 25 (w_upG 3107 (A 25) ((I 1036)) (n))) 0 0 (I 2503) by exact (c_bz_upF (c_bz_up c_bz_refl rfl) rfl)), (show (I 2503) = (I 2503) ∧ (0 ≤ (I 1035) ∧ (I 1035) ≤ 10000) ∧ (I 200) = (I 200) ∧ (I 202) = (I 202) by (repeat' apply And.intro) <;> first | assumption | omega), (show (I 2502) = (I 2502) by (repeat' apply And.intro) <;> first | assumption | omega)⟩
  · have h3 : ¬ ((I 1036) < 3107) := h3
    show w_W _ _ _ (10, [(0, .ref 16), (1, .int (Int32.ofInt (n)))], [], M) _
    refine w_adv (n := 1) (F' := (11, [(0, .ref 16), (1, .int (Int32.ofInt (n)))], [.int (Int32.ofInt ((-1)))], M)) rfl ?_
    refine w_fin (r := .inl (some ((-1)))) (M' := M) rfl ?_
    exact ⟨(-1), I, A, B, C, rfl, ⟨by omega, by omega⟩, hR, (show c_bz I A I A 0 0 (I 2503) by exact c_bz_refl), (show (I 2503) = (I 2503) ∧ (0 ≤ (I 1035) ∧ (I 1035) ≤ 10000) ∧ (I 200) = (I 200) ∧ (I 202) = (I 202) by (repeat' apply And.intro) <;> first | assumption | omega), (show (I 2502) = (I 2502) by (repeat' apply And.intro) <;> first | assumption | omega)⟩
def c_klk_Q (fr : Nat → Bool) (X : Nat → Option (q_C (Nat → Int32))) (u l : Nat) (I : Nat → Int) (A : Nat → Int → Int) (B C : Nat → Nat) (M : w_M) (i : Int) (v : Int) : w_X → w_M → Prop := fun r M' => (∃ (I' : Nat → Int) (A' : Nat → Int → Int) (B' C' : Nat → Nat), (r = .inl none) ∧ (w_Rep w_TC fr X u l I' A' B' C' M') ∧ (c_bz I A I' A' 0 0 (I 2503)) ∧ ((I' 2503) = (I 2503) ∧ (0 ≤ (I' 1035) ∧ (I' 1035) ≤ 10000) ∧ (I' 200) = (I 200) ∧ (I' 202) = (I 202)) ∧ ((I' 2502) = (I 2502)))
set_option maxHeartbeats 100000000 in
set_option maxRecDepth 100000 in
theorem c_klk {L : Nat} {xs : Nat → Int32} {d : Nat} {fr : Nat → Bool} {X : Nat → Option (q_C (Nat → Int32))} {u l : Nat} {I : Nat → Int} {A : Nat → Int → Int} {B C : Nat → Nat} {M : w_M} (i : Int) (v : Int) (hR : w_Rep w_TC fr X u l I A B C M) (hd : 2 ≤ d) (r_i : w_in i) (r_v : w_in v) (hKI : 0 ≤ (I 1035) ∧ (I 1035) ≤ 10000) (hW0 : 0 ≤ (I 2503)) : w_W (z_P L xs) d 151 (0, [(0, .ref 16), (1, .int (Int32.ofInt (i))), (2, .int (Int32.ofInt (v)))], [], M) (c_klk_Q fr X u l I A B C M i v) := by
  obtain ⟨ra_i, rb_i⟩ := r_i
  obtain ⟨ra_v, rb_v⟩ := r_v
  obtain ⟨d, rfl⟩ : ∃ d0, d = d0 + 1 := ⟨d - 1, by omega⟩
  refine w_adv (n := 1) (F' := (1, [(0, .ref 16), (1, .int (Int32.ofInt (i))), (2, .int (Int32.ofInt (v)))], [.ref 16], M)) rfl ?_
  refine w_gf (v := .ref 21) hR rfl rfl rfl rfl ?_
  refine w_adv (n := 2) (F' := (6, [(0, .ref 16), (1, .int (Int32.ofInt (i))), (2, .int (Int32.ofInt (v)))], [.int (Int32.ofInt (v)), .int (Int32.ofInt (i)), .ref 21], M)) rfl ?_
  refine w_call (cm := 25) (as := [(0, .ref 21), (1, .int (Int32.ofInt (i))), (2, .int (Int32.ofInt (v)))]) (rest := []) (o := none) rfl (trivial) (c_set (i) (v) 21 3200 rfl (by decide) hR ⟨by omega, by omega⟩ ⟨by omega, by omega⟩) (fun r1 M2 q3 => ?_)
  rcases q3 with ⟨e4, hR3a⟩
  rw [e4]
  replace hR3a : w_Rep w_TC fr X u l I (w_upF A 21 (w_upG 3200 (A 21) (i) (v))) B C M2 := hR3a
  show w_W _ _ _ (9, [(0, .ref 16), (1, .int (Int32.ofInt (i))), (2, .int (Int32.ofInt (v)))], [], M2) _
  refine w_fin (r := .inl none) (M' := M2) rfl ?_
  exact ⟨I, (w_upF A 21 (w_upG 3200 (A 21) (i) (v))), B, C, rfl, hR3a, (show c_bz I A I (w_upF A 21 (w_upG 3200 (A 21) (i) (v))) 0 0 (I 2503) by exact (c_bz_upF c_bz_refl rfl)), (show (I 2503) = (I 2503) ∧ (0 ≤ (I 1035) ∧ (I 1035) ≤ 10000) ∧ (I 200) = (I 200) ∧ (I 202) = (I 202) by (repeat' apply And.intro) <;> first | assumption | omega), (show (I 2502) = (I 2502) by (repeat' apply And.intro) <;> first | assumption | omega)⟩
def c_kad_Q (fr : Nat → Bool) (X : Nat → Option (q_C (Nat → Int32))) (u l : Nat) (I : Nat → Int) (A : Nat → Int → Int) (B C : Nat → Nat) (M : w_M) (v : Int) : w_X → w_M → Prop := fun r M' => (∃ (I' : Nat → Int) (A' : Nat → Int → Int) (B' C' : Nat → Nat), (r = .inl none) ∧ (w_Rep w_TC fr X u l I' A' B' C' M') ∧ (c_bz I A I' A' 0 0 (I 2503)) ∧ ((I' 2503) = (I 2503) ∧ (0 ≤ (I' 1035) ∧ (I' 1035) ≤ 10000) ∧ (I' 200) = (I 200) ∧ (I' 202) = (I 202)) ∧ ((I' 2502) = (I 2502)))
set_option maxHeartbeats 100000000 in
set_option maxRecDepth 100000 in
theorem c_kad {L : Nat} {xs : Nat → Int32} {d : Nat} {fr : Nat → Bool} {X : Nat → Option (q_C (Nat → Int32))} {u l : Nat} {I : Nat → Int} {A : Nat → Int → Int} {B C : Nat → Nat} {M : w_M} (v : Int) (hR : w_Rep w_TC fr X u l I A B C M) (hd : 1 ≤ d) (r_v : w_in v) (hKI : 0 ≤ (I 1035) ∧ (I 1035) ≤ 10000) (hW0 : 0 ≤ (I 2503)) : w_W (z_P L xs) d 164 (0, [(0, .ref 16), (1, .int (Int32.ofInt (v)))], [], M) (c_kad_Q fr X u l I A B C M v) := by
  obtain ⟨ra_v, rb_v⟩ := r_v
  obtain ⟨d, rfl⟩ : ∃ d0, d = d0 + 1 := ⟨d - 1, by omega⟩
  refine w_adv (n := 1) (F' := (1, [(0, .ref 16), (1, .int (Int32.ofInt (v)))], [.ref 16], M)) rfl ?_
  refine w_gf (v := .int (Int32.ofInt ((I 1035)))) hR rfl rfl rfl rfl ?_
  obtain ⟨r1, r2⟩ : -2147483648 ≤ (I 1035) ∧ (I 1035) ≤ 2147483647 := hR.ri 1035
  refine w_adv (n := 1) (F' := (7, [(0, .ref 16), (1, .int (Int32.ofInt (v)))], [.int (Int32.ofInt (10000)), .int (Int32.ofInt ((I 1035)))], M)) rfl ?_
  refine w_br2 (a := (I 1035)) (b := 10000) rfl rfl ⟨by omega, by omega⟩ ⟨by omega, by omega⟩ (fun h3 => ?_) (fun h3 => ?_)
  · have h3 : (I 1035) ≥ 10000 := h3
    show w_W _ _ _ (60, [(0, .ref 16), (1, .int (Int32.ofInt (v)))], [], M) _
    refine w_fin (r := .inl none) (M' := M) rfl ?_
    exact ⟨I, A, B, C, rfl, hR, (show c_bz I A I A 0 0 (I 2503) by exact c_bz_refl), (show (I 2503) = (I 2503) ∧ (0 ≤ (I 1035) ∧ (I 1035) ≤ 10000) ∧ (I 200) = (I 200) ∧ (I 202) = (I 202) by (repeat' apply And.intro) <;> first | assumption | omega), (show (I 2502) = (I 2502) by (repeat' apply And.intro) <;> first | assumption | omega)⟩
  · have h3 : ¬ ((I 1035) ≥ 10000) := h3
    show w_W _ _ _ (10, [(0, .ref 16), (1, .int (Int32.ofInt (v)))], [], M) _
    refine w_adv (n := 1) (F' := (11, [(0, .ref 16), (1, .int (Int32.ofInt (v)))], [.ref 16], M)) rfl ?_
    refine w_gf (v := .ref 24) hR rfl rfl rfl rfl ?_
    refine w_adv (n := 1) (F' := (15, [(0, .ref 16), (1, .int (Int32.ofInt (v)))], [.ref 16, .ref 24], M)) rfl ?_
    refine w_gf (v := .int (Int32.ofInt ((I 1035)))) hR rfl rfl rfl rfl ?_
    refine w_adv (n := 1) (F' := (19, [(0, .ref 16), (1, .int (Int32.ofInt (v)))], [.int (Int32.ofInt (v)), .int (Int32.ofInt ((I 1035))), .ref 24], M)) rfl ?_
    refine w_call (cm := 25) (as := [(0, .ref 24), (1, .int (Int32.ofInt ((I 1035)))), (2, .int (Int32.ofInt (v)))]) (rest := []) (o := none) rfl (trivial) (c_set ((I 1035)) (v) 24 10000 rfl (by decide) hR ⟨by omega, by omega⟩ ⟨by omega, by omega⟩) (fun r4 M5 q6 => ?_)
    rcases q6 with ⟨e7, hR6a⟩
    rw [e7]
    replace hR6a : w_Rep w_TC fr X u l I (w_upF A 24 (w_upG 10000 (A 24) ((I 1035)) (v))) B C M5 := hR6a
    show w_W _ _ _ (22, [(0, .ref 16), (1, .int (Int32.ofInt (v)))], [], M5) _
    refine w_adv (n := 2) (F' := (24, [(0, .ref 16), (1, .int (Int32.ofInt (v)))], [.ref 16, .ref 16], M5)) rfl ?_
    refine w_gf (v := .int (Int32.ofInt ((I 1035)))) hR6a rfl rfl rfl rfl ?_
    refine w_adv (n := 1) (F' := (28, [(0, .ref 16), (1, .int (Int32.ofInt (v)))], [.int (Int32.ofInt (1)), .int (Int32.ofInt ((I 1035))), .ref 16], M5)) rfl ?_
    refine w_add rfl ?_
    refine w_pf hR6a rfl rfl rfl rfl (show w_in ((I 1035) + 1) from ⟨by omega, by omega⟩) (fun h => absurd h (by decide)) (fun M8 hR9 => ?_)
    replace hR9 : w_Rep w_TC fr X u l (w_up I 1035 ((I 1035) + 1)) (w_upF A 24 (w_upG 10000 (A 24) ((I 1035)) (v))) B C M8 := hR9
    refine w_adv (n := 1) (F' := (33, [(0, .ref 16), (1, .int (Int32.ofInt (v)))], [.ref 16], M8)) rfl ?_
    refine w_gf (v := .ref 23) hR9 rfl rfl rfl rfl ?_
    refine w_adv (n := 1) (F' := (37, [(0, .ref 16), (1, .int (Int32.ofInt (v)))], [.ref 16, .ref 23], M8)) rfl ?_
    refine w_gf (v := .int (Int32.ofInt ((I 1034)))) hR9 rfl rfl rfl rfl ?_
    obtain ⟨r10, r11⟩ : -2147483648 ≤ (I 1034) ∧ (I 1034) ≤ 2147483647 := hR9.ri 1034
    refine w_adv (n := 1) (F' := (41, [(0, .ref 16), (1, .int (Int32.ofInt (v)))], [.int (Int32.ofInt (1)), .int (Int32.ofInt ((I 1034))), .ref 23], M8)) rfl ?_
    refine w_sub rfl ?_
    refine w_int (fun x12 r13 e14 => ?_)
    obtain ⟨r13a, r13b⟩ := r13
    clear e14
    refine w_adv (n := 1) (F' := (43, [(0, .ref 16), (1, .int (Int32.ofInt (v)))], [.ref 16, .int (Int32.ofInt (x12)), .ref 23], M8)) rfl ?_
    refine w_gf (v := .ref 23) hR9 rfl rfl rfl rfl ?_
    refine w_adv (n := 1) (F' := (47, [(0, .ref 16), (1, .int (Int32.ofInt (v)))], [.ref 16, .ref 23, .int (Int32.ofInt (x12)), .ref 23], M8)) rfl ?_
    refine w_gf (v := .int (Int32.ofInt ((I 1034)))) hR9 rfl rfl rfl rfl ?_
    refine w_adv (n := 1) (F' := (51, [(0, .ref 16), (1, .int (Int32.ofInt (v)))], [.int (Int32.ofInt (1)), .int (Int32.ofInt ((I 1034))), .ref 23, .int (Int32.ofInt (x12)), .ref 23], M8)) rfl ?_
    refine w_sub rfl ?_
    refine w_int (fun x15 r16 e17 => ?_)
    obtain ⟨r16a, r16b⟩ := r16
    clear e17
    refine w_call (cm := 21) (as := [(0, .ref 23), (1, .int (Int32.ofInt (x15)))]) (rest := [.int (Int32.ofInt (x12)), .ref 23]) (o := none) rfl (trivial) (c_at (x15) 23 3200 rfl (by decide) hR9 ⟨by omega, by omega⟩) (fun r18 M19 q20 => ?_)
    rcases q20 with ⟨v21, e22, ⟨r23, r24⟩, e25, f26⟩
    rw [e22, e25]
    replace f26 : ((0 ≤ x15 ∧ x15 < (3200 : Int) ∧ v21 = (A 23) (x15)) ∨ (¬ (0 ≤ x15 ∧ x15 < (3200 : Int)) ∧ v21 = -1)) := f26
    show w_W _ _ _ (55, [(0, .ref 16), (1, .int (Int32.ofInt (v)))], [.int (Int32.ofInt (v21)), .int (Int32.ofInt (x12)), .ref 23], M8) _
    refine w_adv (n := 1) (F' := (56, [(0, .ref 16), (1, .int (Int32.ofInt (v)))], [.int (Int32.ofInt (1)), .int (Int32.ofInt (v21)), .int (Int32.ofInt (x12)), .ref 23], M8)) rfl ?_
    refine w_add rfl ?_
    refine w_int (fun x27 r28 e29 => ?_)
    obtain ⟨r28a, r28b⟩ := r28
    clear e29
    refine w_call (cm := 25) (as := [(0, .ref 23), (1, .int (Int32.ofInt (x12))), (2, .int (Int32.ofInt (x27)))]) (rest := []) (o := none) rfl (trivial) (c_set (x12) (x27) 23 3200 rfl (by decide) hR9 ⟨by omega, by omega⟩ ⟨by omega, by omega⟩) (fun r30 M31 q32 => ?_)
    rcases q32 with ⟨e33, hR32a⟩
    rw [e33]
    replace hR32a : w_Rep w_TC fr X u l (w_up I 1035 ((I 1035) + 1)) (w_upF (w_upF A 24 (w_upG 10000 (A 24) ((I 1035)) (v))) 23 (w_upG 3200 (A 23) (x12) (x27))) B C M31 := hR32a
    show w_W _ _ _ (60, [(0, .ref 16), (1, .int (Int32.ofInt (v)))], [], M31) _
    refine w_fin (r := .inl none) (M' := M31) rfl ?_
    exact ⟨(w_up I 1035 ((I 1035) + 1)), (w_upF (w_upF A 24 (w_upG 10000 (A 24) ((I 1035)) (v))) 23 (w_upG 3200 (A 23) (x12) (x27))), B, C, rfl, hR32a, (show c_bz I A (w_up I 1035 ((I 1035) + 1)) (w_upF (w_upF A 24 (w_upG 10000 (A 24) ((I 1035)) (v))) 23 (w_upG 3200 (A 23) (x12) (x27))) 0 0 (I 2503) by exact (c_bz_upF (c_bz_upF (c_bz_up c_bz_refl rfl) rfl) rfl)), (show (I 2503) = (I 2503) ∧ (0 ≤ (I 1035) + 1 ∧ (I 1035) + 1 ≤ 10000) ∧ (I 200) = (I 200) ∧ (I 202) = (I 202) by (repeat' apply And.intro) <;> first | assumption | omega), (show (I 2502) = (I 2502) by (repeat' apply And.intro) <;> first | assumption | omega)⟩
def c_kap_Q (fr : Nat → Bool) (X : Nat → Option (q_C (Nat → Int32))) (u l : Nat) (I : Nat → Int) (A : Nat → Int → Int) (B C : Nat → Nat) (M : w_M) (f : Int) (v : Int) : w_X → w_M → Prop := fun r M' => (∃ (I' : Nat → Int) (A' : Nat → Int → Int) (B' C' : Nat → Nat), (r = .inl none) ∧ (w_Rep w_TC fr X u l I' A' B' C' M') ∧ (c_bz I A I' A' 0 0 (I 2503)) ∧ ((I' 2503) = (I 2503) ∧ (0 ≤ (I' 1035) ∧ (I' 1035) ≤ 10000) ∧ (I' 200) = (I 200) ∧ (I' 202) = (I 202)) ∧ ((I' 2502) = (I 2502)))
set_option maxHeartbeats 100000000 in
set_option maxRecDepth 100000 in
theorem c_kap {L : Nat} {xs : Nat → Int32} {d : Nat} {fr : Nat → Bool} {X : Nat → Option (q_C (Nat → Int32))} {u l : Nat} {I : Nat → Int} {A : Nat → Int → Int} {B C : Nat → Nat} {M : w_M} (f : Int) (v : Int) (hR : w_Rep w_TC fr X u l I A B C M) (hd : 2 ≤ d) (r_f : w_in f) (r_v : w_in v) (hKI : 0 ≤ (I 1035) ∧ (I 1035) ≤ 10000) (hW0 : 0 ≤ (I 2503)) : w_W (z_P L xs) d 163 (0, [(0, .ref 16), (1, .int (Int32.ofInt (f))), (2, .int (Int32.ofInt (v)))], [], M) (c_kap_Q fr X u l I A B C M f v) := by
  obtain ⟨ra_f, rb_f⟩ := r_f
  obtain ⟨ra_v, rb_v⟩ := r_v
  obtain ⟨d, rfl⟩ : ∃ d0, d = d0 + 1 := ⟨d - 1, by omega⟩
  refine w_adv (n := 2) (F' := (2, [(0, .ref 16), (1, .int (Int32.ofInt (f))), (2, .int (Int32.ofInt (v)))], [.int (Int32.ofInt (f)), .ref 16], M)) rfl ?_
  refine w_call (cm := 164) (as := [(0, .ref 16), (1, .int (Int32.ofInt (f)))]) (rest := []) (o := some (2, 16)) rfl (w_fitR hR rfl) (c_kad (f) hR (show 1 ≤ d by omega) ⟨by omega, by omega⟩ (show 0 ≤ (I 1035) ∧ (I 1035) ≤ 10000 by (repeat' apply And.intro) <;> first | assumption | omega) (show 0 ≤ (I 2503) by omega)) (fun r1 M2 q3 => ?_)
  rcases q3 with ⟨I3a, A3a, B3a, C3a, e4, hR3a, f5, f6, f7⟩
  rw [e4]
  replace hR3a : w_Rep w_TC fr X u l I3a A3a B3a C3a M2 := hR3a
  replace f5 : c_bz I A I3a A3a 0 0 (I 2503) := f5
  replace f6 : (I3a 2503) = (I 2503) ∧ (0 ≤ (I3a 1035) ∧ (I3a 1035) ≤ 10000) ∧ (I3a 200) = (I 200) ∧ (I3a 202) = (I 202) := f6
  obtain ⟨n8, ⟨n9, n10⟩, n11, n12⟩ := id f6
  clear f6
  replace f7 : (I3a 2502) = (I 2502) := f7
  have bx13 : c_bz I A I3a A3a 0 0 (I 2503) := c_bz_trans (show c_bz I A I A 0 0 (I 2503) from c_bz_refl) f5 (Int.le_refl _) (Int.le_refl _) (show 0 ≤ 0 ∨ 0 ≤ 0 by omega) (show 0 ≤ 0 ∨ 0 ≤ 0 by omega) (Int.le_refl _) (show (I 2503) ≤ (I 2503) by omega)
  show w_W _ _ _ (5, [(0, .ref 16), (1, .int (Int32.ofInt (f))), (2, .int (Int32.ofInt (v)))], [], M2) _
  refine w_adv (n := 2) (F' := (7, [(0, .ref 16), (1, .int (Int32.ofInt (f))), (2, .int (Int32.ofInt (v)))], [.int (Int32.ofInt (v)), .ref 16], M2)) rfl ?_
  refine w_call (cm := 164) (as := [(0, .ref 16), (1, .int (Int32.ofInt (v)))]) (rest := []) (o := some (2, 16)) rfl (w_fitR hR3a rfl) (c_kad (v) hR3a (show 1 ≤ d by omega) ⟨by omega, by omega⟩ (show 0 ≤ (I3a 1035) ∧ (I3a 1035) ≤ 10000 by (repeat' apply And.intro) <;> first | assumption | omega) (show 0 ≤ (I3a 2503) by omega)) (fun r14 M15 q16 => ?_)
  rcases q16 with ⟨I16a, A16a, B16a, C16a, e17, hR16a, f18, f19, f20⟩
  rw [e17]
  replace hR16a : w_Rep w_TC fr X u l I16a A16a B16a C16a M15 := hR16a
  replace f18 : c_bz I3a A3a I16a A16a 0 0 (I3a 2503) := f18
  replace f19 : (I16a 2503) = (I3a 2503) ∧ (0 ≤ (I16a 1035) ∧ (I16a 1035) ≤ 10000) ∧ (I16a 200) = (I3a 200) ∧ (I16a 202) = (I3a 202) := f19
  obtain ⟨n21, ⟨n22, n23⟩, n24, n25⟩ := id f19
  clear f19
  replace f20 : (I16a 2502) = (I3a 2502) := f20
  have bx26 : c_bz I A I16a A16a 0 0 (I 2503) := c_bz_trans (show c_bz I A I3a A3a 0 0 (I 2503) from bx13) f18 (Int.le_refl _) (Int.le_refl _) (show 0 ≤ 0 ∨ 0 ≤ 0 by omega) (show 0 ≤ 0 ∨ 0 ≤ 0 by omega) (Int.le_refl _) (show (I 2503) ≤ (I3a 2503) by omega)
  show w_W _ _ _ (10, [(0, .ref 16), (1, .int (Int32.ofInt (f))), (2, .int (Int32.ofInt (v)))], [], M15) _
  refine w_fin (r := .inl none) (M' := M15) rfl ?_
  exact ⟨I16a, A16a, B16a, C16a, rfl, hR16a, (show c_bz I A I16a A16a 0 0 (I 2503) by exact bx26), (show (I16a 2503) = (I 2503) ∧ (0 ≤ (I16a 1035) ∧ (I16a 1035) ≤ 10000) ∧ (I16a 200) = (I 200) ∧ (I16a 202) = (I 202) by (repeat' apply And.intro) <;> first | assumption | omega), (show (I16a 2502) = (I 2502) by (repeat' apply And.intro) <;> first | assumption | omega)⟩
