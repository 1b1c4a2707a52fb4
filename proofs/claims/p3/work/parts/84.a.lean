/-! PARSER of the class: small methods. -/
def c_fi (ts : Nat → Bool) (I I' : Nat → Int) : Prop := ∀ s, ts s = false → I' s = I s
def c_fa (ta : Nat → Bool) (A A' : Nat → Int → Int) : Prop := ∀ k, ta k = false → A' k = A k
theorem c_fi_refl {ts : Nat → Bool} {I : Nat → Int} : c_fi ts I I := fun _ _ => rfl
theorem c_fa_refl {ta : Nat → Bool} {A : Nat → Int → Int} : c_fa ta A A := fun _ _ => rfl
theorem c_fi_trans {ts : Nat → Bool} {I I' I'' : Nat → Int} (h : c_fi ts I I') (g : c_fi ts I' I'') : c_fi ts I I'' := fun s e => (g s e).trans (h s e)
theorem c_fa_trans {ta : Nat → Bool} {A A' A'' : Nat → Int → Int} (h : c_fa ta A A') (g : c_fa ta A' A'') : c_fa ta A A'' := fun s e => (g s e).trans (h s e)
theorem c_fi_up {ts : Nat → Bool} {I I' : Nat → Int} {s : Nat} {v : Int} (h : c_fi ts I I') (hs : ts s = true) : c_fi ts I (w_up I' s v) := fun j e => by
  rw [w_up_ne (fun q => by rw [q, hs] at e; cases e)]
  exact h j e
theorem c_fa_up {ta : Nat → Bool} {A A' : Nat → Int → Int} {k : Nat} {g : Int → Int} (h : c_fa ta A A') (hs : ta k = true) : c_fa ta A (w_upF A' k g) := fun j e => by
  rw [w_upF_ne (fun q => by rw [q, hs] at e; cases e)]
  exact h j e
/-- what the parser may change -/
def c_ps (s : Nat) : Bool := Nat.beq (s / 64) 38 || Nat.beq (s / 64) 26 || Nat.beq (s / 64) 33
def c_pa (k : Nat) : Bool := c_in 27 32 k || c_in 34 37 k
def c_r (dp o : Int) : Nat := (4 * (24 - dp) + o).toNat
theorem w_upG_at {n : Nat} {g : Int → Int} {i v : Int} (h : 0 ≤ i ∧ i < (n : Int)) : w_upG n g i v i = v := by
  unfold w_upG
  rw [if_pos h]
  unfold w_upA
  rw [if_pos rfl]
theorem w_upG_ne {n : Nat} {g : Int → Int} {i v m : Int} (h : m ≠ i) : w_upG n g i v m = g m := by
  unfold w_upG
  by_cases e : 0 ≤ i ∧ i < (n : Int)
  · rw [if_pos e]
    unfold w_upA
    rw [if_neg h]
  · rw [if_neg e]
theorem w_upG_out {n : Nat} {g : Int → Int} {i v : Int} (h : i < 0) : w_upG n g i v = g := by
  unfold w_upG
  rw [if_neg (by omega)]
theorem c_mk_of {A A' : Nat → Int → Int} {n kd a b c : Int} (h : 0 ≤ n ∧ n < 3016) (h1 : A' 27 = w_upG 3016 (A 27) n kd) (h2 : A' 28 = w_upG 3016 (A 28) n a) (h3 : A' 29 = w_upG 3016 (A 29) n b) (h4 : A' 30 = w_upG 3016 (A 30) n c) (h5 : A' 31 = w_upG 3016 (A 31) n (-1)) : c_mk A A' n kd a b c := by
  have h' : 0 ≤ n ∧ n < ((3016 : Nat) : Int) := by omega
  refine ⟨fun m a b => ⟨?_, ?_, ?_, ?_, ?_⟩, ?_, ?_, ?_, ?_, ?_⟩
  · rw [h1]; exact w_upG_ne (by omega)
  · rw [h2]; exact w_upG_ne (by omega)
  · rw [h3]; exact w_upG_ne (by omega)
  · rw [h4]; exact w_upG_ne (by omega)
  · rw [h5]; exact w_upG_ne (by omega)
  · rw [h1]; exact w_upG_at h'
  · rw [h2]; exact w_upG_at h'
  · rw [h3]; exact w_upG_at h'
  · rw [h4]; exact w_upG_at h'
  · rw [h5]; exact w_upG_at h'
theorem c_nxw_of {A A' : Nat → Int → Int} {l v : Int} (e1 : A' 27 = A 27) (e2 : A' 28 = A 28) (e3 : A' 29 = A 29) (e4 : A' 30 = A 30) (h : A' 31 = w_upG 3016 (A 31) l v) : c_nxw A A' l v := ⟨e1, e2, e3, e4, fun m e => by rw [h]; exact w_upG_ne e, fun a b => by rw [h]; exact w_upG_at ⟨a, by omega⟩, fun e => by rw [h]; exact w_upG_out e⟩
theorem c_bw_of {A A' : Nat → Int → Int} {l v : Int} (e1 : A' 27 = A 27) (e2 : A' 28 = A 28) (e4 : A' 30 = A 30) (e5 : A' 31 = A 31) (h : A' 29 = w_upG 3016 (A 29) l v) : c_bw A A' l v := ⟨e1, e2, e4, e5, fun m e => by rw [h]; exact w_upG_ne e, fun a b => by rw [h]; exact w_upG_at ⟨a, by omega⟩⟩
def c_ags (A A' : Nat → Int → Int) : Prop := A' 27 = A 27 ∧ A' 28 = A 28 ∧ A' 29 = A 29 ∧ A' 30 = A 30 ∧ A' 31 = A 31
theorem c_ags_l {A A' : Nat → Int → Int} (h : c_ags A A') (n : Int) : c_agl A A' n := fun m _ _ => by
  obtain ⟨h1, h2, h3, h4, h5⟩ := h
  exact ⟨by rw [h1], by rw [h2], by rw [h3], by rw [h4], by rw [h5]⟩
def c_Tokens_kind2_Q (fr : Nat → Bool) (X : Nat → Option (q_C (Nat → Int32))) (u l : Nat) (I : Nat → Int) (A : Nat → Int → Int) (B C : Nat → Nat) (M : w_M) (n : Int) : w_X → w_M → Prop := fun r M' => (∃ v : Int, (r = .inl (some v)) ∧ (w_in v) ∧ (M' = M) ∧ (n < (I 773) ∨ v = 0))
set_option maxHeartbeats 100000000 in
set_option maxRecDepth 100000 in
theorem c_Tokens_kind2 {L : Nat} {xs : Nat → Int32} {d : Nat} {fr : Nat → Bool} {X : Nat → Option (q_C (Nat → Int32))} {u l : Nat} {I : Nat → Int} {A : Nat → Int → Int} {B C : Nat → Nat} {M : w_M} (n : Int) (hR : w_Rep w_TC fr X u l I A B C M) (r_n : w_in n) : w_W (z_P L xs) d 86 (0, [(0, .ref 12), (1, .int (Int32.ofInt (n)))], [], M) (c_Tokens_kind2_Q fr X u l I A B C M n) := by
  obtain ⟨ra_n, rb_n⟩ := r_n
  refine w_adv (n := 1) (F' := (1, [(0, .ref 12), (1, .int (Int32.ofInt (n)))], [.int (Int32.ofInt (n))], M)) rfl ?_
  refine w_br1 (a := n) rfl rfl ⟨by omega, by omega⟩ (fun h1 => ?_) (fun h1 => ?_)
  · have h1 : n < 0 := h1
    show w_W _ _ _ (30, [(0, .ref 12), (1, .int (Int32.ofInt (n)))], [], M) _
    refine w_adv (n := 1) (F' := (31, [(0, .ref 12), (1, .int (Int32.ofInt (n)))], [.int (Int32.ofInt (0))], M)) rfl ?_
    refine w_fin (r := .inl (some (0))) (M' := M) rfl ?_
    exact ⟨0, rfl, ⟨by omega, by omega⟩, rfl, (show n < (I 773) ∨ 0 = 0 by first | assumption | omega)⟩
  · have h1 : ¬ (n < 0) := h1
    show w_W _ _ _ (4, [(0, .ref 12), (1, .int (Int32.ofInt (n)))], [], M) _
    refine w_adv (n := 2) (F' := (6, [(0, .ref 12), (1, .int (Int32.ofInt (n)))], [.ref 12, .int (Int32.ofInt (n))], M)) rfl ?_
    refine w_gf (v := .int (Int32.ofInt ((I 773)))) hR rfl rfl rfl rfl ?_
    obtain ⟨r2, r3⟩ : -2147483648 ≤ (I 773) ∧ (I 773) ≤ 2147483647 := hR.ri 773
    refine w_br2 (a := n) (b := (I 773)) rfl rfl ⟨by omega, by omega⟩ ⟨by omega, by omega⟩ (fun h4 => ?_) (fun h4 => ?_)
    · have h4 : n ≥ (I 773) := h4
      show w_W _ _ _ (30, [(0, .ref 12), (1, .int (Int32.ofInt (n)))], [], M) _
      refine w_adv (n := 1) (F' := (31, [(0, .ref 12), (1, .int (Int32.ofInt (n)))], [.int (Int32.ofInt (0))], M)) rfl ?_
      refine w_fin (r := .inl (some (0))) (M' := M) rfl ?_
      exact ⟨0, rfl, ⟨by omega, by omega⟩, rfl, (show n < (I 773) ∨ 0 = 0 by first | assumption | omega)⟩
    · have h4 : ¬ (n ≥ (I 773)) := h4
      show w_W _ _ _ (12, [(0, .ref 12), (1, .int (Int32.ofInt (n)))], [], M) _
      refine w_adv (n := 2) (F' := (14, [(0, .ref 12), (1, .int (Int32.ofInt (n)))], [.ref 12, .int (Int32.ofInt (n))], M)) rfl ?_
      refine w_gf (v := .ref 13) hR rfl rfl rfl rfl ?_
      refine w_lena (n := 1502) hR rfl rfl rfl ?_
      show w_W _ _ _ (18, [(0, .ref 12), (1, .int (Int32.ofInt (n)))], [.int (Int32.ofInt (1502)), .int (Int32.ofInt (n))], M) _
      refine w_br2 (a := n) (b := 1502) rfl rfl ⟨by omega, by omega⟩ ⟨by omega, by omega⟩ (fun h5 => ?_) (fun h5 => ?_)
      · have h5 : n ≥ 1502 := h5
        show w_W _ _ _ (30, [(0, .ref 12), (1, .int (Int32.ofInt (n)))], [], M) _
        refine w_adv (n := 1) (F' := (31, [(0, .ref 12), (1, .int (Int32.ofInt (n)))], [.int (Int32.ofInt (0))], M)) rfl ?_
        refine w_fin (r := .inl (some (0))) (M' := M) rfl ?_
        exact ⟨0, rfl, ⟨by omega, by omega⟩, rfl, (show n < (I 773) ∨ 0 = 0 by first | assumption | omega)⟩
      · have h5 : ¬ (n ≥ 1502) := h5
        show w_W _ _ _ (21, [(0, .ref 12), (1, .int (Int32.ofInt (n)))], [], M) _
        refine w_adv (n := 1) (F' := (22, [(0, .ref 12), (1, .int (Int32.ofInt (n)))], [.ref 12], M)) rfl ?_
        refine w_gf (v := .ref 13) hR rfl rfl rfl rfl ?_
        refine w_adv (n := 1) (F' := (26, [(0, .ref 12), (1, .int (Int32.ofInt (n)))], [.int (Int32.ofInt (n)), .ref 13], M)) rfl ?_
        refine w_la (n := 1502) hR rfl (Or.inl ⟨rfl, rfl⟩) rfl (show 0 ≤ n by omega) (show n < (1502 : Int) by omega) (by decide) ?_
        obtain ⟨r6, r7⟩ : -2147483648 ≤ (A 13) (n) ∧ (A 13) (n) ≤ 2147483647 := hR.ra 13 (n)
        show w_W _ _ _ (27, [(0, .ref 12), (1, .int (Int32.ofInt (n)))], [.int (Int32.ofInt ((A 13) (n)))], M) _
        refine w_adv (n := 1) (F' := (31, [(0, .ref 12), (1, .int (Int32.ofInt (n)))], [.int (Int32.ofInt ((A 13) (n)))], M)) rfl ?_
        refine w_fin (r := .inl (some ((A 13) (n)))) (M' := M) rfl ?_
        exact ⟨(A 13) (n), rfl, ⟨by omega, by omega⟩, rfl, (show n < (I 773) ∨ (A 13) (n) = 0 by first | assumption | omega)⟩
def c_mkn_Q (fr : Nat → Bool) (X : Nat → Option (q_C (Nat → Int32))) (u l : Nat) (I : Nat → Int) (A : Nat → Int → Int) (B C : Nat → Nat) (M : w_M) (k : Int) (a : Int) (b : Int) (c : Int) : w_X → w_M → Prop := fun r M' => (∃ A' : Nat → Int → Int, (r = .inl (some (I 1670))) ∧ (w_Rep w_TC fr X u l (w_up I 1670 ((I 1670) + 1)) A' B C M') ∧ (c_fa c_pa A A') ∧ (c_mk A A' (I 1670) k a b c))
set_option maxHeartbeats 100000000 in
set_option maxRecDepth 100000 in
theorem c_mkn {L : Nat} {xs : Nat → Int32} {d : Nat} {fr : Nat → Bool} {X : Nat → Option (q_C (Nat → Int32))} {u l : Nat} {I : Nat → Int} {A : Nat → Int → Int} {B C : Nat → Nat} {M : w_M} (k : Int) (a : Int) (b : Int) (c : Int) (hR : w_Rep w_TC fr X u l I A B C M) (hd : 2 ≤ d) (r_k : w_in k) (r_a : w_in a) (r_b : w_in b) (r_c : w_in c) (hz : 0 ≤ (I 1670) ∧ (I 1670) < 3016) : w_W (z_P L xs) d 94 (0, [(0, .ref 26), (1, .int (Int32.ofInt (k))), (2, .int (Int32.ofInt (a))), (3, .int (Int32.ofInt (b))), (4, .int (Int32.ofInt (c)))], [], M) (c_mkn_Q fr X u l I A B C M k a b c) := by
  obtain ⟨ra_k, rb_k⟩ := r_k
  obtain ⟨ra_a, rb_a⟩ := r_a
  obtain ⟨ra_b, rb_b⟩ := r_b
  obtain ⟨ra_c, rb_c⟩ := r_c
  obtain ⟨d, rfl⟩ : ∃ d0, d = d0 + 1 := ⟨d - 1, by omega⟩
  refine w_adv (n := 1) (F' := (1, [(0, .ref 26), (1, .int (Int32.ofInt (k))), (2, .int (Int32.ofInt (a))), (3, .int (Int32.ofInt (b))), (4, .int (Int32.ofInt (c)))], [.ref 26], M)) rfl ?_
  refine w_gf (v := .int (Int32.ofInt ((I 1670)))) hR rfl rfl rfl rfl ?_
  obtain ⟨r1, r2⟩ : -2147483648 ≤ (I 1670) ∧ (I 1670) ≤ 2147483647 := hR.ri 1670
  refine w_adv (n := 1) (F' := (7, [(0, .ref 26), (1, .int (Int32.ofInt (k))), (2, .int (Int32.ofInt (a))), (3, .int (Int32.ofInt (b))), (4, .int (Int32.ofInt (c)))], [.int (Int32.ofInt (3016)), .int (Int32.ofInt ((I 1670)))], M)) rfl ?_
  refine w_br2 (a := (I 1670)) (b := 3016) rfl rfl ⟨by omega, by omega⟩ ⟨by omega, by omega⟩ (fun h3 => ?_) (fun h3 => ?_)
  · have h3 : (I 1670) < 3016 := h3
    show w_W _ _ _ (12, [(0, .ref 26), (1, .int (Int32.ofInt (k))), (2, .int (Int32.ofInt (a))), (3, .int (Int32.ofInt (b))), (4, .int (Int32.ofInt (c)))], [], M) _
    refine w_adv (n := 1) (F' := (13, [(0, .ref 26), (1, .int (Int32.ofInt (k))), (2, .int (Int32.ofInt (a))), (3, .int (Int32.ofInt (b))), (4, .int (Int32.ofInt (c)))], [.ref 26], M)) rfl ?_
    refine w_gf (v := .int (Int32.ofInt ((I 1670)))) hR rfl rfl rfl rfl ?_
    refine w_adv (n := 2) (F' := (19, [(5, .int (Int32.ofInt ((I 1670)))), (0, .ref 26), (1, .int (Int32.ofInt (k))), (2, .int (Int32.ofInt (a))), (3, .int (Int32.ofInt (b))), (4, .int (Int32.ofInt (c)))], [.ref 26], M)) rfl ?_
    refine w_gf (v := .ref 27) hR rfl rfl rfl rfl ?_
    refine w_adv (n := 2) (F' := (25, [(5, .int (Int32.ofInt ((I 1670)))), (0, .ref 26), (1, .int (Int32.ofInt (k))), (2, .int (Int32.ofInt (a))), (3, .int (Int32.ofInt (b))), (4, .int (Int32.ofInt (c)))], [.int (Int32.ofInt (k)), .int (Int32.ofInt ((I 1670))), .ref 27], M)) rfl ?_
    refine w_call (cm := 25) (as := [(0, .ref 27), (1, .int (Int32.ofInt ((I 1670)))), (2, .int (Int32.ofInt (k)))]) (rest := []) (o := none) rfl (trivial) (c_set ((I 1670)) (k) 27 3016 rfl (by decide) hR ⟨by omega, by omega⟩ ⟨by omega, by omega⟩) (fun r4 M5 q6 => ?_)
    rcases q6 with ⟨e7, hR6a⟩
    rw [e7]
    replace hR6a : w_Rep w_TC fr X u l I (w_upF A 27 (w_upG 3016 (A 27) ((I 1670)) (k))) B C M5 := hR6a
    show w_W _ _ _ (28, [(5, .int (Int32.ofInt ((I 1670)))), (0, .ref 26), (1, .int (Int32.ofInt (k))), (2, .int (Int32.ofInt (a))), (3, .int (Int32.ofInt (b))), (4, .int (Int32.ofInt (c)))], [], M5) _
    refine w_adv (n := 1) (F' := (29, [(5, .int (Int32.ofInt ((I 1670)))), (0, .ref 26), (1, .int (Int32.ofInt (k))), (2, .int (Int32.ofInt (a))), (3, .int (Int32.ofInt (b))), (4, .int (Int32.ofInt (c)))], [.ref 26], M5)) rfl ?_
    refine w_gf (v := .ref 28) hR6a rfl rfl rfl rfl ?_
    refine w_adv (n := 2) (F' := (35, [(5, .int (Int32.ofInt ((I 1670)))), (0, .ref 26), (1, .int (Int32.ofInt (k))), (2, .int (Int32.ofInt (a))), (3, .int (Int32.ofInt (b))), (4, .int (Int32.ofInt (c)))], [.int (Int32.ofInt (a)), .int (Int32.ofInt ((I 1670))), .ref 28], M5)) rfl ?_
    refine w_call (cm := 25) (as := [(0, .ref 28), (1, .int (Int32.ofInt ((I 1670)))), (2, .int (Int32.ofInt (a)))]) (rest := []) (o := none) rfl (trivial) (c_set ((I 1670)) (a) 28 3016 rfl (by decide) hR6a ⟨by omega, by omega⟩ ⟨by omega, by omega⟩) (fun r8 M9 q10 => ?_)
    rcases q10 with ⟨e11, hR10a⟩
    rw [e11]
    replace hR10a : w_Rep w_TC fr X u l I (w_upF (w_upF A 27 (w_upG 3016 (A 27) ((I 1670)) (k))) 28 (w_upG 3016 (A 28) ((I 1670)) (a))) B C M9 := hR10a
    show w_W _ _ _ (38, [(5, .int (Int32.ofInt ((I 1670)))), (0, .ref 26), (1, .int (Int32.ofInt (k))), (2, .int (Int32.ofInt (a))), (3, .int (Int32.ofInt (b))), (4, .int (Int32.ofInt (c)))], [], M9) _
    refine w_adv (n := 1) (F' := (39, [(5, .int (Int32.ofInt ((I 1670)))), (0, .ref 26), (1, .int (Int32.ofInt (k))), (2, .int (Int32.ofInt (a))), (3, .int (Int32.ofInt (b))), (4, .int (Int32.ofInt (c)))], [.ref 26], M9)) rfl ?_
    refine w_gf (v := .ref 29) hR10a rfl rfl rfl rfl ?_
    refine w_adv (n := 2) (F' := (45, [(5, .int (Int32.ofInt ((I 1670)))), (0, .ref 26), (1, .int (Int32.ofInt (k))), (2, .int (Int32.ofInt (a))), (3, .int (Int32.ofInt (b))), (4, .int (Int32.ofInt (c)))], [.int (Int32.ofInt (b)), .int (Int32.ofInt ((I 1670))), .ref 29], M9)) rfl ?_
    refine w_call (cm := 25) (as := [(0, .ref 29), (1, .int (Int32.ofInt ((I 1670)))), (2, .int (Int32.ofInt (b)))]) (rest := []) (o := none) rfl (trivial) (c_set ((I 1670)) (b) 29 3016 rfl (by decide) hR10a ⟨by omega, by omega⟩ ⟨by omega, by omega⟩) (fun r12 M13 q14 => ?_)
    rcases q14 with ⟨e15, hR14a⟩
    rw [e15]
    replace hR14a : w_Rep w_TC fr X u l I (w_upF (w_upF (w_upF A 27 (w_upG 3016 (A 27) ((I 1670)) (k))) 28 (w_upG 3016 (A 28) ((I 1670)) (a))) 29 (w_upG 3016 (A 29) ((I 1670)) (b))) B C M13 := hR14a
    show w_W _ _ _ (48, [(5, .int (Int32.ofInt ((I 1670)))), (0, .ref 26), (1, .int (Int32.ofInt (k))), (2, .int (Int32.ofInt (a))), (3, .int (Int32.ofInt (b))), (4, .int (Int32.ofInt (c)))], [], M13) _
    refine w_adv (n := 1) (F' := (49, [(5, .int (Int32.ofInt ((I 1670)))), (0, .ref 26), (1, .int (Int32.ofInt (k))), (2, .int (Int32.ofInt (a))), (3, .int (Int32.ofInt (b))), (4, .int (Int32.ofInt (c)))], [.ref 26], M13)) rfl ?_
    refine w_gf (v := .ref 30) hR14a rfl rfl rfl rfl ?_
    refine w_adv (n := 2) (F' := (56, [(5, .int (Int32.ofInt ((I 1670)))), (0, .ref 26), (1, .int (Int32.ofInt (k))), (2, .int (Int32.ofInt (a))), (3, .int (Int32.ofInt (b))), (4, .int (Int32.ofInt (c)))], [.int (Int32.ofInt (c)), .int (Int32.ofInt ((I 1670))), .ref 30], M13)) rfl ?_
    refine w_call (cm := 25) (as := [(0, .ref 30), (1, .int (Int32.ofInt ((I 1670)))), (2, .int (Int32.ofInt (c)))]) (rest := []) (o := none) rfl (trivial) (c_set ((I 1670)) (c) 30 3016 rfl (by decide) hR14a ⟨by omega, by omega⟩ ⟨by omega, by omega⟩) (fun r16 M17 q18 => ?_)
    rcases q18 with ⟨e19, hR18a⟩
    rw [e19]
    replace hR18a : w_Rep w_TC fr X u l I (w_upF (w_upF (w_upF (w_upF A 27 (w_upG 3016 (A 27) ((I 1670)) (k))) 28 (w_upG 3016 (A 28) ((I 1670)) (a))) 29 (w_upG 3016 (A 29) ((I 1670)) (b))) 30 (w_upG 3016 (A 30) ((I 1670)) (c))) B C M17 := hR18a
    show w_W _ _ _ (59, [(5, .int (Int32.ofInt ((I 1670)))), (0, .ref 26), (1, .int (Int32.ofInt (k))), (2, .int (Int32.ofInt (a))), (3, .int (Int32.ofInt (b))), (4, .int (Int32.ofInt (c)))], [], M17) _
    refine w_adv (n := 1) (F' := (60, [(5, .int (Int32.ofInt ((I 1670)))), (0, .ref 26), (1, .int (Int32.ofInt (k))), (2, .int (Int32.ofInt (a))), (3, .int (Int32.ofInt (b))), (4, .int (Int32.ofInt (c)))], [.ref 26], M17)) rfl ?_
    refine w_gf (v := .ref 31) hR18a rfl rfl rfl rfl ?_
    refine w_adv (n := 2) (F' := (66, [(5, .int (Int32.ofInt ((I 1670)))), (0, .ref 26), (1, .int (Int32.ofInt (k))), (2, .int (Int32.ofInt (a))), (3, .int (Int32.ofInt (b))), (4, .int (Int32.ofInt (c)))], [.int (Int32.ofInt ((-1))), .int (Int32.ofInt ((I 1670))), .ref 31], M17)) rfl ?_
    refine w_call (cm := 25) (as := [(0, .ref 31), (1, .int (Int32.ofInt ((I 1670)))), (2, .int (Int32.ofInt ((-1))))]) (rest := []) (o := none) rfl (trivial) (c_set ((I 1670)) ((-1)) 31 3016 rfl (by decide) hR18a ⟨by omega, by omega⟩ ⟨by omega, by omega⟩) (fun r20 M21 q22 => ?_)
    rcases q22 with ⟨e23, hR22a⟩
    rw [e23]
    replace hR22a : w_Rep w_TC fr X u l I (w_upF (w_upF (w_upF (w_upF (w_upF A 27 (w_upG 3016 (A 27) ((I 1670)) (k))) 28 (w_upG 3016 (A 28) ((I 1670)) (a))) 29 (w_upG 3016 (A 29) ((I 1670)) (b))) 30 (w_upG 3016 (A 30) ((I 1670)) (c))) 31 (w_upG 3016 (A 31) ((I 1670)) ((-1)))) B C M21 := hR22a
    show w_W _ _ _ (69, [(5, .int (Int32.ofInt ((I 1670)))), (0, .ref 26), (1, .int (Int32.ofInt (k))), (2, .int (Int32.ofInt (a))), (3, .int (Int32.ofInt (b))), (4, .int (Int32.ofInt (c)))], [], M21) _
    refine w_adv (n := 1) (F' := (70, [(5, .int (Int32.ofInt ((I 1670)))), (0, .ref 26), (1, .int (Int32.ofInt (k))), (2, .int (Int32.ofInt (a))), (3, .int (Int32.ofInt (b))), (4, .int (Int32.ofInt (c)))], [.ref 26], M21)) rfl ?_
    refine w_gf (v := .ref 32) hR22a rfl rfl rfl rfl ?_
    refine w_adv (n := 2) (F' := (76, [(5, .int (Int32.ofInt ((I 1670)))), (0, .ref 26), (1, .int (Int32.ofInt (k))), (2, .int (Int32.ofInt (a))), (3, .int (Int32.ofInt (b))), (4, .int (Int32.ofInt (c)))], [.int (Int32.ofInt ((-1))), .int (Int32.ofInt ((I 1670))), .ref 32], M21)) rfl ?_
    refine w_call (cm := 25) (as := [(0, .ref 32), (1, .int (Int32.ofInt ((I 1670)))), (2, .int (Int32.ofInt ((-1))))]) (rest := []) (o := none) rfl (trivial) (c_set ((I 1670)) ((-1)) 32 3016 rfl (by decide) hR22a ⟨by omega, by omega⟩ ⟨by omega, by omega⟩) (fun r24 M25 q26 => ?_)
    rcases q26 with ⟨e27, hR26a⟩
    rw [e27]
    replace hR26a : w_Rep w_TC fr X u l I (w_upF (w_upF (w_upF (w_upF (w_upF (w_upF A 27 (w_upG 3016 (A 27) ((I 1670)) (k))) 28 (w_upG 3016 (A 28) ((I 1670)) (a))) 29 (w_upG 3016 (A 29) ((I 1670)) (b))) 30 (w_upG 3016 (A 30) ((I 1670)) (c))) 31 (w_upG 3016 (A 31) ((I 1670)) ((-1)))) 32 (w_upG 3016 (A 32) ((I 1670)) ((-1)))) B C M25 := hR26a
    show w_W _ _ _ (79, [(5, .int (Int32.ofInt ((I 1670)))), (0, .ref 26), (1, .int (Int32.ofInt (k))), (2, .int (Int32.ofInt (a))), (3, .int (Int32.ofInt (b))), (4, .int (Int32.ofInt (c)))], [], M25) _
    refine w_adv (n := 2) (F' := (81, [(5, .int (Int32.ofInt ((I 1670)))), (0, .ref 26), (1, .int (Int32.ofInt (k))), (2, .int (Int32.ofInt (a))), (3, .int (Int32.ofInt (b))), (4, .int (Int32.ofInt (c)))], [.ref 26, .ref 26], M25)) rfl ?_
    refine w_gf (v := .int (Int32.ofInt ((I 1670)))) hR26a rfl rfl rfl rfl ?_
    refine w_adv (n := 1) (F' := (85, [(5, .int (Int32.ofInt ((I 1670)))), (0, .ref 26), (1, .int (Int32.ofInt (k))), (2, .int (Int32.ofInt (a))), (3, .int (Int32.ofInt (b))), (4, .int (Int32.ofInt (c)))], [.int (Int32.ofInt (1)), .int (Int32.ofInt ((I 1670))), .ref 26], M25)) rfl ?_
    refine w_add rfl ?_
    refine w_pf hR26a rfl rfl rfl rfl (show w_in ((I 1670) + 1) from ⟨by omega, by omega⟩) (fun h => absurd h (by decide)) (fun M28 hR29 => ?_)
    replace hR29 : w_Rep w_TC fr X u l (w_up I 1670 ((I 1670) + 1)) (w_upF (w_upF (w_upF (w_upF (w_upF (w_upF A 27 (w_upG 3016 (A 27) ((I 1670)) (k))) 28 (w_upG 3016 (A 28) ((I 1670)) (a))) 29 (w_upG 3016 (A 29) ((I 1670)) (b))) 30 (w_upG 3016 (A 30) ((I 1670)) (c))) 31 (w_upG 3016 (A 31) ((I 1670)) ((-1)))) 32 (w_upG 3016 (A 32) ((I 1670)) ((-1)))) B C M28 := hR29
    refine w_adv (n := 1) (F' := (91, [(5, .int (Int32.ofInt ((I 1670)))), (0, .ref 26), (1, .int (Int32.ofInt (k))), (2, .int (Int32.ofInt (a))), (3, .int (Int32.ofInt (b))), (4, .int (Int32.ofInt (c)))], [.int (Int32.ofInt ((I 1670)))], M28)) rfl ?_
    refine w_fin (r := .inl (some ((I 1670)))) (M' := M28) rfl ?_
    exact ⟨(w_upF (w_upF (w_upF (w_upF (w_upF (w_upF A 27 (w_upG 3016 (A 27) ((I 1670)) (k))) 28 (w_upG 3016 (A 28) ((I 1670)) (a))) 29 (w_upG 3016 (A 29) ((I 1670)) (b))) 30 (w_upG 3016 (A 30) ((I 1670)) (c))) 31 (w_upG 3016 (A 31) ((I 1670)) ((-1)))) 32 (w_upG 3016 (A 32) ((I 1670)) ((-1)))), rfl, hR29, (show c_fa c_pa A (w_upF (w_upF (w_upF (w_upF (w_upF (w_upF A 27 (w_upG 3016 (A 27) ((I 1670)) (k))) 28 (w_upG 3016 (A 28) ((I 1670)) (a))) 29 (w_upG 3016 (A 29) ((I 1670)) (b))) 30 (w_upG 3016 (A 30) ((I 1670)) (c))) 31 (w_upG 3016 (A 31) ((I 1670)) ((-1)))) 32 (w_upG 3016 (A 32) ((I 1670)) ((-1)))) by exact (c_fa_up (c_fa_up (c_fa_up (c_fa_up (c_fa_up (c_fa_up c_fa_refl rfl) rfl) rfl) rfl) rfl) rfl)), (show c_mk A (w_upF (w_upF (w_upF (w_upF (w_upF (w_upF A 27 (w_upG 3016 (A 27) ((I 1670)) (k))) 28 (w_upG 3016 (A 28) ((I 1670)) (a))) 29 (w_upG 3016 (A 29) ((I 1670)) (b))) 30 (w_upG 3016 (A 30) ((I 1670)) (c))) 31 (w_upG 3016 (A 31) ((I 1670)) ((-1)))) 32 (w_upG 3016 (A 32) ((I 1670)) ((-1)))) (I 1670) k a b c by exact c_mk_of ⟨by omega, by omega⟩ rfl rfl rfl rfl rfl)⟩
  · have h3 : ¬ ((I 1670) < 3016) := h3
    exfalso; omega
def c_chn_Q (fr : Nat → Bool) (X : Nat → Option (q_C (Nat → Int32))) (u l : Nat) (I : Nat → Int) (A : Nat → Int → Int) (B C : Nat → Nat) (M : w_M) (i : Int) (v : Int) : w_X → w_M → Prop := fun r M' => (∃ A' : Nat → Int → Int, (r = .inl (some v)) ∧ (w_Rep w_TC fr X u l I A' B C M') ∧ (c_fa c_pa A A') ∧ (c_nxw A A' i v))
set_option maxHeartbeats 100000000 in
set_option maxRecDepth 100000 in
theorem c_chn {L : Nat} {xs : Nat → Int32} {d : Nat} {fr : Nat → Bool} {X : Nat → Option (q_C (Nat → Int32))} {u l : Nat} {I : Nat → Int} {A : Nat → Int → Int} {B C : Nat → Nat} {M : w_M} (i : Int) (v : Int) (hR : w_Rep w_TC fr X u l I A B C M) (hd : 2 ≤ d) (r_i : w_in i) (r_v : w_in v) : w_W (z_P L xs) d 106 (0, [(0, .ref 26), (1, .int (Int32.ofInt (i))), (2, .int (Int32.ofInt (v)))], [], M) (c_chn_Q fr X u l I A B C M i v) := by
  obtain ⟨ra_i, rb_i⟩ := r_i
  obtain ⟨ra_v, rb_v⟩ := r_v
  obtain ⟨d, rfl⟩ : ∃ d0, d = d0 + 1 := ⟨d - 1, by omega⟩
  refine w_adv (n := 1) (F' := (1, [(0, .ref 26), (1, .int (Int32.ofInt (i))), (2, .int (Int32.ofInt (v)))], [.ref 26], M)) rfl ?_
  refine w_gf (v := .ref 31) hR rfl rfl rfl rfl ?_
  refine w_adv (n := 2) (F' := (6, [(0, .ref 26), (1, .int (Int32.ofInt (i))), (2, .int (Int32.ofInt (v)))], [.int (Int32.ofInt (v)), .int (Int32.ofInt (i)), .ref 31], M)) rfl ?_
  refine w_call (cm := 25) (as := [(0, .ref 31), (1, .int (Int32.ofInt (i))), (2, .int (Int32.ofInt (v)))]) (rest := []) (o := none) rfl (trivial) (c_set (i) (v) 31 3016 rfl (by decide) hR ⟨by omega, by omega⟩ ⟨by omega, by omega⟩) (fun r1 M2 q3 => ?_)
  rcases q3 with ⟨e4, hR3a⟩
  rw [e4]
  replace hR3a : w_Rep w_TC fr X u l I (w_upF A 31 (w_upG 3016 (A 31) (i) (v))) B C M2 := hR3a
  show w_W _ _ _ (9, [(0, .ref 26), (1, .int (Int32.ofInt (i))), (2, .int (Int32.ofInt (v)))], [], M2) _
  refine w_adv (n := 1) (F' := (10, [(0, .ref 26), (1, .int (Int32.ofInt (i))), (2, .int (Int32.ofInt (v)))], [.int (Int32.ofInt (v))], M2)) rfl ?_
  refine w_fin (r := .inl (some (v))) (M' := M2) rfl ?_
  exact ⟨(w_upF A 31 (w_upG 3016 (A 31) (i) (v))), rfl, hR3a, (show c_fa c_pa A (w_upF A 31 (w_upG 3016 (A 31) (i) (v))) by exact (c_fa_up c_fa_refl rfl)), (show c_nxw A (w_upF A 31 (w_upG 3016 (A 31) (i) (v))) i v by exact c_nxw_of rfl rfl rfl rfl rfl)⟩
def c_stb_Q (fr : Nat → Bool) (X : Nat → Option (q_C (Nat → Int32))) (u l : Nat) (I : Nat → Int) (A : Nat → Int → Int) (B C : Nat → Nat) (M : w_M) (i : Int) (v : Int) : w_X → w_M → Prop := fun r M' => (∃ A' : Nat → Int → Int, (r = .inl none) ∧ (w_Rep w_TC fr X u l I A' B C M') ∧ (c_fa c_pa A A') ∧ (c_bw A A' i v))
set_option maxHeartbeats 100000000 in
set_option maxRecDepth 100000 in
theorem c_stb {L : Nat} {xs : Nat → Int32} {d : Nat} {fr : Nat → Bool} {X : Nat → Option (q_C (Nat → Int32))} {u l : Nat} {I : Nat → Int} {A : Nat → Int → Int} {B C : Nat → Nat} {M : w_M} (i : Int) (v : Int) (hR : w_Rep w_TC fr X u l I A B C M) (hd : 2 ≤ d) (r_i : w_in i) (r_v : w_in v) : w_W (z_P L xs) d 115 (0, [(0, .ref 26), (1, .int (Int32.ofInt (i))), (2, .int (Int32.ofInt (v)))], [], M) (c_stb_Q fr X u l I A B C M i v) := by
  obtain ⟨ra_i, rb_i⟩ := r_i
  obtain ⟨ra_v, rb_v⟩ := r_v
  obtain ⟨d, rfl⟩ : ∃ d0, d = d0 + 1 := ⟨d - 1, by omega⟩
  refine w_adv (n := 1) (F' := (1, [(0, .ref 26), (1, .int (Int32.ofInt (i))), (2, .int (Int32.ofInt (v)))], [.ref 26], M)) rfl ?_
  refine w_gf (v := .ref 29) hR rfl rfl rfl rfl ?_
  refine w_adv (n := 2) (F' := (6, [(0, .ref 26), (1, .int (Int32.ofInt (i))), (2, .int (Int32.ofInt (v)))], [.int (Int32.ofInt (v)), .int (Int32.ofInt (i)), .ref 29], M)) rfl ?_
  refine w_call (cm := 25) (as := [(0, .ref 29), (1, .int (Int32.ofInt (i))), (2, .int (Int32.ofInt (v)))]) (rest := []) (o := none) rfl (trivial) (c_set (i) (v) 29 3016 rfl (by decide) hR ⟨by omega, by omega⟩ ⟨by omega, by omega⟩) (fun r1 M2 q3 => ?_)
  rcases q3 with ⟨e4, hR3a⟩
  rw [e4]
  replace hR3a : w_Rep w_TC fr X u l I (w_upF A 29 (w_upG 3016 (A 29) (i) (v))) B C M2 := hR3a
  show w_W _ _ _ (9, [(0, .ref 26), (1, .int (Int32.ofInt (i))), (2, .int (Int32.ofInt (v)))], [], M2) _
  refine w_fin (r := .inl none) (M' := M2) rfl ?_
  exact ⟨(w_upF A 29 (w_upG 3016 (A 29) (i) (v))), rfl, hR3a, (show c_fa c_pa A (w_upF A 29 (w_upG 3016 (A 29) (i) (v))) by exact (c_fa_up c_fa_refl rfl)), (show c_bw A (w_upF A 29 (w_upG 3016 (A 29) (i) (v))) i v by exact c_bw_of rfl rfl rfl rfl rfl)⟩
def c_bnd_Q (fr : Nat → Bool) (X : Nat → Option (q_C (Nat → Int32))) (u l : Nat) (I : Nat → Int) (A : Nat → Int → Int) (B C : Nat → Nat) (M : w_M) (n : Int) : w_X → w_M → Prop := fun r M' => (∃ v : Int, ∃ A' : Nat → Int → Int, ∃ zs : Int, (r = .inl (some v)) ∧ (w_in v) ∧ (w_Rep w_TC fr X u l (w_up I 2117 (zs)) A' B C M') ∧ (c_fa c_pa A A') ∧ (c_ags A A') ∧ (0 ≤ zs ∧ -1 ≤ v ∧ v ≤ 1508))
set_option maxHeartbeats 100000000 in
set_option maxRecDepth 100000 in
theorem c_bnd {L : Nat} {xs : Nat → Int32} {d : Nat} {fr : Nat → Bool} {X : Nat → Option (q_C (Nat → Int32))} {u l : Nat} {I : Nat → Int} {A : Nat → Int → Int} {B C : Nat → Nat} {M : w_M} (n : Int) (hR : w_Rep w_TC fr X u l I A B C M) (r_n : w_in n) (hs : 0 ≤ (I 2117)) : w_W (z_P L xs) d 78 (0, [(0, .ref 33), (1, .int (Int32.ofInt (n)))], [], M) (c_bnd_Q fr X u l I A B C M n) := by
  obtain ⟨ra_n, rb_n⟩ := r_n
  refine w_adv (n := 1) (F' := (1, [(0, .ref 33), (1, .int (Int32.ofInt (n)))], [.ref 33], M)) rfl ?_
  refine w_gf (v := .int (Int32.ofInt ((I 2117)))) hR rfl rfl rfl rfl ?_
  obtain ⟨r1, r2⟩ : -2147483648 ≤ (I 2117) ∧ (I 2117) ≤ 2147483647 := hR.ri 2117
  refine w_adv (n := 1) (F' := (7, [(0, .ref 33), (1, .int (Int32.ofInt (n)))], [.int (Int32.ofInt (1508)), .int (Int32.ofInt ((I 2117)))], M)) rfl ?_
  refine w_br2 (a := (I 2117)) (b := 1508) rfl rfl ⟨by omega, by omega⟩ ⟨by omega, by omega⟩ (fun h3 => ?_) (fun h3 => ?_)
  · have h3 : (I 2117) ≥ 1508 := h3
    show w_W _ _ _ (23, [(0, .ref 33), (1, .int (Int32.ofInt (n)))], [], M) _
    refine w_adv (n := 1) (F' := (24, [(0, .ref 33), (1, .int (Int32.ofInt (n)))], [.int (Int32.ofInt ((-1)))], M)) rfl ?_
    refine w_fin (r := .inl (some ((-1)))) (M' := M) rfl ?_
    exact ⟨(-1), A, (I 2117), rfl, ⟨by omega, by omega⟩, (w_Rep.up hR (show (w_up I 2117 ((I 2117))) = I from (funext fun s => if e0 : s = 2117 then (by subst e0; rfl) else (by simp only [w_up_ne e0]))) (show A = A from rfl)), (show c_fa c_pa A A by exact c_fa_refl), (show c_ags A A by exact ⟨rfl, rfl, rfl, rfl, rfl⟩), (show 0 ≤ (I 2117) ∧ -1 ≤ (-1) ∧ (-1) ≤ 1508 by first | assumption | omega)⟩
  · have h3 : ¬ ((I 2117) ≥ 1508) := h3
    show w_W _ _ _ (10, [(0, .ref 33), (1, .int (Int32.ofInt (n)))], [], M) _
    refine w_adv (n := 1) (F' := (11, [(0, .ref 33), (1, .int (Int32.ofInt (n)))], [.int (Int32.ofInt (n))], M)) rfl ?_
    refine w_br1 (a := n) rfl rfl ⟨by omega, by omega⟩ (fun h4 => ?_) (fun h4 => ?_)
    · have h4 : n < 0 := h4
      show w_W _ _ _ (23, [(0, .ref 33), (1, .int (Int32.ofInt (n)))], [], M) _
      refine w_adv (n := 1) (F' := (24, [(0, .ref 33), (1, .int (Int32.ofInt (n)))], [.int (Int32.ofInt ((-1)))], M)) rfl ?_
      refine w_fin (r := .inl (some ((-1)))) (M' := M) rfl ?_
      exact ⟨(-1), A, (I 2117), rfl, ⟨by omega, by omega⟩, (w_Rep.up hR (show (w_up I 2117 ((I 2117))) = I from (funext fun s => if e0 : s = 2117 then (by subst e0; rfl) else (by simp only [w_up_ne e0]))) (show A = A from rfl)), (show c_fa c_pa A A by exact c_fa_refl), (show c_ags A A by exact ⟨rfl, rfl, rfl, rfl, rfl⟩), (show 0 ≤ (I 2117) ∧ -1 ≤ (-1) ∧ (-1) ≤ 1508 by first | assumption | omega)⟩
    · have h4 : ¬ (n < 0) := h4
      show w_W _ _ _ (14, [(0, .ref 33), (1, .int (Int32.ofInt (n)))], [], M) _
      refine w_adv (n := 2) (F' := (16, [(0, .ref 33), (1, .int (Int32.ofInt (n)))], [.ref 33, .int (Int32.ofInt (n))], M)) rfl ?_
      refine w_gf (v := .ref 37) hR rfl rfl rfl rfl ?_
      refine w_lena (n := 420) hR rfl rfl rfl ?_
      show w_W _ _ _ (20, [(0, .ref 33), (1, .int (Int32.ofInt (n)))], [.int (Int32.ofInt (420)), .int (Int32.ofInt (n))], M) _
      refine w_br2 (a := n) (b := 420) rfl rfl ⟨by omega, by omega⟩ ⟨by omega, by omega⟩ (fun h5 => ?_) (fun h5 => ?_)
      · have h5 : n < 420 := h5
        show w_W _ _ _ (25, [(0, .ref 33), (1, .int (Int32.ofInt (n)))], [], M) _
        refine w_adv (n := 1) (F' := (26, [(0, .ref 33), (1, .int (Int32.ofInt (n)))], [.ref 33], M)) rfl ?_
        refine w_gf (v := .int (Int32.ofInt ((I 2117)))) hR rfl rfl rfl rfl ?_
        refine w_adv (n := 2) (F' := (31, [(2, .int (Int32.ofInt ((I 2117)))), (0, .ref 33), (1, .int (Int32.ofInt (n)))], [.ref 33], M)) rfl ?_
        refine w_gf (v := .ref 34) hR rfl rfl rfl rfl ?_
        refine w_adv (n := 2) (F' := (36, [(2, .int (Int32.ofInt ((I 2117)))), (0, .ref 33), (1, .int (Int32.ofInt (n)))], [.int (Int32.ofInt (n)), .int (Int32.ofInt ((I 2117))), .ref 34], M)) rfl ?_
        refine w_sai (n := 1508) hR rfl rfl (show 0 ≤ (I 2117) by omega) (show (I 2117) < (1508 : Int) by omega) (by decide) (show w_in (n) from ⟨by omega, by omega⟩) (fun M6 hR7 => ?_)
        replace hR7 : w_Rep w_TC fr X u l I (w_upF A 34 (w_upA (A 34) ((I 2117)) (n))) B C M6 := hR7
        refine w_adv (n := 1) (F' := (38, [(2, .int (Int32.ofInt ((I 2117)))), (0, .ref 33), (1, .int (Int32.ofInt (n)))], [.ref 33], M6)) rfl ?_
        refine w_gf (v := .ref 35) hR7 rfl rfl rfl rfl ?_
        refine w_adv (n := 2) (F' := (43, [(2, .int (Int32.ofInt ((I 2117)))), (0, .ref 33), (1, .int (Int32.ofInt (n)))], [.ref 33, .int (Int32.ofInt ((I 2117))), .ref 35], M6)) rfl ?_
        refine w_gf (v := .ref 37) hR7 rfl rfl rfl rfl ?_
        refine w_adv (n := 1) (F' := (47, [(2, .int (Int32.ofInt ((I 2117)))), (0, .ref 33), (1, .int (Int32.ofInt (n)))], [.int (Int32.ofInt (n)), .ref 37, .int (Int32.ofInt ((I 2117))), .ref 35], M6)) rfl ?_
        refine w_la (n := 420) hR7 rfl (Or.inl ⟨rfl, rfl⟩) rfl (show 0 ≤ n by omega) (show n < (420 : Int) by omega) (by decide) ?_
        obtain ⟨r8, r9⟩ : -2147483648 ≤ (A 37) (n) ∧ (A 37) (n) ≤ 2147483647 := hR7.ra 37 (n)
        show w_W _ _ _ (48, [(2, .int (Int32.ofInt ((I 2117)))), (0, .ref 33), (1, .int (Int32.ofInt (n)))], [.int (Int32.ofInt ((A 37) (n))), .int (Int32.ofInt ((I 2117))), .ref 35], M6) _
        refine w_sai (n := 1508) hR7 rfl rfl (show 0 ≤ (I 2117) by omega) (show (I 2117) < (1508 : Int) by omega) (by decide) (show w_in ((A 37) (n)) from ⟨by omega, by omega⟩) (fun M10 hR11 => ?_)
        replace hR11 : w_Rep w_TC fr X u l I (w_upF (w_upF A 34 (w_upA (A 34) ((I 2117)) (n))) 35 (w_upA (A 35) ((I 2117)) ((A 37) (n)))) B C M10 := hR11
        refine w_adv (n := 1) (F' := (50, [(2, .int (Int32.ofInt ((I 2117)))), (0, .ref 33), (1, .int (Int32.ofInt (n)))], [.ref 33], M10)) rfl ?_
        refine w_gf (v := .ref 36) hR11 rfl rfl rfl rfl ?_
        refine w_adv (n := 2) (F' := (55, [(2, .int (Int32.ofInt ((I 2117)))), (0, .ref 33), (1, .int (Int32.ofInt (n)))], [.int (Int32.ofInt ((-1))), .int (Int32.ofInt ((I 2117))), .ref 36], M10)) rfl ?_
        refine w_sai (n := 1508) hR11 rfl rfl (show 0 ≤ (I 2117) by omega) (show (I 2117) < (1508 : Int) by omega) (by decide) (show w_in ((-1)) from ⟨by omega, by omega⟩) (fun M12 hR13 => ?_)
        replace hR13 : w_Rep w_TC fr X u l I (w_upF (w_upF (w_upF A 34 (w_upA (A 34) ((I 2117)) (n))) 35 (w_upA (A 35) ((I 2117)) ((A 37) (n)))) 36 (w_upA (A 36) ((I 2117)) ((-1)))) B C M12 := hR13
        refine w_adv (n := 1) (F' := (57, [(2, .int (Int32.ofInt ((I 2117)))), (0, .ref 33), (1, .int (Int32.ofInt (n)))], [.ref 33], M12)) rfl ?_
        refine w_gf (v := .ref 37) hR13 rfl rfl rfl rfl ?_
        refine w_adv (n := 2) (F' := (62, [(2, .int (Int32.ofInt ((I 2117)))), (0, .ref 33), (1, .int (Int32.ofInt (n)))], [.int (Int32.ofInt ((I 2117))), .int (Int32.ofInt (n)), .ref 37], M12)) rfl ?_
        refine w_sai (n := 420) hR13 rfl rfl (show 0 ≤ n by omega) (show n < (420 : Int) by omega) (by decide) (show w_in ((I 2117)) from ⟨by omega, by omega⟩) (fun M14 hR15 => ?_)
        replace hR15 : w_Rep w_TC fr X u l I (w_upF (w_upF (w_upF (w_upF A 34 (w_upA (A 34) ((I 2117)) (n))) 35 (w_upA (A 35) ((I 2117)) ((A 37) (n)))) 36 (w_upA (A 36) ((I 2117)) ((-1)))) 37 (w_upA (A 37) (n) ((I 2117)))) B C M14 := hR15
        refine w_adv (n := 2) (F' := (65, [(2, .int (Int32.ofInt ((I 2117)))), (0, .ref 33), (1, .int (Int32.ofInt (n)))], [.ref 33, .ref 33], M14)) rfl ?_
        refine w_gf (v := .int (Int32.ofInt ((I 2117)))) hR15 rfl rfl rfl rfl ?_
        refine w_adv (n := 1) (F' := (69, [(2, .int (Int32.ofInt ((I 2117)))), (0, .ref 33), (1, .int (Int32.ofInt (n)))], [.int (Int32.ofInt (1)), .int (Int32.ofInt ((I 2117))), .ref 33], M14)) rfl ?_
        refine w_add rfl ?_
        refine w_pf hR15 rfl rfl rfl rfl (show w_in ((I 2117) + 1) from ⟨by omega, by omega⟩) (fun h => absurd h (by decide)) (fun M16 hR17 => ?_)
        replace hR17 : w_Rep w_TC fr X u l (w_up I 2117 ((I 2117) + 1)) (w_upF (w_upF (w_upF (w_upF A 34 (w_upA (A 34) ((I 2117)) (n))) 35 (w_upA (A 35) ((I 2117)) ((A 37) (n)))) 36 (w_upA (A 36) ((I 2117)) ((-1)))) 37 (w_upA (A 37) (n) ((I 2117)))) B C M16 := hR17
        refine w_adv (n := 1) (F' := (74, [(2, .int (Int32.ofInt ((I 2117)))), (0, .ref 33), (1, .int (Int32.ofInt (n)))], [.int (Int32.ofInt ((I 2117)))], M16)) rfl ?_
        refine w_fin (r := .inl (some ((I 2117)))) (M' := M16) rfl ?_
        exact ⟨(I 2117), (w_upF (w_upF (w_upF (w_upF A 34 (w_upA (A 34) ((I 2117)) (n))) 35 (w_upA (A 35) ((I 2117)) ((A 37) (n)))) 36 (w_upA (A 36) ((I 2117)) ((-1)))) 37 (w_upA (A 37) (n) ((I 2117)))), (I 2117) + 1, rfl, ⟨by omega, by omega⟩, hR17, (show c_fa c_pa A (w_upF (w_upF (w_upF (w_upF A 34 (w_upA (A 34) ((I 2117)) (n))) 35 (w_upA (A 35) ((I 2117)) ((A 37) (n)))) 36 (w_upA (A 36) ((I 2117)) ((-1)))) 37 (w_upA (A 37) (n) ((I 2117)))) by exact (c_fa_up (c_fa_up (c_fa_up (c_fa_up c_fa_refl rfl) rfl) rfl) rfl)), (show c_ags A (w_upF (w_upF (w_upF (w_upF A 34 (w_upA (A 34) ((I 2117)) (n))) 35 (w_upA (A 35) ((I 2117)) ((A 37) (n)))) 36 (w_upA (A 36) ((I 2117)) ((-1)))) 37 (w_upA (A 37) (n) ((I 2117)))) by exact ⟨rfl, rfl, rfl, rfl, rfl⟩), (show 0 ≤ (I 2117) + 1 ∧ -1 ≤ (I 2117) ∧ (I 2117) ≤ 1508 by first | assumption | omega)⟩
      · have h5 : ¬ (n < 420) := h5
        show w_W _ _ _ (23, [(0, .ref 33), (1, .int (Int32.ofInt (n)))], [], M) _
        refine w_adv (n := 1) (F' := (24, [(0, .ref 33), (1, .int (Int32.ofInt (n)))], [.int (Int32.ofInt ((-1)))], M)) rfl ?_
        refine w_fin (r := .inl (some ((-1)))) (M' := M) rfl ?_
        exact ⟨(-1), A, (I 2117), rfl, ⟨by omega, by omega⟩, (w_Rep.up hR (show (w_up I 2117 ((I 2117))) = I from (funext fun s => if e0 : s = 2117 then (by subst e0; rfl) else (by simp only [w_up_ne e0]))) (show A = A from rfl)), (show c_fa c_pa A A by exact c_fa_refl), (show c_ags A A by exact ⟨rfl, rfl, rfl, rfl, rfl⟩), (show 0 ≤ (I 2117) ∧ -1 ≤ (-1) ∧ (-1) ≤ 1508 by first | assumption | omega)⟩
def c_lv_Q (fr : Nat → Bool) (X : Nat → Option (q_C (Nat → Int32))) (u l : Nat) (I : Nat → Int) (A : Nat → Int → Int) (B C : Nat → Nat) (M : w_M) (f : Int) (g : Int) : w_X → w_M → Prop := fun r M' => (∃ A' : Nat → Int → Int, (r = .inl none) ∧ (w_Rep w_TC fr X u l I A' B C M') ∧ (c_fa c_pa A A') ∧ (c_ags A A'))
set_option maxHeartbeats 100000000 in
set_option maxRecDepth 100000 in
theorem c_lv {L : Nat} {xs : Nat → Int32} {d : Nat} {fr : Nat → Bool} {X : Nat → Option (q_C (Nat → Int32))} {u l : Nat} {I : Nat → Int} {A : Nat → Int → Int} {B C : Nat → Nat} {M : w_M} (f : Int) (g : Int) (hR : w_Rep w_TC fr X u l I A B C M) (hd : 1 ≤ d) (r_f : w_in f) (r_g : w_in g) (hfg : -5 ≤ f ∧ -5 ≤ g) : w_W (z_P L xs) d 121 (0, [(0, .ref 33), (1, .int (Int32.ofInt (f))), (2, .int (Int32.ofInt (g)))], [], M) (c_lv_Q fr X u l I A B C M f g) := by
  obtain ⟨ra_f, rb_f⟩ := r_f
  obtain ⟨ra_g, rb_g⟩ := r_g
  obtain ⟨d, rfl⟩ : ∃ d0, d = d0 + 1 := ⟨d - 1, by omega⟩
  refine w_adv (n := 2) (F' := (2, [(0, .ref 33), (1, .int (Int32.ofInt (f))), (2, .int (Int32.ofInt (g)))], [.int (Int32.ofInt (1)), .int (Int32.ofInt (g))], M)) rfl ?_
  refine w_sub rfl ?_
  refine w_adv (n := 1) (F' := (4, [(3, .int (Int32.ofInt (g - 1))), (0, .ref 33), (1, .int (Int32.ofInt (f))), (2, .int (Int32.ofInt (g)))], [], M)) rfl ?_
  have lp4 : ∀ fu4 : Nat, ∀ (y4_3 : Int) (ga4_37 : Int → Int) (M_4 : w_M) (hR_4 : w_Rep w_TC fr X u l I (w_upF A 37 ga4_37) B C M_4), w_in y4_3 → -7 ≤ y4_3 → y4_3 + 7 < (fu4 : Int) → w_W (z_P L xs) (d + 1) 121 (4, [(0, .ref 33), (1, .int (Int32.ofInt (f))), (2, .int (Int32.ofInt (g))), (3, .int (Int32.ofInt (y4_3)))], [], M_4) (c_lv_Q fr X u l I A B C M f g) := by
    intro fu4
    induction fu4 with
    | zero =>
      intro y4_3 ga4_37 M_4 hR_4 ⟨ra_y4_3, rb_y4_3⟩ hi4_0 hn4
      exfalso
      omega
    | succ fu4 ih4 =>
      intro y4_3 ga4_37 M_4 hR_4 ⟨ra_y4_3, rb_y4_3⟩ hi4_0 hn4
      refine w_adv (n := 2) (F' := (6, [(0, .ref 33), (1, .int (Int32.ofInt (f))), (2, .int (Int32.ofInt (g))), (3, .int (Int32.ofInt (y4_3)))], [.int (Int32.ofInt (f)), .int (Int32.ofInt (y4_3))], M_4)) rfl ?_
      refine w_br2 (a := y4_3) (b := f) rfl rfl ⟨by omega, by omega⟩ ⟨by omega, by omega⟩ (fun h1 => ?_) (fun h1 => ?_)
      · have h1 : y4_3 < f := h1
        show w_W _ _ _ (38, [(0, .ref 33), (1, .int (Int32.ofInt (f))), (2, .int (Int32.ofInt (g))), (3, .int (Int32.ofInt (y4_3)))], [], M_4) _
        refine w_fin (r := .inl none) (M' := M_4) rfl ?_
        exact ⟨(w_upF A 37 ga4_37), rfl, hR_4, (show c_fa c_pa A (w_upF A 37 ga4_37) by exact (c_fa_up c_fa_refl rfl)), (show c_ags A (w_upF A 37 ga4_37) by exact ⟨rfl, rfl, rfl, rfl, rfl⟩)⟩
      · have h1 : ¬ (y4_3 < f) := h1
        show w_W _ _ _ (9, [(0, .ref 33), (1, .int (Int32.ofInt (f))), (2, .int (Int32.ofInt (g))), (3, .int (Int32.ofInt (y4_3)))], [], M_4) _
        refine w_adv (n := 1) (F' := (10, [(0, .ref 33), (1, .int (Int32.ofInt (f))), (2, .int (Int32.ofInt (g))), (3, .int (Int32.ofInt (y4_3)))], [.ref 33], M_4)) rfl ?_
        refine w_gf (v := .ref 37) hR_4 rfl rfl rfl rfl ?_
        refine w_adv (n := 1) (F' := (14, [(0, .ref 33), (1, .int (Int32.ofInt (f))), (2, .int (Int32.ofInt (g))), (3, .int (Int32.ofInt (y4_3)))], [.ref 33, .ref 37], M_4)) rfl ?_
        refine w_gf (v := .ref 34) hR_4 rfl rfl rfl rfl ?_
        refine w_adv (n := 1) (F' := (18, [(0, .ref 33), (1, .int (Int32.ofInt (f))), (2, .int (Int32.ofInt (g))), (3, .int (Int32.ofInt (y4_3)))], [.int (Int32.ofInt (y4_3)), .ref 34, .ref 37], M_4)) rfl ?_
        refine w_call (cm := 21) (as := [(0, .ref 34), (1, .int (Int32.ofInt (y4_3)))]) (rest := [.ref 37]) (o := none) rfl (trivial) (c_at (y4_3) 34 1508 rfl (by decide) hR_4 ⟨by omega, by omega⟩) (fun r2 M3 q4 => ?_)
        rcases q4 with ⟨v5, e6, ⟨r7, r8⟩, e9, f10⟩
        rw [e6, e9]
        replace f10 : ((0 ≤ y4_3 ∧ y4_3 < (1508 : Int) ∧ v5 = (A 34) (y4_3)) ∨ (¬ (0 ≤ y4_3 ∧ y4_3 < (1508 : Int)) ∧ v5 = -1)) := f10
        show w_W _ _ _ (21, [(0, .ref 33), (1, .int (Int32.ofInt (f))), (2, .int (Int32.ofInt (g))), (3, .int (Int32.ofInt (y4_3)))], [.int (Int32.ofInt (v5)), .ref 37], M_4) _
        refine w_adv (n := 1) (F' := (22, [(0, .ref 33), (1, .int (Int32.ofInt (f))), (2, .int (Int32.ofInt (g))), (3, .int (Int32.ofInt (y4_3)))], [.ref 33, .int (Int32.ofInt (v5)), .ref 37], M_4)) rfl ?_
        refine w_gf (v := .ref 35) hR_4 rfl rfl rfl rfl ?_
        refine w_adv (n := 1) (F' := (26, [(0, .ref 33), (1, .int (Int32.ofInt (f))), (2, .int (Int32.ofInt (g))), (3, .int (Int32.ofInt (y4_3)))], [.int (Int32.ofInt (y4_3)), .ref 35, .int (Int32.ofInt (v5)), .ref 37], M_4)) rfl ?_
        refine w_call (cm := 21) (as := [(0, .ref 35), (1, .int (Int32.ofInt (y4_3)))]) (rest := [.int (Int32.ofInt (v5)), .ref 37]) (o := none) rfl (trivial) (c_at (y4_3) 35 1508 rfl (by decide) hR_4 ⟨by omega, by omega⟩) (fun r11 M12 q13 => ?_)
        rcases q13 with ⟨v14, e15, ⟨r16, r17⟩, e18, f19⟩
        rw [e15, e18]
        replace f19 : ((0 ≤ y4_3 ∧ y4_3 < (1508 : Int) ∧ v14 = (A 35) (y4_3)) ∨ (¬ (0 ≤ y4_3 ∧ y4_3 < (1508 : Int)) ∧ v14 = -1)) := f19
        show w_W _ _ _ (29, [(0, .ref 33), (1, .int (Int32.ofInt (f))), (2, .int (Int32.ofInt (g))), (3, .int (Int32.ofInt (y4_3)))], [.int (Int32.ofInt (v14)), .int (Int32.ofInt (v5)), .ref 37], M_4) _
        refine w_call (cm := 25) (as := [(0, .ref 37), (1, .int (Int32.ofInt (v5))), (2, .int (Int32.ofInt (v14)))]) (rest := []) (o := none) rfl (trivial) (c_set (v5) (v14) 37 420 rfl (by decide) hR_4 ⟨by omega, by omega⟩ ⟨by omega, by omega⟩) (fun r20 M21 q22 => ?_)
        rcases q22 with ⟨e23, hR22a⟩
        rw [e23]
        replace hR22a : w_Rep w_TC fr X u l I (w_upF (w_upF A 37 ga4_37) 37 (w_upG 420 ga4_37 (v5) (v14))) B C M21 := hR22a
        show w_W _ _ _ (32, [(0, .ref 33), (1, .int (Int32.ofInt (f))), (2, .int (Int32.ofInt (g))), (3, .int (Int32.ofInt (y4_3)))], [], M21) _
        refine w_inc (nL := 4) (a := y4_3) rfl rfl rfl (by decide) ?_
        refine w_adv (n := 1) (F' := (4, [(3, .int (Int32.ofInt (y4_3 + (-1)))), (0, .ref 33), (1, .int (Int32.ofInt (f))), (2, .int (Int32.ofInt (g)))], [], M21)) rfl ?_
        refine w_ls (ls := [(0, .ref 33), (1, .int (Int32.ofInt (f))), (2, .int (Int32.ofInt (g))), (3, .int (Int32.ofInt (y4_3 + (-1))))]) (show List.Nodup [0, 1, 2, 3] by decide) (show List.Nodup [3, 0, 1, 2] by decide) (List.forall_mem_cons.mpr ⟨(List.Mem.tail _ (List.Mem.head _)), (List.forall_mem_cons.mpr ⟨(List.Mem.tail _ (List.Mem.tail _ (List.Mem.head _))), (List.forall_mem_cons.mpr ⟨(List.Mem.tail _ (List.Mem.tail _ (List.Mem.tail _ (List.Mem.head _)))), (List.forall_mem_cons.mpr ⟨(List.Mem.head _), (fun _ h => by cases h)⟩)⟩)⟩)⟩) ?_
        exact ih4  (y4_3 + (-1)) ((w_upG 420 ga4_37 (v5) (v14))) M21 (w_Rep.up hR22a (show I = I from rfl) (show (w_upF A 37 (w_upG 420 ga4_37 (v5) (v14))) = (w_upF (w_upF A 37 ga4_37) 37 (w_upG 420 ga4_37 (v5) (v14))) from (funext fun s => if e0 : s = 37 then (by subst e0; rfl) else (by simp only [w_upF_ne e0])))) ⟨by omega, by omega⟩ (show -7 ≤ (y4_3 + (-1)) by omega) (show (y4_3 + (-1)) + 7 < (fu4 : Int) by omega)
  refine w_ls (ls := [(0, .ref 33), (1, .int (Int32.ofInt (f))), (2, .int (Int32.ofInt (g))), (3, .int (Int32.ofInt (g - 1)))]) (show List.Nodup [0, 1, 2, 3] by decide) (show List.Nodup [3, 0, 1, 2] by decide) (List.forall_mem_cons.mpr ⟨(List.Mem.tail _ (List.Mem.head _)), (List.forall_mem_cons.mpr ⟨(List.Mem.tail _ (List.Mem.tail _ (List.Mem.head _))), (List.forall_mem_cons.mpr ⟨(List.Mem.tail _ (List.Mem.tail _ (List.Mem.tail _ (List.Mem.head _)))), (List.forall_mem_cons.mpr ⟨(List.Mem.head _), (fun _ h => by cases h)⟩)⟩)⟩)⟩) ?_
  exact lp4 (((g - 1) + 7 : Int).toNat + 1)  (g - 1) ((A 37)) M (w_Rep.up hR (show I = I from rfl) (show (w_upF A 37 (A 37)) = A from (funext fun s => if e0 : s = 37 then (by subst e0; rfl) else (by simp only [w_upF_ne e0])))) ⟨by omega, by omega⟩ (show -7 ≤ (g - 1) by omega) (show (g - 1) + 7 < ((((g - 1) + 7 : Int).toNat + 1 : Nat) : Int) by omega)
def c_fail_Q (fr : Nat → Bool) (X : Nat → Option (q_C (Nat → Int32))) (u l : Nat) (I : Nat → Int) (A : Nat → Int → Int) (B C : Nat → Nat) (M : w_M) (k : Int) : w_X → w_M → Prop := fun r M' => (∃ t : Nat, ∃ (I' : Nat → Int) (A' : Nat → Int → Int) (B' C' : Nat → Nat), (r = .inr t) ∧ (w_Rep w_TC fr X (u + 6) (l + 64) I' A' B' C' M') ∧ (c_fi c_ps I I') ∧ (c_fa c_pa A A') ∧ (M'.1[t]? = some (.inr (11, []))))
set_option maxHeartbeats 100000000 in
set_option maxRecDepth 100000 in
theorem c_fail {L : Nat} {xs : Nat → Int32} {d : Nat} {fr : Nat → Bool} {X : Nat → Option (q_C (Nat → Int32))} {u l : Nat} {I : Nat → Int} {A : Nat → Int → Int} {B C : Nat → Nat} {M : w_M} (k : Int) (hR : w_Rep w_TC fr X u l I A B C M) (r_k : w_in k) (hl : l ≤ 7000000) (hk : 1 ≤ k ∧ k ≤ 7) : w_W (z_P L xs) d 100 (0, [(0, .ref 38), (1, .int (Int32.ofInt (k)))], [], M) (c_fail_Q fr X u l I A B C M k) := by
  obtain ⟨ra_k, rb_k⟩ := r_k
  refine w_adv (n := 3) (F' := (4, [(0, .ref 38), (1, .int (Int32.ofInt (k)))], [.int (Int32.ofInt (k)), .int (Int32.ofInt (10)), .ref 38], M)) rfl ?_
  refine w_add rfl ?_
  refine w_pf hR rfl rfl rfl rfl (show w_in (10 + k) from ⟨by omega, by omega⟩) (fun h => absurd h (by decide)) (fun M1 hR2 => ?_)
  replace hR2 : w_Rep w_TC fr X u l (w_up I 2441 (10 + k)) A B C M1 := hR2
  refine w_exc hR2 rfl rfl rfl rfl rfl rfl rfl (show l ≤ 7000000 by omega) (fun M3 hR4 f5 => ?_)
  show w_W _ _ _ (15, [(0, .ref 38), (1, .int (Int32.ofInt (k)))], [.ref M1.1.length], M3) _
  refine w_thr rfl rfl ?_
  exact ⟨M1.1.length, (w_up I 2441 (10 + k)), A, B, C, rfl, hR4, (show c_fi c_ps I (w_up I 2441 (10 + k)) by exact (c_fi_up c_fi_refl rfl)), (show c_fa c_pa A A by exact c_fa_refl), (show M3.1[M1.1.length]? = some (.inr (11, [])) by exact f5)⟩
def c_advance_Q (fr : Nat → Bool) (X : Nat → Option (q_C (Nat → Int32))) (u l : Nat) (I : Nat → Int) (A : Nat → Int → Int) (B C : Nat → Nat) (M : w_M) : w_X → w_M → Prop := fun r M' => (∃ zt : Int, ∃ zk : Int, ∃ zv : Int, (r = .inl none) ∧ (w_Rep w_TC fr X u l (w_up (w_up (w_up (w_up I 2436 ((I 2436) + 1)) 2441 (zt)) 2437 (zk)) 2438 (zv)) A B C M') ∧ (((I 2436) + 1 < (I 773) ∨ zk = 0))) ∨ (∃ t : Nat, ∃ (I' : Nat → Int) (A' : Nat → Int → Int) (B' C' : Nat → Nat), (r = .inr t) ∧ (w_Rep w_TC fr X (u + 6) (l + 64) I' A' B' C' M') ∧ (c_fi c_ps I I') ∧ (c_fa c_pa A A') ∧ (M'.1[t]? = some (.inr (11, []))))
set_option maxHeartbeats 100000000 in
set_option maxRecDepth 100000 in
theorem c_advance {L : Nat} {xs : Nat → Int32} {d : Nat} {fr : Nat → Bool} {X : Nat → Option (q_C (Nat → Int32))} {u l : Nat} {I : Nat → Int} {A : Nat → Int → Int} {B C : Nat → Nat} {M : w_M} (hR : w_Rep w_TC fr X u l I A B C M) (hd : 3 ≤ d) (hl : l ≤ 7000000) (hp : -1 ≤ (I 2436) ∧ (I 2436) < (I 773) ∧ (I 773) ≤ 1501) : w_W (z_P L xs) d 80 (0, [(0, .ref 38)], [], M) (c_advance_Q fr X u l I A B C M) := by
  obtain ⟨d, rfl⟩ : ∃ d0, d = d0 + 1 := ⟨d - 1, by omega⟩
  refine w_adv (n := 2) (F' := (2, [(0, .ref 38)], [.ref 38, .ref 38], M)) rfl ?_
  refine w_gf (v := .int (Int32.ofInt ((I 2436)))) hR rfl rfl rfl rfl ?_
  obtain ⟨r1, r2⟩ : -2147483648 ≤ (I 2436) ∧ (I 2436) ≤ 2147483647 := hR.ri 2436
  refine w_adv (n := 1) (F' := (6, [(0, .ref 38)], [.int (Int32.ofInt (1)), .int (Int32.ofInt ((I 2436))), .ref 38], M)) rfl ?_
  refine w_add rfl ?_
  refine w_pf hR rfl rfl rfl rfl (show w_in ((I 2436) + 1) from ⟨by omega, by omega⟩) (fun h => absurd h (by decide)) (fun M3 hR4 => ?_)
  replace hR4 : w_Rep w_TC fr X u l (w_up I 2436 ((I 2436) + 1)) A B C M3 := hR4
  refine w_adv (n := 2) (F' := (12, [(0, .ref 38)], [.ref 38, .ref 38], M3)) rfl ?_
  refine w_gf (v := .ref 12) hR4 rfl rfl rfl rfl ?_
  refine w_adv (n := 1) (F' := (16, [(0, .ref 38)], [.ref 38, .ref 12, .ref 38], M3)) rfl ?_
  refine w_gf (v := .int (Int32.ofInt ((I 2436) + 1))) hR4 rfl rfl rfl rfl ?_
  refine w_call (cm := 81) (as := [(0, .ref 12), (1, .int (Int32.ofInt ((I 2436) + 1)))]) (rest := [.ref 38]) (o := some (7, 12)) rfl (w_fitR hR4 rfl) (c_Tokens_troubleAt ((I 2436) + 1) hR4 (show 2 ≤ d by omega) ⟨by omega, by omega⟩) (fun r5 M6 q7 => ?_)
  rcases q7 with ⟨v8, e9, ⟨r10, r11⟩, e12⟩
  rw [e9, e12]
  show w_W _ _ _ (22, [(0, .ref 38)], [.int (Int32.ofInt (v8)), .ref 38], M3) _
  refine w_pf hR4 rfl rfl rfl rfl (show w_in (v8) from ⟨by omega, by omega⟩) (fun h => absurd h (by decide)) (fun M13 hR14 => ?_)
  replace hR14 : w_Rep w_TC fr X u l (w_up (w_up I 2436 ((I 2436) + 1)) 2441 (v8)) A B C M13 := hR14
  refine w_adv (n := 1) (F' := (26, [(0, .ref 38)], [.ref 38], M13)) rfl ?_
  refine w_gf (v := .int (Int32.ofInt (v8))) hR14 rfl rfl rfl rfl ?_
  obtain ⟨r15, r16⟩ : -2147483648 ≤ v8 ∧ v8 ≤ 2147483647 := hR14.ri 2441
  refine w_br1 (a := v8) rfl rfl ⟨by omega, by omega⟩ (fun h17 => ?_) (fun h17 => ?_)
  · have h17 : v8 = 0 := h17
    show w_W _ _ _ (40, [(0, .ref 38)], [], M13) _
    refine w_adv (n := 2) (F' := (42, [(0, .ref 38)], [.ref 38, .ref 38], M13)) rfl ?_
    refine w_gf (v := .ref 12) hR14 rfl rfl rfl rfl ?_
    refine w_adv (n := 1) (F' := (46, [(0, .ref 38)], [.ref 38, .ref 12, .ref 38], M13)) rfl ?_
    refine w_gf (v := .int (Int32.ofInt ((I 2436) + 1))) hR14 rfl rfl rfl rfl ?_
    refine w_call (cm := 86) (as := [(0, .ref 12), (1, .int (Int32.ofInt ((I 2436) + 1)))]) (rest := [.ref 38]) (o := some (7, 12)) rfl (w_fitR hR14 rfl) (c_Tokens_kind2 ((I 2436) + 1) hR14 ⟨by omega, by omega⟩) (fun r18 M19 q20 => ?_)
    rcases q20 with ⟨v21, e22, ⟨r23, r24⟩, e25, f26⟩
    rw [e22, e25]
    replace f26 : (I 2436) + 1 < (I 773) ∨ v21 = 0 := f26
    show w_W _ _ _ (52, [(0, .ref 38)], [.int (Int32.ofInt (v21)), .ref 38], M13) _
    refine w_pf hR14 rfl rfl rfl rfl (show w_in (v21) from ⟨by omega, by omega⟩) (fun h => absurd h (by decide)) (fun M27 hR28 => ?_)
    replace hR28 : w_Rep w_TC fr X u l (w_up (w_up (w_up I 2436 ((I 2436) + 1)) 2441 (v8)) 2437 (v21)) A B C M27 := hR28
    refine w_adv (n := 2) (F' := (57, [(0, .ref 38)], [.ref 38, .ref 38], M27)) rfl ?_
    refine w_gf (v := .ref 12) hR28 rfl rfl rfl rfl ?_
    refine w_adv (n := 1) (F' := (61, [(0, .ref 38)], [.ref 38, .ref 12, .ref 38], M27)) rfl ?_
    refine w_gf (v := .int (Int32.ofInt ((I 2436) + 1))) hR28 rfl rfl rfl rfl ?_
    refine w_call (cm := 87) (as := [(0, .ref 12), (1, .int (Int32.ofInt ((I 2436) + 1)))]) (rest := [.ref 38]) (o := some (7, 12)) rfl (w_fitR hR28 rfl) (c_Tokens_value ((I 2436) + 1) hR28 (show 2 ≤ d by omega) ⟨by omega, by omega⟩) (fun r29 M30 q31 => ?_)
    rcases q31 with ⟨v32, e33, ⟨r34, r35⟩, e36⟩
    rw [e33, e36]
    show w_W _ _ _ (67, [(0, .ref 38)], [.int (Int32.ofInt (v32)), .ref 38], M27) _
    refine w_pf hR28 rfl rfl rfl rfl (show w_in (v32) from ⟨by omega, by omega⟩) (fun h => absurd h (by decide)) (fun M37 hR38 => ?_)
    replace hR38 : w_Rep w_TC fr X u l (w_up (w_up (w_up (w_up I 2436 ((I 2436) + 1)) 2441 (v8)) 2437 (v21)) 2438 (v32)) A B C M37 := hR38
    refine w_fin (r := .inl none) (M' := M37) rfl ?_
    exact Or.inl ⟨v8, v21, v32, rfl, hR38, (show ((I 2436) + 1 < (I 773) ∨ v21 = 0) by first | assumption | omega)⟩
  · have h17 : ¬ (v8 = 0) := h17
    show w_W _ _ _ (32, [(0, .ref 38)], [], M13) _
    refine w_exc hR14 rfl rfl rfl rfl rfl rfl rfl (show l ≤ 7000000 by omega) (fun M39 hR40 f41 => ?_)
    show w_W _ _ _ (39, [(0, .ref 38)], [.ref M13.1.length], M39) _
    refine w_thr rfl rfl ?_
    exact Or.inr (⟨M13.1.length, (w_up (w_up I 2436 ((I 2436) + 1)) 2441 (v8)), A, B, C, rfl, hR40, (show c_fi c_ps I (w_up (w_up I 2436 ((I 2436) + 1)) 2441 (v8)) by exact (c_fi_up (c_fi_up c_fi_refl rfl) rfl)), (show c_fa c_pa A A by exact c_fa_refl), (show M39.1[M13.1.length]? = some (.inr (11, [])) by exact f41)⟩)
def c_need_Q (fr : Nat → Bool) (X : Nat → Option (q_C (Nat → Int32))) (u l : Nat) (I : Nat → Int) (A : Nat → Int → Int) (B C : Nat → Nat) (M : w_M) (k : Int) : w_X → w_M → Prop := fun r M' => (∃ zt : Int, ∃ zk : Int, ∃ zv : Int, (r = .inl none) ∧ (w_Rep w_TC fr X u l (w_up (w_up (w_up (w_up I 2436 ((I 2436) + 1)) 2441 (zt)) 2437 (zk)) 2438 (zv)) A B C M') ∧ (((I 2436) + 1 < (I 773) ∨ zk = 0)) ∧ ((I 2437) = k)) ∨ (∃ t : Nat, ∃ (I' : Nat → Int) (A' : Nat → Int → Int) (B' C' : Nat → Nat), (r = .inr t) ∧ (w_Rep w_TC fr X (u + 6) (l + 64) I' A' B' C' M') ∧ (c_fi c_ps I I') ∧ (c_fa c_pa A A') ∧ (M'.1[t]? = some (.inr (11, []))))
set_option maxHeartbeats 100000000 in
set_option maxRecDepth 100000 in
theorem c_need {L : Nat} {xs : Nat → Int32} {d : Nat} {fr : Nat → Bool} {X : Nat → Option (q_C (Nat → Int32))} {u l : Nat} {I : Nat → Int} {A : Nat → Int → Int} {B C : Nat → Nat} {M : w_M} (k : Int) (hR : w_Rep w_TC fr X u l I A B C M) (hd : 4 ≤ d) (r_k : w_in k) (hl : l ≤ 7000000) (hp : -1 ≤ (I 2436) ∧ ((I 2437) = 0 ∨ (I 2436) < (I 773)) ∧ (I 773) ≤ 1501 ∧ 1 ≤ k) : w_W (z_P L xs) d 105 (0, [(0, .ref 38), (1, .int (Int32.ofInt (k)))], [], M) (c_need_Q fr X u l I A B C M k) := by
  obtain ⟨ra_k, rb_k⟩ := r_k
  obtain ⟨d, rfl⟩ : ∃ d0, d = d0 + 1 := ⟨d - 1, by omega⟩
  refine w_adv (n := 1) (F' := (1, [(0, .ref 38), (1, .int (Int32.ofInt (k)))], [.ref 38], M)) rfl ?_
  refine w_gf (v := .int (Int32.ofInt ((I 2437)))) hR rfl rfl rfl rfl ?_
  obtain ⟨r1, r2⟩ : -2147483648 ≤ (I 2437) ∧ (I 2437) ≤ 2147483647 := hR.ri 2437
  refine w_adv (n := 1) (F' := (5, [(0, .ref 38), (1, .int (Int32.ofInt (k)))], [.int (Int32.ofInt (k)), .int (Int32.ofInt ((I 2437)))], M)) rfl ?_
  refine w_br2 (a := (I 2437)) (b := k) rfl rfl ⟨by omega, by omega⟩ ⟨by omega, by omega⟩ (fun h3 => ?_) (fun h3 => ?_)
  · have h3 : (I 2437) = k := h3
    show w_W _ _ _ (14, [(0, .ref 38), (1, .int (Int32.ofInt (k)))], [], M) _
    refine w_adv (n := 1) (F' := (15, [(0, .ref 38), (1, .int (Int32.ofInt (k)))], [.ref 38], M)) rfl ?_
    refine w_call (cm := 80) (as := [(0, .ref 38)]) (rest := []) (o := some (4, 38)) rfl (w_fitR hR rfl) (c_advance hR (show 3 ≤ d by omega) (show l ≤ 7000000 by first | assumption | omega) (show -1 ≤ (I 2436) ∧ (I 2436) < (I 773) ∧ (I 773) ≤ 1501 by first | assumption | omega)) (fun r4 M5 q6 => ?_)
    rcases q6 with ⟨zt7, zk8, zv9, e10, hR6a, f11⟩ | ⟨t12, I6b, A6b, B6b, C6b, e13, hR6b, f14, f15, f16⟩
    · rw [e10]
      replace hR6a : w_Rep w_TC fr X u l (w_up (w_up (w_up (w_up I 2436 ((I 2436) + 1)) 2441 (zt7)) 2437 (zk8)) 2438 (zv9)) A B C M5 := hR6a
      replace f11 : ((I 2436) + 1 < (I 773) ∨ zk8 = 0) := f11
      show w_W _ _ _ (18, [(0, .ref 38), (1, .int (Int32.ofInt (k)))], [], M5) _
      refine w_fin (r := .inl none) (M' := M5) rfl ?_
      exact Or.inl ⟨zt7, zk8, zv9, rfl, hR6a, (show ((I 2436) + 1 < (I 773) ∨ zk8 = 0) by first | assumption | omega), (show (I 2437) = k by first | assumption | omega)⟩
    · rw [e13]
      replace hR6b : w_Rep w_TC fr X (u + 6) (l + 64) I6b A6b B6b C6b M5 := hR6b
      replace f14 : c_fi c_ps I I6b := f14
      replace f15 : c_fa c_pa A A6b := f15
      replace f16 : M5.1[t12]? = some (.inr (11, [])) := f16
      exact Or.inr (⟨t12, I6b, A6b, B6b, C6b, rfl, hR6b, (show c_fi c_ps I I6b by exact f14), (show c_fa c_pa A A6b by exact f15), (show M5.1[t12]? = some (.inr (11, [])) by exact f16)⟩)
  · have h3 : ¬ ((I 2437) = k) := h3
    show w_W _ _ _ (8, [(0, .ref 38), (1, .int (Int32.ofInt (k)))], [], M) _
    refine w_adv (n := 2) (F' := (10, [(0, .ref 38), (1, .int (Int32.ofInt (k)))], [.int (Int32.ofInt (1)), .ref 38], M)) rfl ?_
    refine w_call (cm := 100) (as := [(0, .ref 38), (1, .int (Int32.ofInt (1)))]) (rest := []) (o := some (4, 38)) rfl (w_fitR hR rfl) (c_fail (1) hR ⟨by omega, by omega⟩ (show l ≤ 7000000 by first | assumption | omega) (show 1 ≤ 1 ∧ 1 ≤ 7 by first | assumption | omega)) (fun r17 M18 q19 => ?_)
    rcases q19 with ⟨t20, I19a, A19a, B19a, C19a, e21, hR19a, f22, f23, f24⟩
    rw [e21]
    replace hR19a : w_Rep w_TC fr X (u + 6) (l + 64) I19a A19a B19a C19a M18 := hR19a
    replace f22 : c_fi c_ps I I19a := f22
    replace f23 : c_fa c_pa A A19a := f23
    replace f24 : M18.1[t20]? = some (.inr (11, [])) := f24
    exact Or.inr (⟨t20, I19a, A19a, B19a, C19a, rfl, hR19a, (show c_fi c_ps I I19a by exact f22), (show c_fa c_pa A A19a by exact f23), (show M18.1[t20]? = some (.inr (11, [])) by exact f24)⟩)
def c_open_Q (fr : Nat → Bool) (X : Nat → Option (q_C (Nat → Int32))) (u l : Nat) (I : Nat → Int) (A : Nat → Int → Int) (B C : Nat → Nat) (M : w_M) : w_X → w_M → Prop := fun r M' => (∃ zt : Int, ∃ zk : Int, ∃ zv : Int, (r = .inl none) ∧ (w_Rep w_TC fr X u l (w_up (w_up (w_up (w_up (w_up I 2436 ((I 2436) + 1)) 2441 (zt)) 2437 (zk)) 2438 (zv)) 2439 ((I 2439) + 1)) A B C M') ∧ (((I 2436) + 1 < (I 773) ∨ zk = 0)) ∧ ((I 2439) < 24)) ∨ (∃ t : Nat, ∃ (I' : Nat → Int) (A' : Nat → Int → Int) (B' C' : Nat → Nat), (r = .inr t) ∧ (w_Rep w_TC fr X (u + 6) (l + 64) I' A' B' C' M') ∧ (c_fi c_ps I I') ∧ (c_fa c_pa A A') ∧ (M'.1[t]? = some (.inr (11, []))))
set_option maxHeartbeats 100000000 in
set_option maxRecDepth 100000 in
theorem c_open {L : Nat} {xs : Nat → Int32} {d : Nat} {fr : Nat → Bool} {X : Nat → Option (q_C (Nat → Int32))} {u l : Nat} {I : Nat → Int} {A : Nat → Int → Int} {B C : Nat → Nat} {M : w_M} (hR : w_Rep w_TC fr X u l I A B C M) (hd : 4 ≤ d) (hl : l ≤ 7000000) (hp : -1 ≤ (I 2436) ∧ (I 2436) < (I 773) ∧ (I 773) ≤ 1501) (hdp : 0 ≤ (I 2439) ∧ (I 2439) ≤ 24) : w_W (z_P L xs) d 99 (0, [(0, .ref 38)], [], M) (c_open_Q fr X u l I A B C M) := by
  obtain ⟨d, rfl⟩ : ∃ d0, d = d0 + 1 := ⟨d - 1, by omega⟩
  refine w_adv (n := 1) (F' := (1, [(0, .ref 38)], [.ref 38], M)) rfl ?_
  refine w_gf (v := .int (Int32.ofInt ((I 2439)))) hR rfl rfl rfl rfl ?_
  obtain ⟨r1, r2⟩ : -2147483648 ≤ (I 2439) ∧ (I 2439) ≤ 2147483647 := hR.ri 2439
  refine w_adv (n := 1) (F' := (6, [(0, .ref 38)], [.int (Int32.ofInt (24)), .int (Int32.ofInt ((I 2439)))], M)) rfl ?_
  refine w_br2 (a := (I 2439)) (b := 24) rfl rfl ⟨by omega, by omega⟩ ⟨by omega, by omega⟩ (fun h3 => ?_) (fun h3 => ?_)
  · have h3 : (I 2439) < 24 := h3
    show w_W _ _ _ (15, [(0, .ref 38)], [], M) _
    refine w_adv (n := 2) (F' := (17, [(0, .ref 38)], [.ref 38, .ref 38], M)) rfl ?_
    refine w_gf (v := .int (Int32.ofInt ((I 2439)))) hR rfl rfl rfl rfl ?_
    refine w_adv (n := 1) (F' := (21, [(0, .ref 38)], [.int (Int32.ofInt (1)), .int (Int32.ofInt ((I 2439))), .ref 38], M)) rfl ?_
    refine w_add rfl ?_
    refine w_pf hR rfl rfl rfl rfl (show w_in ((I 2439) + 1) from ⟨by omega, by omega⟩) (fun h => absurd h (by decide)) (fun M4 hR5 => ?_)
    replace hR5 : w_Rep w_TC fr X u l (w_up I 2439 ((I 2439) + 1)) A B C M4 := hR5
    refine w_adv (n := 1) (F' := (26, [(0, .ref 38)], [.ref 38], M4)) rfl ?_
    refine w_call (cm := 80) (as := [(0, .ref 38)]) (rest := []) (o := some (4, 38)) rfl (w_fitR hR5 rfl) (c_advance hR5 (show 3 ≤ d by omega) (show l ≤ 7000000 by first | assumption | omega) (show -1 ≤ (I 2436) ∧ (I 2436) < (I 773) ∧ (I 773) ≤ 1501 by first | assumption | omega)) (fun r6 M7 q8 => ?_)
    rcases q8 with ⟨zt9, zk10, zv11, e12, hR8a, f13⟩ | ⟨t14, I8b, A8b, B8b, C8b, e15, hR8b, f16, f17, f18⟩
    · rw [e12]
      replace hR8a : w_Rep w_TC fr X u l (w_up (w_up (w_up (w_up (w_up I 2439 ((I 2439) + 1)) 2436 ((I 2436) + 1)) 2441 (zt9)) 2437 (zk10)) 2438 (zv11)) A B C M7 := hR8a
      replace f13 : ((I 2436) + 1 < (I 773) ∨ zk10 = 0) := f13
      show w_W _ _ _ (29, [(0, .ref 38)], [], M7) _
      refine w_fin (r := .inl none) (M' := M7) rfl ?_
      exact Or.inl ⟨zt9, zk10, zv11, rfl, (w_Rep.up hR8a (show (w_up (w_up (w_up (w_up (w_up I 2436 ((I 2436) + 1)) 2441 (zt9)) 2437 (zk10)) 2438 (zv11)) 2439 ((I 2439) + 1)) = (w_up (w_up (w_up (w_up (w_up I 2439 ((I 2439) + 1)) 2436 ((I 2436) + 1)) 2441 (zt9)) 2437 (zk10)) 2438 (zv11)) from (funext fun s => if e0 : s = 2436 then (by subst e0; rfl) else if e1 : s = 2437 then (by subst e1; rfl) else if e2 : s = 2438 then (by subst e2; rfl) else if e3 : s = 2439 then (by subst e3; rfl) else if e4 : s = 2441 then (by subst e4; rfl) else (by simp only [w_up_ne e0, w_up_ne e1, w_up_ne e2, w_up_ne e3, w_up_ne e4]))) (show A = A from rfl)), (show ((I 2436) + 1 < (I 773) ∨ zk10 = 0) by first | assumption | omega), (show (I 2439) < 24 by first | assumption | omega)⟩
    · rw [e15]
      replace hR8b : w_Rep w_TC fr X (u + 6) (l + 64) I8b A8b B8b C8b M7 := hR8b
      replace f16 : c_fi c_ps (w_up I 2439 ((I 2439) + 1)) I8b := f16
      replace f17 : c_fa c_pa A A8b := f17
      replace f18 : M7.1[t14]? = some (.inr (11, [])) := f18
      exact Or.inr (⟨t14, I8b, A8b, B8b, C8b, rfl, hR8b, (show c_fi c_ps I I8b by exact (c_fi_trans (c_fi_up c_fi_refl rfl) f16)), (show c_fa c_pa A A8b by exact f17), (show M7.1[t14]? = some (.inr (11, [])) by exact f18)⟩)
  · have h3 : ¬ ((I 2439) < 24) := h3
    show w_W _ _ _ (9, [(0, .ref 38)], [], M) _
    refine w_adv (n := 2) (F' := (11, [(0, .ref 38)], [.int (Int32.ofInt (5)), .ref 38], M)) rfl ?_
    refine w_call (cm := 100) (as := [(0, .ref 38), (1, .int (Int32.ofInt (5)))]) (rest := []) (o := some (4, 38)) rfl (w_fitR hR rfl) (c_fail (5) hR ⟨by omega, by omega⟩ (show l ≤ 7000000 by first | assumption | omega) (show 1 ≤ 5 ∧ 5 ≤ 7 by first | assumption | omega)) (fun r19 M20 q21 => ?_)
    rcases q21 with ⟨t22, I21a, A21a, B21a, C21a, e23, hR21a, f24, f25, f26⟩
    rw [e23]
    replace hR21a : w_Rep w_TC fr X (u + 6) (l + 64) I21a A21a B21a C21a M20 := hR21a
    replace f24 : c_fi c_ps I I21a := f24
    replace f25 : c_fa c_pa A A21a := f25
    replace f26 : M20.1[t22]? = some (.inr (11, [])) := f26
    exact Or.inr (⟨t22, I21a, A21a, B21a, C21a, rfl, hR21a, (show c_fi c_ps I I21a by exact f24), (show c_fa c_pa A A21a by exact f25), (show M20.1[t22]? = some (.inr (11, [])) by exact f26)⟩)
def c_close_Q (fr : Nat → Bool) (X : Nat → Option (q_C (Nat → Int32))) (u l : Nat) (I : Nat → Int) (A : Nat → Int → Int) (B C : Nat → Nat) (M : w_M) (k : Int) : w_X → w_M → Prop := fun r M' => (∃ zt : Int, ∃ zk : Int, ∃ zv : Int, (r = .inl none) ∧ (w_Rep w_TC fr X u l (w_up (w_up (w_up (w_up (w_up I 2436 ((I 2436) + 1)) 2441 (zt)) 2437 (zk)) 2438 (zv)) 2439 ((I 2439) - 1)) A B C M') ∧ (((I 2436) + 1 < (I 773) ∨ zk = 0)) ∧ ((I 2437) = k)) ∨ (∃ t : Nat, ∃ (I' : Nat → Int) (A' : Nat → Int → Int) (B' C' : Nat → Nat), (r = .inr t) ∧ (w_Rep w_TC fr X (u + 6) (l + 64) I' A' B' C' M') ∧ (c_fi c_ps I I') ∧ (c_fa c_pa A A') ∧ (M'.1[t]? = some (.inr (11, []))))
set_option maxHeartbeats 100000000 in
set_option maxRecDepth 100000 in
theorem c_close {L : Nat} {xs : Nat → Int32} {d : Nat} {fr : Nat → Bool} {X : Nat → Option (q_C (Nat → Int32))} {u l : Nat} {I : Nat → Int} {A : Nat → Int → Int} {B C : Nat → Nat} {M : w_M} (k : Int) (hR : w_Rep w_TC fr X u l I A B C M) (hd : 4 ≤ d) (r_k : w_in k) (hl : l ≤ 7000000) (hp : -1 ≤ (I 2436) ∧ ((I 2437) = 0 ∨ (I 2436) < (I 773)) ∧ (I 773) ≤ 1501 ∧ 1 ≤ k) (hdp : 0 ≤ (I 2439) ∧ (I 2439) ≤ 24) : w_W (z_P L xs) d 113 (0, [(0, .ref 38), (1, .int (Int32.ofInt (k)))], [], M) (c_close_Q fr X u l I A B C M k) := by
  obtain ⟨ra_k, rb_k⟩ := r_k
  obtain ⟨d, rfl⟩ : ∃ d0, d = d0 + 1 := ⟨d - 1, by omega⟩
  refine w_adv (n := 1) (F' := (1, [(0, .ref 38), (1, .int (Int32.ofInt (k)))], [.ref 38], M)) rfl ?_
  refine w_gf (v := .int (Int32.ofInt ((I 2437)))) hR rfl rfl rfl rfl ?_
  obtain ⟨r1, r2⟩ : -2147483648 ≤ (I 2437) ∧ (I 2437) ≤ 2147483647 := hR.ri 2437
  refine w_adv (n := 1) (F' := (5, [(0, .ref 38), (1, .int (Int32.ofInt (k)))], [.int (Int32.ofInt (k)), .int (Int32.ofInt ((I 2437)))], M)) rfl ?_
  refine w_br2 (a := (I 2437)) (b := k) rfl rfl ⟨by omega, by omega⟩ ⟨by omega, by omega⟩ (fun h3 => ?_) (fun h3 => ?_)
  · have h3 : (I 2437) = k := h3
    show w_W _ _ _ (14, [(0, .ref 38), (1, .int (Int32.ofInt (k)))], [], M) _
    refine w_adv (n := 2) (F' := (16, [(0, .ref 38), (1, .int (Int32.ofInt (k)))], [.ref 38, .ref 38], M)) rfl ?_
    refine w_gf (v := .int (Int32.ofInt ((I 2439)))) hR rfl rfl rfl rfl ?_
    obtain ⟨r4, r5⟩ : -2147483648 ≤ (I 2439) ∧ (I 2439) ≤ 2147483647 := hR.ri 2439
    refine w_adv (n := 1) (F' := (20, [(0, .ref 38), (1, .int (Int32.ofInt (k)))], [.int (Int32.ofInt (1)), .int (Int32.ofInt ((I 2439))), .ref 38], M)) rfl ?_
    refine w_sub rfl ?_
    refine w_pf hR rfl rfl rfl rfl (show w_in ((I 2439) - 1) from ⟨by omega, by omega⟩) (fun h => absurd h (by decide)) (fun M6 hR7 => ?_)
    replace hR7 : w_Rep w_TC fr X u l (w_up I 2439 ((I 2439) - 1)) A B C M6 := hR7
    refine w_adv (n := 1) (F' := (25, [(0, .ref 38), (1, .int (Int32.ofInt (k)))], [.ref 38], M6)) rfl ?_
    refine w_call (cm := 80) (as := [(0, .ref 38)]) (rest := []) (o := some (4, 38)) rfl (w_fitR hR7 rfl) (c_advance hR7 (show 3 ≤ d by omega) (show l ≤ 7000000 by first | assumption | omega) (show -1 ≤ (I 2436) ∧ (I 2436) < (I 773) ∧ (I 773) ≤ 1501 by first | assumption | omega)) (fun r8 M9 q10 => ?_)
    rcases q10 with ⟨zt11, zk12, zv13, e14, hR10a, f15⟩ | ⟨t16, I10b, A10b, B10b, C10b, e17, hR10b, f18, f19, f20⟩
    · rw [e14]
      replace hR10a : w_Rep w_TC fr X u l (w_up (w_up (w_up (w_up (w_up I 2439 ((I 2439) - 1)) 2436 ((I 2436) + 1)) 2441 (zt11)) 2437 (zk12)) 2438 (zv13)) A B C M9 := hR10a
      replace f15 : ((I 2436) + 1 < (I 773) ∨ zk12 = 0) := f15
      show w_W _ _ _ (28, [(0, .ref 38), (1, .int (Int32.ofInt (k)))], [], M9) _
      refine w_fin (r := .inl none) (M' := M9) rfl ?_
      exact Or.inl ⟨zt11, zk12, zv13, rfl, (w_Rep.up hR10a (show (w_up (w_up (w_up (w_up (w_up I 2436 ((I 2436) + 1)) 2441 (zt11)) 2437 (zk12)) 2438 (zv13)) 2439 ((I 2439) - 1)) = (w_up (w_up (w_up (w_up (w_up I 2439 ((I 2439) - 1)) 2436 ((I 2436) + 1)) 2441 (zt11)) 2437 (zk12)) 2438 (zv13)) from (funext fun s => if e0 : s = 2436 then (by subst e0; rfl) else if e1 : s = 2437 then (by subst e1; rfl) else if e2 : s = 2438 then (by subst e2; rfl) else if e3 : s = 2439 then (by subst e3; rfl) else if e4 : s = 2441 then (by subst e4; rfl) else (by simp only [w_up_ne e0, w_up_ne e1, w_up_ne e2, w_up_ne e3, w_up_ne e4]))) (show A = A from rfl)), (show ((I 2436) + 1 < (I 773) ∨ zk12 = 0) by first | assumption | omega), (show (I 2437) = k by first | assumption | omega)⟩
    · rw [e17]
      replace hR10b : w_Rep w_TC fr X (u + 6) (l + 64) I10b A10b B10b C10b M9 := hR10b
      replace f18 : c_fi c_ps (w_up I 2439 ((I 2439) - 1)) I10b := f18
      replace f19 : c_fa c_pa A A10b := f19
      replace f20 : M9.1[t16]? = some (.inr (11, [])) := f20
      exact Or.inr (⟨t16, I10b, A10b, B10b, C10b, rfl, hR10b, (show c_fi c_ps I I10b by exact (c_fi_trans (c_fi_up c_fi_refl rfl) f18)), (show c_fa c_pa A A10b by exact f19), (show M9.1[t16]? = some (.inr (11, [])) by exact f20)⟩)
  · have h3 : ¬ ((I 2437) = k) := h3
    show w_W _ _ _ (8, [(0, .ref 38), (1, .int (Int32.ofInt (k)))], [], M) _
    refine w_adv (n := 2) (F' := (10, [(0, .ref 38), (1, .int (Int32.ofInt (k)))], [.int (Int32.ofInt (1)), .ref 38], M)) rfl ?_
    refine w_call (cm := 100) (as := [(0, .ref 38), (1, .int (Int32.ofInt (1)))]) (rest := []) (o := some (4, 38)) rfl (w_fitR hR rfl) (c_fail (1) hR ⟨by omega, by omega⟩ (show l ≤ 7000000 by first | assumption | omega) (show 1 ≤ 1 ∧ 1 ≤ 7 by first | assumption | omega)) (fun r21 M22 q23 => ?_)
    rcases q23 with ⟨t24, I23a, A23a, B23a, C23a, e25, hR23a, f26, f27, f28⟩
    rw [e25]
    replace hR23a : w_Rep w_TC fr X (u + 6) (l + 64) I23a A23a B23a C23a M22 := hR23a
    replace f26 : c_fi c_ps I I23a := f26
    replace f27 : c_fa c_pa A A23a := f27
    replace f28 : M22.1[t24]? = some (.inr (11, [])) := f28
    exact Or.inr (⟨t24, I23a, A23a, B23a, C23a, rfl, hR23a, (show c_fi c_ps I I23a by exact f26), (show c_fa c_pa A A23a by exact f27), (show M22.1[t24]? = some (.inr (11, [])) by exact f28)⟩)
def c_isFeature_Q (fr : Nat → Bool) (X : Nat → Option (q_C (Nat → Int32))) (u l : Nat) (I : Nat → Int) (A : Nat → Int → Int) (B C : Nat → Nat) (M : w_M) (b : Int) : w_X → w_M → Prop := fun r M' => ((r = .inl (some 1)) ∧ (M' = M) ∧ (¬ b = 0)) ∨ ((r = .inl (some 0)) ∧ (M' = M))
set_option maxHeartbeats 100000000 in
set_option maxRecDepth 100000 in
theorem c_isFeature {L : Nat} {xs : Nat → Int32} {d : Nat} {fr : Nat → Bool} {X : Nat → Option (q_C (Nat → Int32))} {u l : Nat} {I : Nat → Int} {A : Nat → Int → Int} {B C : Nat → Nat} {M : w_M} (b : Int) (hR : w_Rep w_TC fr X u l I A B C M) (r_b : w_in b) : w_W (z_P L xs) d 101 (0, [(0, .int (Int32.ofInt (b)))], [], M) (c_isFeature_Q fr X u l I A B C M b) := by
  obtain ⟨ra_b, rb_b⟩ := r_b
  refine w_adv (n := 2) (F' := (2, [(0, .int (Int32.ofInt (b)))], [.int (Int32.ofInt (1)), .int (Int32.ofInt (b))], M)) rfl ?_
  refine w_br2 (a := b) (b := 1) rfl rfl ⟨by omega, by omega⟩ ⟨by omega, by omega⟩ (fun h1 => ?_) (fun h1 => ?_)
  · have h1 : b = 1 := h1
    show w_W _ _ _ (10, [(0, .int (Int32.ofInt (b)))], [], M) _
    refine w_adv (n := 2) (F' := (15, [(0, .int (Int32.ofInt (b)))], [.int (Int32.ofInt (1))], M)) rfl ?_
    refine w_fin (r := .inl (some (1))) (M' := M) rfl ?_
    exact Or.inl ⟨rfl, rfl, (show ¬ b = 0 by first | assumption | omega)⟩
  · have h1 : ¬ (b = 1) := h1
    show w_W _ _ _ (5, [(0, .int (Int32.ofInt (b)))], [], M) _
    refine w_adv (n := 2) (F' := (7, [(0, .int (Int32.ofInt (b)))], [.int (Int32.ofInt (4)), .int (Int32.ofInt (b))], M)) rfl ?_
    refine w_br2 (a := b) (b := 4) rfl rfl ⟨by omega, by omega⟩ ⟨by omega, by omega⟩ (fun h2 => ?_) (fun h2 => ?_)
    · have h2 : ¬ b = 4 := h2
      show w_W _ _ _ (14, [(0, .int (Int32.ofInt (b)))], [], M) _
      refine w_adv (n := 1) (F' := (15, [(0, .int (Int32.ofInt (b)))], [.int (Int32.ofInt (0))], M)) rfl ?_
      refine w_fin (r := .inl (some (0))) (M' := M) rfl ?_
      exact Or.inr (⟨rfl, rfl⟩)
    · have h2 : ¬ (¬ b = 4) := h2
      show w_W _ _ _ (10, [(0, .int (Int32.ofInt (b)))], [], M) _
      refine w_adv (n := 2) (F' := (15, [(0, .int (Int32.ofInt (b)))], [.int (Int32.ofInt (1))], M)) rfl ?_
      refine w_fin (r := .inl (some (1))) (M' := M) rfl ?_
      exact Or.inl ⟨rfl, rfl, (show ¬ b = 0 by first | assumption | omega)⟩
def c_opens_Q (fr : Nat → Bool) (X : Nat → Option (q_C (Nat → Int32))) (u l : Nat) (I : Nat → Int) (A : Nat → Int → Int) (B C : Nat → Nat) (M : w_M) (b : Int) : w_X → w_M → Prop := fun r M' => ((r = .inl (some 1)) ∧ (M' = M) ∧ (¬ b = 0)) ∨ ((r = .inl (some 0)) ∧ (M' = M))
set_option maxHeartbeats 100000000 in
set_option maxRecDepth 100000 in
theorem c_opens {L : Nat} {xs : Nat → Int32} {d : Nat} {fr : Nat → Bool} {X : Nat → Option (q_C (Nat → Int32))} {u l : Nat} {I : Nat → Int} {A : Nat → Int → Int} {B C : Nat → Nat} {M : w_M} (b : Int) (hR : w_Rep w_TC fr X u l I A B C M) (r_b : w_in b) : w_W (z_P L xs) d 110 (0, [(0, .int (Int32.ofInt (b)))], [], M) (c_opens_Q fr X u l I A B C M b) := by
  obtain ⟨ra_b, rb_b⟩ := r_b
  refine w_adv (n := 1) (F' := (1, [(0, .int (Int32.ofInt (b)))], [.int (Int32.ofInt (b))], M)) rfl ?_
  rcases (show (b < 5 ∨ 33 < b) ∨ b = 5 ∨ b = 6 ∨ b = 7 ∨ b = 8 ∨ b = 9 ∨ b = 10 ∨ b = 11 ∨ b = 12 ∨ b = 13 ∨ b = 14 ∨ b = 15 ∨ b = 16 ∨ b = 17 ∨ b = 18 ∨ b = 19 ∨ b = 20 ∨ b = 21 ∨ b = 22 ∨ b = 23 ∨ b = 24 ∨ b = 25 ∨ b = 26 ∨ b = 27 ∨ b = 28 ∨ b = 29 ∨ b = 30 ∨ b = 31 ∨ b = 32 ∨ b = 33 by omega) with h1 | h1 | h1 | h1 | h1 | h1 | h1 | h1 | h1 | h1 | h1 | h1 | h1 | h1 | h1 | h1 | h1 | h1 | h1 | h1 | h1 | h1 | h1 | h1 | h1 | h1 | h1 | h1 | h1 | h1
  · refine w_swd rfl ⟨by omega, by omega⟩ h1 rfl ?_
    show w_W _ _ _ (134, [(0, .int (Int32.ofInt (b)))], [], M) _
    refine w_adv (n := 1) (F' := (135, [(0, .int (Int32.ofInt (b)))], [.int (Int32.ofInt (0))], M)) rfl ?_
    refine w_fin (r := .inl (some (0))) (M' := M) rfl ?_
    exact Or.inr (⟨rfl, rfl⟩)
  · refine w_sw (v := 5) (F' := (132, [(0, .int (Int32.ofInt (b)))], [], M)) h1 rfl rfl ?_
    refine w_adv (n := 1) (F' := (133, [(0, .int (Int32.ofInt (b)))], [.int (Int32.ofInt (1))], M)) rfl ?_
    refine w_fin (r := .inl (some (1))) (M' := M) rfl ?_
    exact Or.inl ⟨rfl, rfl, (show ¬ b = 0 by first | assumption | omega)⟩
  · refine w_sw (v := 6) (F' := (134, [(0, .int (Int32.ofInt (b)))], [], M)) h1 rfl rfl ?_
    refine w_adv (n := 1) (F' := (135, [(0, .int (Int32.ofInt (b)))], [.int (Int32.ofInt (0))], M)) rfl ?_
    refine w_fin (r := .inl (some (0))) (M' := M) rfl ?_
    exact Or.inr (⟨rfl, rfl⟩)
  · refine w_sw (v := 7) (F' := (132, [(0, .int (Int32.ofInt (b)))], [], M)) h1 rfl rfl ?_
    refine w_adv (n := 1) (F' := (133, [(0, .int (Int32.ofInt (b)))], [.int (Int32.ofInt (1))], M)) rfl ?_
    refine w_fin (r := .inl (some (1))) (M' := M) rfl ?_
    exact Or.inl ⟨rfl, rfl, (show ¬ b = 0 by first | assumption | omega)⟩
  · refine w_sw (v := 8) (F' := (134, [(0, .int (Int32.ofInt (b)))], [], M)) h1 rfl rfl ?_
    refine w_adv (n := 1) (F' := (135, [(0, .int (Int32.ofInt (b)))], [.int (Int32.ofInt (0))], M)) rfl ?_
    refine w_fin (r := .inl (some (0))) (M' := M) rfl ?_
    exact Or.inr (⟨rfl, rfl⟩)
  · refine w_sw (v := 9) (F' := (132, [(0, .int (Int32.ofInt (b)))], [], M)) h1 rfl rfl ?_
    refine w_adv (n := 1) (F' := (133, [(0, .int (Int32.ofInt (b)))], [.int (Int32.ofInt (1))], M)) rfl ?_
    refine w_fin (r := .inl (some (1))) (M' := M) rfl ?_
    exact Or.inl ⟨rfl, rfl, (show ¬ b = 0 by first | assumption | omega)⟩
  · refine w_sw (v := 10) (F' := (134, [(0, .int (Int32.ofInt (b)))], [], M)) h1 rfl rfl ?_
    refine w_adv (n := 1) (F' := (135, [(0, .int (Int32.ofInt (b)))], [.int (Int32.ofInt (0))], M)) rfl ?_
    refine w_fin (r := .inl (some (0))) (M' := M) rfl ?_
    exact Or.inr (⟨rfl, rfl⟩)
  · refine w_sw (v := 11) (F' := (134, [(0, .int (Int32.ofInt (b)))], [], M)) h1 rfl rfl ?_
    refine w_adv (n := 1) (F' := (135, [(0, .int (Int32.ofInt (b)))], [.int (Int32.ofInt (0))], M)) rfl ?_
    refine w_fin (r := .inl (some (0))) (M' := M) rfl ?_
    exact Or.inr (⟨rfl, rfl⟩)
  · refine w_sw (v := 12) (F' := (134, [(0, .int (Int32.ofInt (b)))], [], M)) h1 rfl rfl ?_
    refine w_adv (n := 1) (F' := (135, [(0, .int (Int32.ofInt (b)))], [.int (Int32.ofInt (0))], M)) rfl ?_
    refine w_fin (r := .inl (some (0))) (M' := M) rfl ?_
    exact Or.inr (⟨rfl, rfl⟩)
  · refine w_sw (v := 13) (F' := (134, [(0, .int (Int32.ofInt (b)))], [], M)) h1 rfl rfl ?_
    refine w_adv (n := 1) (F' := (135, [(0, .int (Int32.ofInt (b)))], [.int (Int32.ofInt (0))], M)) rfl ?_
    refine w_fin (r := .inl (some (0))) (M' := M) rfl ?_
    exact Or.inr (⟨rfl, rfl⟩)
  · refine w_sw (v := 14) (F' := (134, [(0, .int (Int32.ofInt (b)))], [], M)) h1 rfl rfl ?_
    refine w_adv (n := 1) (F' := (135, [(0, .int (Int32.ofInt (b)))], [.int (Int32.ofInt (0))], M)) rfl ?_
    refine w_fin (r := .inl (some (0))) (M' := M) rfl ?_
    exact Or.inr (⟨rfl, rfl⟩)
  · refine w_sw (v := 15) (F' := (134, [(0, .int (Int32.ofInt (b)))], [], M)) h1 rfl rfl ?_
    refine w_adv (n := 1) (F' := (135, [(0, .int (Int32.ofInt (b)))], [.int (Int32.ofInt (0))], M)) rfl ?_
    refine w_fin (r := .inl (some (0))) (M' := M) rfl ?_
    exact Or.inr (⟨rfl, rfl⟩)
  · refine w_sw (v := 16) (F' := (134, [(0, .int (Int32.ofInt (b)))], [], M)) h1 rfl rfl ?_
    refine w_adv (n := 1) (F' := (135, [(0, .int (Int32.ofInt (b)))], [.int (Int32.ofInt (0))], M)) rfl ?_
    refine w_fin (r := .inl (some (0))) (M' := M) rfl ?_
    exact Or.inr (⟨rfl, rfl⟩)
  · refine w_sw (v := 17) (F' := (134, [(0, .int (Int32.ofInt (b)))], [], M)) h1 rfl rfl ?_
    refine w_adv (n := 1) (F' := (135, [(0, .int (Int32.ofInt (b)))], [.int (Int32.ofInt (0))], M)) rfl ?_
    refine w_fin (r := .inl (some (0))) (M' := M) rfl ?_
    exact Or.inr (⟨rfl, rfl⟩)
  · refine w_sw (v := 18) (F' := (134, [(0, .int (Int32.ofInt (b)))], [], M)) h1 rfl rfl ?_
    refine w_adv (n := 1) (F' := (135, [(0, .int (Int32.ofInt (b)))], [.int (Int32.ofInt (0))], M)) rfl ?_
    refine w_fin (r := .inl (some (0))) (M' := M) rfl ?_
    exact Or.inr (⟨rfl, rfl⟩)
  · refine w_sw (v := 19) (F' := (134, [(0, .int (Int32.ofInt (b)))], [], M)) h1 rfl rfl ?_
    refine w_adv (n := 1) (F' := (135, [(0, .int (Int32.ofInt (b)))], [.int (Int32.ofInt (0))], M)) rfl ?_
    refine w_fin (r := .inl (some (0))) (M' := M) rfl ?_
    exact Or.inr (⟨rfl, rfl⟩)
  · refine w_sw (v := 20) (F' := (134, [(0, .int (Int32.ofInt (b)))], [], M)) h1 rfl rfl ?_
    refine w_adv (n := 1) (F' := (135, [(0, .int (Int32.ofInt (b)))], [.int (Int32.ofInt (0))], M)) rfl ?_
    refine w_fin (r := .inl (some (0))) (M' := M) rfl ?_
    exact Or.inr (⟨rfl, rfl⟩)
  · refine w_sw (v := 21) (F' := (134, [(0, .int (Int32.ofInt (b)))], [], M)) h1 rfl rfl ?_
    refine w_adv (n := 1) (F' := (135, [(0, .int (Int32.ofInt (b)))], [.int (Int32.ofInt (0))], M)) rfl ?_
    refine w_fin (r := .inl (some (0))) (M' := M) rfl ?_
    exact Or.inr (⟨rfl, rfl⟩)
  · refine w_sw (v := 22) (F' := (132, [(0, .int (Int32.ofInt (b)))], [], M)) h1 rfl rfl ?_
    refine w_adv (n := 1) (F' := (133, [(0, .int (Int32.ofInt (b)))], [.int (Int32.ofInt (1))], M)) rfl ?_
    refine w_fin (r := .inl (some (1))) (M' := M) rfl ?_
    exact Or.inl ⟨rfl, rfl, (show ¬ b = 0 by first | assumption | omega)⟩
  · refine w_sw (v := 23) (F' := (134, [(0, .int (Int32.ofInt (b)))], [], M)) h1 rfl rfl ?_
    refine w_adv (n := 1) (F' := (135, [(0, .int (Int32.ofInt (b)))], [.int (Int32.ofInt (0))], M)) rfl ?_
    refine w_fin (r := .inl (some (0))) (M' := M) rfl ?_
    exact Or.inr (⟨rfl, rfl⟩)
  · refine w_sw (v := 24) (F' := (134, [(0, .int (Int32.ofInt (b)))], [], M)) h1 rfl rfl ?_
    refine w_adv (n := 1) (F' := (135, [(0, .int (Int32.ofInt (b)))], [.int (Int32.ofInt (0))], M)) rfl ?_
    refine w_fin (r := .inl (some (0))) (M' := M) rfl ?_
    exact Or.inr (⟨rfl, rfl⟩)
  · refine w_sw (v := 25) (F' := (132, [(0, .int (Int32.ofInt (b)))], [], M)) h1 rfl rfl ?_
    refine w_adv (n := 1) (F' := (133, [(0, .int (Int32.ofInt (b)))], [.int (Int32.ofInt (1))], M)) rfl ?_
    refine w_fin (r := .inl (some (1))) (M' := M) rfl ?_
    exact Or.inl ⟨rfl, rfl, (show ¬ b = 0 by first | assumption | omega)⟩
  · refine w_sw (v := 26) (F' := (134, [(0, .int (Int32.ofInt (b)))], [], M)) h1 rfl rfl ?_
    refine w_adv (n := 1) (F' := (135, [(0, .int (Int32.ofInt (b)))], [.int (Int32.ofInt (0))], M)) rfl ?_
    refine w_fin (r := .inl (some (0))) (M' := M) rfl ?_
    exact Or.inr (⟨rfl, rfl⟩)
  · refine w_sw (v := 27) (F' := (134, [(0, .int (Int32.ofInt (b)))], [], M)) h1 rfl rfl ?_
    refine w_adv (n := 1) (F' := (135, [(0, .int (Int32.ofInt (b)))], [.int (Int32.ofInt (0))], M)) rfl ?_
    refine w_fin (r := .inl (some (0))) (M' := M) rfl ?_
    exact Or.inr (⟨rfl, rfl⟩)
  · refine w_sw (v := 28) (F' := (132, [(0, .int (Int32.ofInt (b)))], [], M)) h1 rfl rfl ?_
    refine w_adv (n := 1) (F' := (133, [(0, .int (Int32.ofInt (b)))], [.int (Int32.ofInt (1))], M)) rfl ?_
    refine w_fin (r := .inl (some (1))) (M' := M) rfl ?_
    exact Or.inl ⟨rfl, rfl, (show ¬ b = 0 by first | assumption | omega)⟩
  · refine w_sw (v := 29) (F' := (134, [(0, .int (Int32.ofInt (b)))], [], M)) h1 rfl rfl ?_
    refine w_adv (n := 1) (F' := (135, [(0, .int (Int32.ofInt (b)))], [.int (Int32.ofInt (0))], M)) rfl ?_
    refine w_fin (r := .inl (some (0))) (M' := M) rfl ?_
    exact Or.inr (⟨rfl, rfl⟩)
  · refine w_sw (v := 30) (F' := (134, [(0, .int (Int32.ofInt (b)))], [], M)) h1 rfl rfl ?_
    refine w_adv (n := 1) (F' := (135, [(0, .int (Int32.ofInt (b)))], [.int (Int32.ofInt (0))], M)) rfl ?_
    refine w_fin (r := .inl (some (0))) (M' := M) rfl ?_
    exact Or.inr (⟨rfl, rfl⟩)
  · refine w_sw (v := 31) (F' := (132, [(0, .int (Int32.ofInt (b)))], [], M)) h1 rfl rfl ?_
    refine w_adv (n := 1) (F' := (133, [(0, .int (Int32.ofInt (b)))], [.int (Int32.ofInt (1))], M)) rfl ?_
    refine w_fin (r := .inl (some (1))) (M' := M) rfl ?_
    exact Or.inl ⟨rfl, rfl, (show ¬ b = 0 by first | assumption | omega)⟩
  · refine w_sw (v := 32) (F' := (132, [(0, .int (Int32.ofInt (b)))], [], M)) h1 rfl rfl ?_
    refine w_adv (n := 1) (F' := (133, [(0, .int (Int32.ofInt (b)))], [.int (Int32.ofInt (1))], M)) rfl ?_
    refine w_fin (r := .inl (some (1))) (M' := M) rfl ?_
    exact Or.inl ⟨rfl, rfl, (show ¬ b = 0 by first | assumption | omega)⟩
  · refine w_sw (v := 33) (F' := (132, [(0, .int (Int32.ofInt (b)))], [], M)) h1 rfl rfl ?_
    refine w_adv (n := 1) (F' := (133, [(0, .int (Int32.ofInt (b)))], [.int (Int32.ofInt (1))], M)) rfl ?_
    refine w_fin (r := .inl (some (1))) (M' := M) rfl ?_
    exact Or.inl ⟨rfl, rfl, (show ¬ b = 0 by first | assumption | omega)⟩
def c_beginsExp_Q (fr : Nat → Bool) (X : Nat → Option (q_C (Nat → Int32))) (u l : Nat) (I : Nat → Int) (A : Nat → Int → Int) (B C : Nat → Nat) (M : w_M) (b : Int) : w_X → w_M → Prop := fun r M' => ((r = .inl (some 1)) ∧ (M' = M) ∧ (¬ b = 0)) ∨ ((r = .inl (some 0)) ∧ (M' = M))
set_option maxHeartbeats 100000000 in
set_option maxRecDepth 100000 in
theorem c_beginsExp {L : Nat} {xs : Nat → Int32} {d : Nat} {fr : Nat → Bool} {X : Nat → Option (q_C (Nat → Int32))} {u l : Nat} {I : Nat → Int} {A : Nat → Int → Int} {B C : Nat → Nat} {M : w_M} (b : Int) (hR : w_Rep w_TC fr X u l I A B C M) (hd : 1 ≤ d) (r_b : w_in b) : w_W (z_P L xs) d 109 (0, [(0, .int (Int32.ofInt (b)))], [], M) (c_beginsExp_Q fr X u l I A B C M b) := by
  obtain ⟨ra_b, rb_b⟩ := r_b
  obtain ⟨d, rfl⟩ : ∃ d0, d = d0 + 1 := ⟨d - 1, by omega⟩
  refine w_adv (n := 1) (F' := (1, [(0, .int (Int32.ofInt (b)))], [.int (Int32.ofInt (b))], M)) rfl ?_
  refine w_call (cm := 101) (as := [(0, .int (Int32.ofInt (b)))]) (rest := []) (o := none) rfl (trivial) (c_isFeature (b) hR ⟨by omega, by omega⟩) (fun r1 M2 q3 => ?_)
  rcases q3 with ⟨e4, e5, f6⟩ | ⟨e7, e8⟩
  · rw [e4, e5]
    replace f6 : ¬ b = 0 := f6
    show w_W _ _ _ (4, [(0, .int (Int32.ofInt (b)))], [.int (Int32.ofInt (1))], M) _
    refine w_adv (n := 3) (F' := (29, [(0, .int (Int32.ofInt (b)))], [.int (Int32.ofInt (1))], M)) rfl ?_
    refine w_fin (r := .inl (some (1))) (M' := M) rfl ?_
    exact Or.inl ⟨rfl, rfl, (show ¬ b = 0 by first | assumption | omega)⟩
  · rw [e7, e8]
    show w_W _ _ _ (4, [(0, .int (Int32.ofInt (b)))], [.int (Int32.ofInt (0))], M) _
    refine w_adv (n := 3) (F' := (9, [(0, .int (Int32.ofInt (b)))], [.int (Int32.ofInt (2)), .int (Int32.ofInt (b))], M)) rfl ?_
    refine w_br2 (a := b) (b := 2) rfl rfl ⟨by omega, by omega⟩ ⟨by omega, by omega⟩ (fun h9 => ?_) (fun h9 => ?_)
    · have h9 : b = 2 := h9
      show w_W _ _ _ (24, [(0, .int (Int32.ofInt (b)))], [], M) _
      refine w_adv (n := 2) (F' := (29, [(0, .int (Int32.ofInt (b)))], [.int (Int32.ofInt (1))], M)) rfl ?_
      refine w_fin (r := .inl (some (1))) (M' := M) rfl ?_
      exact Or.inl ⟨rfl, rfl, (show ¬ b = 0 by first | assumption | omega)⟩
    · have h9 : ¬ (b = 2) := h9
      show w_W _ _ _ (12, [(0, .int (Int32.ofInt (b)))], [], M) _
      refine w_adv (n := 2) (F' := (14, [(0, .int (Int32.ofInt (b)))], [.int (Int32.ofInt (3)), .int (Int32.ofInt (b))], M)) rfl ?_
      refine w_br2 (a := b) (b := 3) rfl rfl ⟨by omega, by omega⟩ ⟨by omega, by omega⟩ (fun h10 => ?_) (fun h10 => ?_)
      · have h10 : b = 3 := h10
        show w_W _ _ _ (24, [(0, .int (Int32.ofInt (b)))], [], M) _
        refine w_adv (n := 2) (F' := (29, [(0, .int (Int32.ofInt (b)))], [.int (Int32.ofInt (1))], M)) rfl ?_
        refine w_fin (r := .inl (some (1))) (M' := M) rfl ?_
        exact Or.inl ⟨rfl, rfl, (show ¬ b = 0 by first | assumption | omega)⟩
      · have h10 : ¬ (b = 3) := h10
        show w_W _ _ _ (17, [(0, .int (Int32.ofInt (b)))], [], M) _
        refine w_adv (n := 1) (F' := (18, [(0, .int (Int32.ofInt (b)))], [.int (Int32.ofInt (b))], M)) rfl ?_
        refine w_call (cm := 110) (as := [(0, .int (Int32.ofInt (b)))]) (rest := []) (o := none) rfl (trivial) (c_opens (b) hR ⟨by omega, by omega⟩) (fun r11 M12 q13 => ?_)
        rcases q13 with ⟨e14, e15, f16⟩ | ⟨e17, e18⟩
        · rw [e14, e15]
          replace f16 : ¬ b = 0 := f16
          show w_W _ _ _ (21, [(0, .int (Int32.ofInt (b)))], [.int (Int32.ofInt (1))], M) _
          refine w_adv (n := 3) (F' := (29, [(0, .int (Int32.ofInt (b)))], [.int (Int32.ofInt (1))], M)) rfl ?_
          refine w_fin (r := .inl (some (1))) (M' := M) rfl ?_
          exact Or.inl ⟨rfl, rfl, (show ¬ b = 0 by first | assumption | omega)⟩
        · rw [e17, e18]
          show w_W _ _ _ (21, [(0, .int (Int32.ofInt (b)))], [.int (Int32.ofInt (0))], M) _
          refine w_adv (n := 2) (F' := (29, [(0, .int (Int32.ofInt (b)))], [.int (Int32.ofInt (0))], M)) rfl ?_
          refine w_fin (r := .inl (some (0))) (M' := M) rfl ?_
          exact Or.inr (⟨rfl, rfl⟩)
def c_beginsItem_Q (fr : Nat → Bool) (X : Nat → Option (q_C (Nat → Int32))) (u l : Nat) (I : Nat → Int) (A : Nat → Int → Int) (B C : Nat → Nat) (M : w_M) (b : Int) : w_X → w_M → Prop := fun r M' => ((r = .inl (some 1)) ∧ (M' = M) ∧ (¬ b = 0)) ∨ ((r = .inl (some 0)) ∧ (M' = M))
set_option maxHeartbeats 100000000 in
set_option maxRecDepth 100000 in
theorem c_beginsItem {L : Nat} {xs : Nat → Int32} {d : Nat} {fr : Nat → Bool} {X : Nat → Option (q_C (Nat → Int32))} {u l : Nat} {I : Nat → Int} {A : Nat → Int → Int} {B C : Nat → Nat} {M : w_M} (b : Int) (hR : w_Rep w_TC fr X u l I A B C M) (hd : 2 ≤ d) (r_b : w_in b) : w_W (z_P L xs) d 136 (0, [(0, .int (Int32.ofInt (b)))], [], M) (c_beginsItem_Q fr X u l I A B C M b) := by
  obtain ⟨ra_b, rb_b⟩ := r_b
  obtain ⟨d, rfl⟩ : ∃ d0, d = d0 + 1 := ⟨d - 1, by omega⟩
  refine w_adv (n := 2) (F' := (3, [(0, .int (Int32.ofInt (b)))], [.int (Int32.ofInt (21)), .int (Int32.ofInt (b))], M)) rfl ?_
  refine w_br2 (a := b) (b := 21) rfl rfl ⟨by omega, by omega⟩ ⟨by omega, by omega⟩ (fun h1 => ?_) (fun h1 => ?_)
  · have h1 : b = 21 := h1
    show w_W _ _ _ (31, [(0, .int (Int32.ofInt (b)))], [], M) _
    refine w_adv (n := 2) (F' := (36, [(0, .int (Int32.ofInt (b)))], [.int (Int32.ofInt (1))], M)) rfl ?_
    refine w_fin (r := .inl (some (1))) (M' := M) rfl ?_
    exact Or.inl ⟨rfl, rfl, (show ¬ b = 0 by first | assumption | omega)⟩
  · have h1 : ¬ (b = 21) := h1
    show w_W _ _ _ (6, [(0, .int (Int32.ofInt (b)))], [], M) _
    refine w_adv (n := 2) (F' := (9, [(0, .int (Int32.ofInt (b)))], [.int (Int32.ofInt (34)), .int (Int32.ofInt (b))], M)) rfl ?_
    refine w_br2 (a := b) (b := 34) rfl rfl ⟨by omega, by omega⟩ ⟨by omega, by omega⟩ (fun h2 => ?_) (fun h2 => ?_)
    · have h2 : b = 34 := h2
      show w_W _ _ _ (31, [(0, .int (Int32.ofInt (b)))], [], M) _
      refine w_adv (n := 2) (F' := (36, [(0, .int (Int32.ofInt (b)))], [.int (Int32.ofInt (1))], M)) rfl ?_
      refine w_fin (r := .inl (some (1))) (M' := M) rfl ?_
      exact Or.inl ⟨rfl, rfl, (show ¬ b = 0 by first | assumption | omega)⟩
    · have h2 : ¬ (b = 34) := h2
      show w_W _ _ _ (12, [(0, .int (Int32.ofInt (b)))], [], M) _
      refine w_adv (n := 2) (F' := (15, [(0, .int (Int32.ofInt (b)))], [.int (Int32.ofInt (36)), .int (Int32.ofInt (b))], M)) rfl ?_
      refine w_br2 (a := b) (b := 36) rfl rfl ⟨by omega, by omega⟩ ⟨by omega, by omega⟩ (fun h3 => ?_) (fun h3 => ?_)
      · have h3 : b = 36 := h3
        show w_W _ _ _ (31, [(0, .int (Int32.ofInt (b)))], [], M) _
        refine w_adv (n := 2) (F' := (36, [(0, .int (Int32.ofInt (b)))], [.int (Int32.ofInt (1))], M)) rfl ?_
        refine w_fin (r := .inl (some (1))) (M' := M) rfl ?_
        exact Or.inl ⟨rfl, rfl, (show ¬ b = 0 by first | assumption | omega)⟩
      · have h3 : ¬ (b = 36) := h3
        show w_W _ _ _ (18, [(0, .int (Int32.ofInt (b)))], [], M) _
        refine w_adv (n := 2) (F' := (21, [(0, .int (Int32.ofInt (b)))], [.int (Int32.ofInt (37)), .int (Int32.ofInt (b))], M)) rfl ?_
        refine w_br2 (a := b) (b := 37) rfl rfl ⟨by omega, by omega⟩ ⟨by omega, by omega⟩ (fun h4 => ?_) (fun h4 => ?_)
        · have h4 : b = 37 := h4
          show w_W _ _ _ (31, [(0, .int (Int32.ofInt (b)))], [], M) _
          refine w_adv (n := 2) (F' := (36, [(0, .int (Int32.ofInt (b)))], [.int (Int32.ofInt (1))], M)) rfl ?_
          refine w_fin (r := .inl (some (1))) (M' := M) rfl ?_
          exact Or.inl ⟨rfl, rfl, (show ¬ b = 0 by first | assumption | omega)⟩
        · have h4 : ¬ (b = 37) := h4
          show w_W _ _ _ (24, [(0, .int (Int32.ofInt (b)))], [], M) _
          refine w_adv (n := 1) (F' := (25, [(0, .int (Int32.ofInt (b)))], [.int (Int32.ofInt (b))], M)) rfl ?_
          refine w_call (cm := 109) (as := [(0, .int (Int32.ofInt (b)))]) (rest := []) (o := none) rfl (trivial) (c_beginsExp (b) hR (show 1 ≤ d by omega) ⟨by omega, by omega⟩) (fun r5 M6 q7 => ?_)
          rcases q7 with ⟨e8, e9, f10⟩ | ⟨e11, e12⟩
          · rw [e8, e9]
            replace f10 : ¬ b = 0 := f10
            show w_W _ _ _ (28, [(0, .int (Int32.ofInt (b)))], [.int (Int32.ofInt (1))], M) _
            refine w_adv (n := 3) (F' := (36, [(0, .int (Int32.ofInt (b)))], [.int (Int32.ofInt (1))], M)) rfl ?_
            refine w_fin (r := .inl (some (1))) (M' := M) rfl ?_
            exact Or.inl ⟨rfl, rfl, (show ¬ b = 0 by first | assumption | omega)⟩
          · rw [e11, e12]
            show w_W _ _ _ (28, [(0, .int (Int32.ofInt (b)))], [.int (Int32.ofInt (0))], M) _
            refine w_adv (n := 2) (F' := (36, [(0, .int (Int32.ofInt (b)))], [.int (Int32.ofInt (0))], M)) rfl ?_
            refine w_fin (r := .inl (some (0))) (M' := M) rfl ?_
            exact Or.inr (⟨rfl, rfl⟩)
def c_operation_Q (fr : Nat → Bool) (X : Nat → Option (q_C (Nat → Int32))) (u l : Nat) (I : Nat → Int) (A : Nat → Int → Int) (B C : Nat → Nat) (M : w_M) (b : Int) : w_X → w_M → Prop := fun r M' => (∃ v : Int, (r = .inl (some v)) ∧ (w_in v) ∧ (M' = M) ∧ (v = -1 ∨ ¬ b = 0))
set_option maxHeartbeats 100000000 in
set_option maxRecDepth 100000 in
theorem c_operation {L : Nat} {xs : Nat → Int32} {d : Nat} {fr : Nat → Bool} {X : Nat → Option (q_C (Nat → Int32))} {u l : Nat} {I : Nat → Int} {A : Nat → Int → Int} {B C : Nat → Nat} {M : w_M} (b : Int) (hR : w_Rep w_TC fr X u l I A B C M) (r_b : w_in b) : w_W (z_P L xs) d 130 (0, [(0, .int (Int32.ofInt (b)))], [], M) (c_operation_Q fr X u l I A B C M b) := by
  obtain ⟨ra_b, rb_b⟩ := r_b
  refine w_adv (n := 1) (F' := (1, [(0, .int (Int32.ofInt (b)))], [.int (Int32.ofInt (b))], M)) rfl ?_
  rcases (show (b < 13 ∨ 39 < b) ∨ b = 13 ∨ b = 14 ∨ b = 15 ∨ b = 16 ∨ b = 17 ∨ b = 18 ∨ b = 19 ∨ b = 20 ∨ b = 21 ∨ b = 22 ∨ b = 23 ∨ b = 24 ∨ b = 25 ∨ b = 26 ∨ b = 27 ∨ b = 28 ∨ b = 29 ∨ b = 30 ∨ b = 31 ∨ b = 32 ∨ b = 33 ∨ b = 34 ∨ b = 35 ∨ b = 36 ∨ b = 37 ∨ b = 38 ∨ b = 39 by omega) with h1 | h1 | h1 | h1 | h1 | h1 | h1 | h1 | h1 | h1 | h1 | h1 | h1 | h1 | h1 | h1 | h1 | h1 | h1 | h1 | h1 | h1 | h1 | h1 | h1 | h1 | h1 | h1
  · refine w_swd rfl ⟨by omega, by omega⟩ h1 rfl ?_
    show w_W _ _ _ (142, [(0, .int (Int32.ofInt (b)))], [], M) _
    refine w_adv (n := 1) (F' := (143, [(0, .int (Int32.ofInt (b)))], [.int (Int32.ofInt ((-1)))], M)) rfl ?_
    refine w_fin (r := .inl (some ((-1)))) (M' := M) rfl ?_
    exact ⟨(-1), rfl, ⟨by omega, by omega⟩, rfl, (show (-1) = -1 ∨ ¬ b = 0 by first | assumption | omega)⟩
  · refine w_sw (v := 13) (F' := (134, [(0, .int (Int32.ofInt (b)))], [], M)) h1 rfl rfl ?_
    refine w_adv (n := 1) (F' := (135, [(0, .int (Int32.ofInt (b)))], [.int (Int32.ofInt (5))], M)) rfl ?_
    refine w_fin (r := .inl (some (5))) (M' := M) rfl ?_
    exact ⟨5, rfl, ⟨by omega, by omega⟩, rfl, (show 5 = -1 ∨ ¬ b = 0 by first | assumption | omega)⟩
  · refine w_sw (v := 14) (F' := (124, [(0, .int (Int32.ofInt (b)))], [], M)) h1 rfl rfl ?_
    refine w_adv (n := 1) (F' := (125, [(0, .int (Int32.ofInt (b)))], [.int (Int32.ofInt (0))], M)) rfl ?_
    refine w_fin (r := .inl (some (0))) (M' := M) rfl ?_
    exact ⟨0, rfl, ⟨by omega, by omega⟩, rfl, (show 0 = -1 ∨ ¬ b = 0 by first | assumption | omega)⟩
  · refine w_sw (v := 15) (F' := (126, [(0, .int (Int32.ofInt (b)))], [], M)) h1 rfl rfl ?_
    refine w_adv (n := 1) (F' := (127, [(0, .int (Int32.ofInt (b)))], [.int (Int32.ofInt (1))], M)) rfl ?_
    refine w_fin (r := .inl (some (1))) (M' := M) rfl ?_
    exact ⟨1, rfl, ⟨by omega, by omega⟩, rfl, (show 1 = -1 ∨ ¬ b = 0 by first | assumption | omega)⟩
  · refine w_sw (v := 16) (F' := (128, [(0, .int (Int32.ofInt (b)))], [], M)) h1 rfl rfl ?_
    refine w_adv (n := 1) (F' := (129, [(0, .int (Int32.ofInt (b)))], [.int (Int32.ofInt (2))], M)) rfl ?_
    refine w_fin (r := .inl (some (2))) (M' := M) rfl ?_
    exact ⟨2, rfl, ⟨by omega, by omega⟩, rfl, (show 2 = -1 ∨ ¬ b = 0 by first | assumption | omega)⟩
  · refine w_sw (v := 17) (F' := (142, [(0, .int (Int32.ofInt (b)))], [], M)) h1 rfl rfl ?_
    refine w_adv (n := 1) (F' := (143, [(0, .int (Int32.ofInt (b)))], [.int (Int32.ofInt ((-1)))], M)) rfl ?_
    refine w_fin (r := .inl (some ((-1)))) (M' := M) rfl ?_
    exact ⟨(-1), rfl, ⟨by omega, by omega⟩, rfl, (show (-1) = -1 ∨ ¬ b = 0 by first | assumption | omega)⟩
  · refine w_sw (v := 18) (F' := (142, [(0, .int (Int32.ofInt (b)))], [], M)) h1 rfl rfl ?_
    refine w_adv (n := 1) (F' := (143, [(0, .int (Int32.ofInt (b)))], [.int (Int32.ofInt ((-1)))], M)) rfl ?_
    refine w_fin (r := .inl (some ((-1)))) (M' := M) rfl ?_
    exact ⟨(-1), rfl, ⟨by omega, by omega⟩, rfl, (show (-1) = -1 ∨ ¬ b = 0 by first | assumption | omega)⟩
  · refine w_sw (v := 19) (F' := (139, [(0, .int (Int32.ofInt (b)))], [], M)) h1 rfl rfl ?_
    refine w_adv (n := 1) (F' := (141, [(0, .int (Int32.ofInt (b)))], [.int (Int32.ofInt (7))], M)) rfl ?_
    refine w_fin (r := .inl (some (7))) (M' := M) rfl ?_
    exact ⟨7, rfl, ⟨by omega, by omega⟩, rfl, (show 7 = -1 ∨ ¬ b = 0 by first | assumption | omega)⟩
  · refine w_sw (v := 20) (F' := (136, [(0, .int (Int32.ofInt (b)))], [], M)) h1 rfl rfl ?_
    refine w_adv (n := 1) (F' := (138, [(0, .int (Int32.ofInt (b)))], [.int (Int32.ofInt (6))], M)) rfl ?_
    refine w_fin (r := .inl (some (6))) (M' := M) rfl ?_
    exact ⟨6, rfl, ⟨by omega, by omega⟩, rfl, (show 6 = -1 ∨ ¬ b = 0 by first | assumption | omega)⟩
  · refine w_sw (v := 21) (F' := (142, [(0, .int (Int32.ofInt (b)))], [], M)) h1 rfl rfl ?_
    refine w_adv (n := 1) (F' := (143, [(0, .int (Int32.ofInt (b)))], [.int (Int32.ofInt ((-1)))], M)) rfl ?_
    refine w_fin (r := .inl (some ((-1)))) (M' := M) rfl ?_
    exact ⟨(-1), rfl, ⟨by omega, by omega⟩, rfl, (show (-1) = -1 ∨ ¬ b = 0 by first | assumption | omega)⟩
  · refine w_sw (v := 22) (F' := (142, [(0, .int (Int32.ofInt (b)))], [], M)) h1 rfl rfl ?_
    refine w_adv (n := 1) (F' := (143, [(0, .int (Int32.ofInt (b)))], [.int (Int32.ofInt ((-1)))], M)) rfl ?_
    refine w_fin (r := .inl (some ((-1)))) (M' := M) rfl ?_
    exact ⟨(-1), rfl, ⟨by omega, by omega⟩, rfl, (show (-1) = -1 ∨ ¬ b = 0 by first | assumption | omega)⟩
  · refine w_sw (v := 23) (F' := (142, [(0, .int (Int32.ofInt (b)))], [], M)) h1 rfl rfl ?_
    refine w_adv (n := 1) (F' := (143, [(0, .int (Int32.ofInt (b)))], [.int (Int32.ofInt ((-1)))], M)) rfl ?_
    refine w_fin (r := .inl (some ((-1)))) (M' := M) rfl ?_
    exact ⟨(-1), rfl, ⟨by omega, by omega⟩, rfl, (show (-1) = -1 ∨ ¬ b = 0 by first | assumption | omega)⟩
  · refine w_sw (v := 24) (F' := (142, [(0, .int (Int32.ofInt (b)))], [], M)) h1 rfl rfl ?_
    refine w_adv (n := 1) (F' := (143, [(0, .int (Int32.ofInt (b)))], [.int (Int32.ofInt ((-1)))], M)) rfl ?_
    refine w_fin (r := .inl (some ((-1)))) (M' := M) rfl ?_
    exact ⟨(-1), rfl, ⟨by omega, by omega⟩, rfl, (show (-1) = -1 ∨ ¬ b = 0 by first | assumption | omega)⟩
  · refine w_sw (v := 25) (F' := (142, [(0, .int (Int32.ofInt (b)))], [], M)) h1 rfl rfl ?_
    refine w_adv (n := 1) (F' := (143, [(0, .int (Int32.ofInt (b)))], [.int (Int32.ofInt ((-1)))], M)) rfl ?_
    refine w_fin (r := .inl (some ((-1)))) (M' := M) rfl ?_
    exact ⟨(-1), rfl, ⟨by omega, by omega⟩, rfl, (show (-1) = -1 ∨ ¬ b = 0 by first | assumption | omega)⟩
  · refine w_sw (v := 26) (F' := (142, [(0, .int (Int32.ofInt (b)))], [], M)) h1 rfl rfl ?_
    refine w_adv (n := 1) (F' := (143, [(0, .int (Int32.ofInt (b)))], [.int (Int32.ofInt ((-1)))], M)) rfl ?_
    refine w_fin (r := .inl (some ((-1)))) (M' := M) rfl ?_
    exact ⟨(-1), rfl, ⟨by omega, by omega⟩, rfl, (show (-1) = -1 ∨ ¬ b = 0 by first | assumption | omega)⟩
  · refine w_sw (v := 27) (F' := (142, [(0, .int (Int32.ofInt (b)))], [], M)) h1 rfl rfl ?_
    refine w_adv (n := 1) (F' := (143, [(0, .int (Int32.ofInt (b)))], [.int (Int32.ofInt ((-1)))], M)) rfl ?_
    refine w_fin (r := .inl (some ((-1)))) (M' := M) rfl ?_
    exact ⟨(-1), rfl, ⟨by omega, by omega⟩, rfl, (show (-1) = -1 ∨ ¬ b = 0 by first | assumption | omega)⟩
  · refine w_sw (v := 28) (F' := (142, [(0, .int (Int32.ofInt (b)))], [], M)) h1 rfl rfl ?_
    refine w_adv (n := 1) (F' := (143, [(0, .int (Int32.ofInt (b)))], [.int (Int32.ofInt ((-1)))], M)) rfl ?_
    refine w_fin (r := .inl (some ((-1)))) (M' := M) rfl ?_
    exact ⟨(-1), rfl, ⟨by omega, by omega⟩, rfl, (show (-1) = -1 ∨ ¬ b = 0 by first | assumption | omega)⟩
  · refine w_sw (v := 29) (F' := (142, [(0, .int (Int32.ofInt (b)))], [], M)) h1 rfl rfl ?_
    refine w_adv (n := 1) (F' := (143, [(0, .int (Int32.ofInt (b)))], [.int (Int32.ofInt ((-1)))], M)) rfl ?_
    refine w_fin (r := .inl (some ((-1)))) (M' := M) rfl ?_
    exact ⟨(-1), rfl, ⟨by omega, by omega⟩, rfl, (show (-1) = -1 ∨ ¬ b = 0 by first | assumption | omega)⟩
  · refine w_sw (v := 30) (F' := (142, [(0, .int (Int32.ofInt (b)))], [], M)) h1 rfl rfl ?_
    refine w_adv (n := 1) (F' := (143, [(0, .int (Int32.ofInt (b)))], [.int (Int32.ofInt ((-1)))], M)) rfl ?_
    refine w_fin (r := .inl (some ((-1)))) (M' := M) rfl ?_
    exact ⟨(-1), rfl, ⟨by omega, by omega⟩, rfl, (show (-1) = -1 ∨ ¬ b = 0 by first | assumption | omega)⟩
  · refine w_sw (v := 31) (F' := (142, [(0, .int (Int32.ofInt (b)))], [], M)) h1 rfl rfl ?_
    refine w_adv (n := 1) (F' := (143, [(0, .int (Int32.ofInt (b)))], [.int (Int32.ofInt ((-1)))], M)) rfl ?_
    refine w_fin (r := .inl (some ((-1)))) (M' := M) rfl ?_
    exact ⟨(-1), rfl, ⟨by omega, by omega⟩, rfl, (show (-1) = -1 ∨ ¬ b = 0 by first | assumption | omega)⟩
  · refine w_sw (v := 32) (F' := (142, [(0, .int (Int32.ofInt (b)))], [], M)) h1 rfl rfl ?_
    refine w_adv (n := 1) (F' := (143, [(0, .int (Int32.ofInt (b)))], [.int (Int32.ofInt ((-1)))], M)) rfl ?_
    refine w_fin (r := .inl (some ((-1)))) (M' := M) rfl ?_
    exact ⟨(-1), rfl, ⟨by omega, by omega⟩, rfl, (show (-1) = -1 ∨ ¬ b = 0 by first | assumption | omega)⟩
  · refine w_sw (v := 33) (F' := (142, [(0, .int (Int32.ofInt (b)))], [], M)) h1 rfl rfl ?_
    refine w_adv (n := 1) (F' := (143, [(0, .int (Int32.ofInt (b)))], [.int (Int32.ofInt ((-1)))], M)) rfl ?_
    refine w_fin (r := .inl (some ((-1)))) (M' := M) rfl ?_
    exact ⟨(-1), rfl, ⟨by omega, by omega⟩, rfl, (show (-1) = -1 ∨ ¬ b = 0 by first | assumption | omega)⟩
  · refine w_sw (v := 34) (F' := (142, [(0, .int (Int32.ofInt (b)))], [], M)) h1 rfl rfl ?_
    refine w_adv (n := 1) (F' := (143, [(0, .int (Int32.ofInt (b)))], [.int (Int32.ofInt ((-1)))], M)) rfl ?_
    refine w_fin (r := .inl (some ((-1)))) (M' := M) rfl ?_
    exact ⟨(-1), rfl, ⟨by omega, by omega⟩, rfl, (show (-1) = -1 ∨ ¬ b = 0 by first | assumption | omega)⟩
  · refine w_sw (v := 35) (F' := (142, [(0, .int (Int32.ofInt (b)))], [], M)) h1 rfl rfl ?_
    refine w_adv (n := 1) (F' := (143, [(0, .int (Int32.ofInt (b)))], [.int (Int32.ofInt ((-1)))], M)) rfl ?_
    refine w_fin (r := .inl (some ((-1)))) (M' := M) rfl ?_
    exact ⟨(-1), rfl, ⟨by omega, by omega⟩, rfl, (show (-1) = -1 ∨ ¬ b = 0 by first | assumption | omega)⟩
  · refine w_sw (v := 36) (F' := (142, [(0, .int (Int32.ofInt (b)))], [], M)) h1 rfl rfl ?_
    refine w_adv (n := 1) (F' := (143, [(0, .int (Int32.ofInt (b)))], [.int (Int32.ofInt ((-1)))], M)) rfl ?_
    refine w_fin (r := .inl (some ((-1)))) (M' := M) rfl ?_
    exact ⟨(-1), rfl, ⟨by omega, by omega⟩, rfl, (show (-1) = -1 ∨ ¬ b = 0 by first | assumption | omega)⟩
  · refine w_sw (v := 37) (F' := (142, [(0, .int (Int32.ofInt (b)))], [], M)) h1 rfl rfl ?_
    refine w_adv (n := 1) (F' := (143, [(0, .int (Int32.ofInt (b)))], [.int (Int32.ofInt ((-1)))], M)) rfl ?_
    refine w_fin (r := .inl (some ((-1)))) (M' := M) rfl ?_
    exact ⟨(-1), rfl, ⟨by omega, by omega⟩, rfl, (show (-1) = -1 ∨ ¬ b = 0 by first | assumption | omega)⟩
  · refine w_sw (v := 38) (F' := (130, [(0, .int (Int32.ofInt (b)))], [], M)) h1 rfl rfl ?_
    refine w_adv (n := 1) (F' := (131, [(0, .int (Int32.ofInt (b)))], [.int (Int32.ofInt (3))], M)) rfl ?_
    refine w_fin (r := .inl (some (3))) (M' := M) rfl ?_
    exact ⟨3, rfl, ⟨by omega, by omega⟩, rfl, (show 3 = -1 ∨ ¬ b = 0 by first | assumption | omega)⟩
  · refine w_sw (v := 39) (F' := (132, [(0, .int (Int32.ofInt (b)))], [], M)) h1 rfl rfl ?_
    refine w_adv (n := 1) (F' := (133, [(0, .int (Int32.ofInt (b)))], [.int (Int32.ofInt (4))], M)) rfl ?_
    refine w_fin (r := .inl (some (4))) (M' := M) rfl ?_
    exact ⟨4, rfl, ⟨by omega, by omega⟩, rfl, (show 4 = -1 ∨ ¬ b = 0 by first | assumption | omega)⟩
def c_isProduct_Q (fr : Nat → Bool) (X : Nat → Option (q_C (Nat → Int32))) (u l : Nat) (I : Nat → Int) (A : Nat → Int → Int) (B C : Nat → Nat) (M : w_M) (b : Int) : w_X → w_M → Prop := fun r M' => ((r = .inl (some 1)) ∧ (M' = M) ∧ (¬ b = -1)) ∨ ((r = .inl (some 0)) ∧ (M' = M))
set_option maxHeartbeats 100000000 in
set_option maxRecDepth 100000 in
theorem c_isProduct {L : Nat} {xs : Nat → Int32} {d : Nat} {fr : Nat → Bool} {X : Nat → Option (q_C (Nat → Int32))} {u l : Nat} {I : Nat → Int} {A : Nat → Int → Int} {B C : Nat → Nat} {M : w_M} (b : Int) (hR : w_Rep w_TC fr X u l I A B C M) (r_b : w_in b) : w_W (z_P L xs) d 131 (0, [(0, .int (Int32.ofInt (b)))], [], M) (c_isProduct_Q fr X u l I A B C M b) := by
  obtain ⟨ra_b, rb_b⟩ := r_b
  refine w_adv (n := 2) (F' := (2, [(0, .int (Int32.ofInt (b)))], [.int (Int32.ofInt (2)), .int (Int32.ofInt (b))], M)) rfl ?_
  refine w_br2 (a := b) (b := 2) rfl rfl ⟨by omega, by omega⟩ ⟨by omega, by omega⟩ (fun h1 => ?_) (fun h1 => ?_)
  · have h1 : b < 2 := h1
    show w_W _ _ _ (14, [(0, .int (Int32.ofInt (b)))], [], M) _
    refine w_adv (n := 1) (F' := (15, [(0, .int (Int32.ofInt (b)))], [.int (Int32.ofInt (0))], M)) rfl ?_
    refine w_fin (r := .inl (some (0))) (M' := M) rfl ?_
    exact Or.inr (⟨rfl, rfl⟩)
  · have h1 : ¬ (b < 2) := h1
    show w_W _ _ _ (5, [(0, .int (Int32.ofInt (b)))], [], M) _
    refine w_adv (n := 2) (F' := (7, [(0, .int (Int32.ofInt (b)))], [.int (Int32.ofInt (4)), .int (Int32.ofInt (b))], M)) rfl ?_
    refine w_br2 (a := b) (b := 4) rfl rfl ⟨by omega, by omega⟩ ⟨by omega, by omega⟩ (fun h2 => ?_) (fun h2 => ?_)
    · have h2 : b > 4 := h2
      show w_W _ _ _ (14, [(0, .int (Int32.ofInt (b)))], [], M) _
      refine w_adv (n := 1) (F' := (15, [(0, .int (Int32.ofInt (b)))], [.int (Int32.ofInt (0))], M)) rfl ?_
      refine w_fin (r := .inl (some (0))) (M' := M) rfl ?_
      exact Or.inr (⟨rfl, rfl⟩)
    · have h2 : ¬ (b > 4) := h2
      show w_W _ _ _ (10, [(0, .int (Int32.ofInt (b)))], [], M) _
      refine w_adv (n := 2) (F' := (15, [(0, .int (Int32.ofInt (b)))], [.int (Int32.ofInt (1))], M)) rfl ?_
      refine w_fin (r := .inl (some (1))) (M' := M) rfl ?_
      exact Or.inl ⟨rfl, rfl, (show ¬ b = -1 by first | assumption | omega)⟩
def c_isSum_Q (fr : Nat → Bool) (X : Nat → Option (q_C (Nat → Int32))) (u l : Nat) (I : Nat → Int) (A : Nat → Int → Int) (B C : Nat → Nat) (M : w_M) (b : Int) : w_X → w_M → Prop := fun r M' => ((r = .inl (some 1)) ∧ (M' = M) ∧ (¬ b = -1)) ∨ ((r = .inl (some 0)) ∧ (M' = M))
set_option maxHeartbeats 100000000 in
set_option maxRecDepth 100000 in
theorem c_isSum {L : Nat} {xs : Nat → Int32} {d : Nat} {fr : Nat → Bool} {X : Nat → Option (q_C (Nat → Int32))} {u l : Nat} {I : Nat → Int} {A : Nat → Int → Int} {B C : Nat → Nat} {M : w_M} (b : Int) (hR : w_Rep w_TC fr X u l I A B C M) (r_b : w_in b) : w_W (z_P L xs) d 132 (0, [(0, .int (Int32.ofInt (b)))], [], M) (c_isSum_Q fr X u l I A B C M b) := by
  obtain ⟨ra_b, rb_b⟩ := r_b
  refine w_adv (n := 1) (F' := (1, [(0, .int (Int32.ofInt (b)))], [.int (Int32.ofInt (b))], M)) rfl ?_
  refine w_br1 (a := b) rfl rfl ⟨by omega, by omega⟩ (fun h1 => ?_) (fun h1 => ?_)
  · have h1 : b = 0 := h1
    show w_W _ _ _ (9, [(0, .int (Int32.ofInt (b)))], [], M) _
    refine w_adv (n := 2) (F' := (14, [(0, .int (Int32.ofInt (b)))], [.int (Int32.ofInt (1))], M)) rfl ?_
    refine w_fin (r := .inl (some (1))) (M' := M) rfl ?_
    exact Or.inl ⟨rfl, rfl, (show ¬ b = -1 by first | assumption | omega)⟩
  · have h1 : ¬ (b = 0) := h1
    show w_W _ _ _ (4, [(0, .int (Int32.ofInt (b)))], [], M) _
    refine w_adv (n := 2) (F' := (6, [(0, .int (Int32.ofInt (b)))], [.int (Int32.ofInt (1)), .int (Int32.ofInt (b))], M)) rfl ?_
    refine w_br2 (a := b) (b := 1) rfl rfl ⟨by omega, by omega⟩ ⟨by omega, by omega⟩ (fun h2 => ?_) (fun h2 => ?_)
    · have h2 : ¬ b = 1 := h2
      show w_W _ _ _ (13, [(0, .int (Int32.ofInt (b)))], [], M) _
      refine w_adv (n := 1) (F' := (14, [(0, .int (Int32.ofInt (b)))], [.int (Int32.ofInt (0))], M)) rfl ?_
      refine w_fin (r := .inl (some (0))) (M' := M) rfl ?_
      exact Or.inr (⟨rfl, rfl⟩)
    · have h2 : ¬ (¬ b = 1) := h2
      show w_W _ _ _ (9, [(0, .int (Int32.ofInt (b)))], [], M) _
      refine w_adv (n := 2) (F' := (14, [(0, .int (Int32.ofInt (b)))], [.int (Int32.ofInt (1))], M)) rfl ?_
      refine w_fin (r := .inl (some (1))) (M' := M) rfl ?_
      exact Or.inl ⟨rfl, rfl, (show ¬ b = -1 by first | assumption | omega)⟩
def c_meaning_Q (fr : Nat → Bool) (X : Nat → Option (q_C (Nat → Int32))) (u l : Nat) (I : Nat → Int) (A : Nat → Int → Int) (B C : Nat → Nat) (M : w_M) : w_X → w_M → Prop := fun r M' => (∃ v : Int, ∃ zm : Int, (r = .inl (some v)) ∧ (w_in v) ∧ (w_Rep w_TC fr X u l (w_up I 2440 (zm)) A B C M')) ∨ (∃ t : Nat, ∃ (I' : Nat → Int) (A' : Nat → Int → Int) (B' C' : Nat → Nat), (r = .inr t) ∧ (w_Rep w_TC fr X (u + 6) (l + 64) I' A' B' C' M') ∧ (c_fi c_ps I I') ∧ (c_fa c_pa A A') ∧ (M'.1[t]? = some (.inr (11, []))))
set_option maxHeartbeats 100000000 in
set_option maxRecDepth 100000 in
theorem c_meaning {L : Nat} {xs : Nat → Int32} {d : Nat} {fr : Nat → Bool} {X : Nat → Option (q_C (Nat → Int32))} {u l : Nat} {I : Nat → Int} {A : Nat → Int → Int} {B C : Nat → Nat} {M : w_M} (hR : w_Rep w_TC fr X u l I A B C M) (hd : 3 ≤ d) (hl : l ≤ 7000000) : w_W (z_P L xs) d 111 (0, [(0, .ref 38)], [], M) (c_meaning_Q fr X u l I A B C M) := by
  obtain ⟨d, rfl⟩ : ∃ d0, d = d0 + 1 := ⟨d - 1, by omega⟩
  refine w_adv (n := 1) (F' := (1, [(0, .ref 38)], [.ref 38], M)) rfl ?_
  refine w_gf (v := .ref 33) hR rfl rfl rfl rfl ?_
  refine w_adv (n := 1) (F' := (5, [(0, .ref 38)], [.ref 38, .ref 33], M)) rfl ?_
  refine w_gf (v := .int (Int32.ofInt ((I 2438)))) hR rfl rfl rfl rfl ?_
  obtain ⟨r1, r2⟩ : -2147483648 ≤ (I 2438) ∧ (I 2438) ≤ 2147483647 := hR.ri 2438
  refine w_call (cm := 112) (as := [(0, .ref 33), (1, .int (Int32.ofInt ((I 2438))))]) (rest := []) (o := some (5, 33)) rfl (w_fitR hR rfl) (c_Scope_meaning ((I 2438)) hR (show 2 ≤ d by omega) ⟨by omega, by omega⟩) (fun r3 M4 q5 => ?_)
  rcases q5 with ⟨v6, e7, ⟨r8, r9⟩, e10⟩
  rw [e7, e10]
  show w_W _ _ _ (11, [(0, .ref 38)], [.int (Int32.ofInt (v6))], M) _
  refine w_adv (n := 3) (F' := (14, [(1, .int (Int32.ofInt (v6))), (0, .ref 38)], [.int (Int32.ofInt ((-1))), .int (Int32.ofInt (v6))], M)) rfl ?_
  refine w_br2 (a := v6) (b := (-1)) rfl rfl ⟨by omega, by omega⟩ ⟨by omega, by omega⟩ (fun h11 => ?_) (fun h11 => ?_)
  · have h11 : ¬ v6 = (-1) := h11
    show w_W _ _ _ (23, [(1, .int (Int32.ofInt (v6))), (0, .ref 38)], [], M) _
    refine w_adv (n := 2) (F' := (25, [(1, .int (Int32.ofInt (v6))), (0, .ref 38)], [.int (Int32.ofInt (3)), .int (Int32.ofInt (v6))], M)) rfl ?_
    refine w_br2 (a := v6) (b := 3) rfl rfl ⟨by omega, by omega⟩ ⟨by omega, by omega⟩ (fun h12 => ?_) (fun h12 => ?_)
    · have h12 : v6 < 3 := h12
      show w_W _ _ _ (44, [(1, .int (Int32.ofInt (v6))), (0, .ref 38)], [], M) _
      refine w_adv (n := 1) (F' := (45, [(1, .int (Int32.ofInt (v6))), (0, .ref 38)], [.int (Int32.ofInt (v6))], M)) rfl ?_
      refine w_fin (r := .inl (some (v6))) (M' := M) rfl ?_
      exact Or.inl ⟨v6, (I 2440), rfl, ⟨by omega, by omega⟩, (w_Rep.up hR (show (w_up I 2440 ((I 2440))) = I from (funext fun s => if e0 : s = 2440 then (by subst e0; rfl) else (by simp only [w_up_ne e0]))) (show A = A from rfl))⟩
    · have h12 : ¬ (v6 < 3) := h12
      show w_W _ _ _ (28, [(1, .int (Int32.ofInt (v6))), (0, .ref 38)], [], M) _
      refine w_adv (n := 2) (F' := (31, [(1, .int (Int32.ofInt (v6))), (0, .ref 38)], [.int (Int32.ofInt (7)), .int (Int32.ofInt (v6))], M)) rfl ?_
      refine w_br2 (a := v6) (b := 7) rfl rfl ⟨by omega, by omega⟩ ⟨by omega, by omega⟩ (fun h13 => ?_) (fun h13 => ?_)
      · have h13 : v6 ≥ 7 := h13
        show w_W _ _ _ (44, [(1, .int (Int32.ofInt (v6))), (0, .ref 38)], [], M) _
        refine w_adv (n := 1) (F' := (45, [(1, .int (Int32.ofInt (v6))), (0, .ref 38)], [.int (Int32.ofInt (v6))], M)) rfl ?_
        refine w_fin (r := .inl (some (v6))) (M' := M) rfl ?_
        exact Or.inl ⟨v6, (I 2440), rfl, ⟨by omega, by omega⟩, (w_Rep.up hR (show (w_up I 2440 ((I 2440))) = I from (funext fun s => if e0 : s = 2440 then (by subst e0; rfl) else (by simp only [w_up_ne e0]))) (show A = A from rfl))⟩
      · have h13 : ¬ (v6 ≥ 7) := h13
        show w_W _ _ _ (34, [(1, .int (Int32.ofInt (v6))), (0, .ref 38)], [], M) _
        refine w_adv (n := 2) (F' := (36, [(1, .int (Int32.ofInt (v6))), (0, .ref 38)], [.ref 38, .ref 38], M)) rfl ?_
        refine w_gf (v := .int (Int32.ofInt ((I 2440)))) hR rfl rfl rfl rfl ?_
        obtain ⟨r14, r15⟩ : -2147483648 ≤ (I 2440) ∧ (I 2440) ≤ 2147483647 := hR.ri 2440
        refine w_adv (n := 2) (F' := (41, [(1, .int (Int32.ofInt (v6))), (0, .ref 38)], [.int ((Int32.ofInt ((I 2440))) ||| (Int32.ofInt (1))), .ref 38], M)) rfl ?_
        refine w_int (fun x16 r17 e18 => ?_)
        obtain ⟨r17a, r17b⟩ := r17
        refine w_pf hR rfl rfl rfl rfl (show w_in (x16) from ⟨by omega, by omega⟩) (fun h => absurd h (by decide)) (fun M19 hR20 => ?_)
        replace hR20 : w_Rep w_TC fr X u l (w_up I 2440 (x16)) A B C M19 := hR20
        refine w_adv (n := 1) (F' := (45, [(1, .int (Int32.ofInt (v6))), (0, .ref 38)], [.int (Int32.ofInt (v6))], M19)) rfl ?_
        refine w_fin (r := .inl (some (v6))) (M' := M19) rfl ?_
        exact Or.inl ⟨v6, x16, rfl, ⟨by omega, by omega⟩, hR20⟩
  · have h11 : ¬ (¬ v6 = (-1)) := h11
    show w_W _ _ _ (17, [(1, .int (Int32.ofInt (v6))), (0, .ref 38)], [], M) _
    refine w_adv (n := 2) (F' := (19, [(1, .int (Int32.ofInt (v6))), (0, .ref 38)], [.int (Int32.ofInt (3)), .ref 38], M)) rfl ?_
    refine w_call (cm := 100) (as := [(0, .ref 38), (1, .int (Int32.ofInt (3)))]) (rest := []) (o := some (4, 38)) rfl (w_fitR hR rfl) (c_fail (3) hR ⟨by omega, by omega⟩ (show l ≤ 7000000 by first | assumption | omega) (show 1 ≤ 3 ∧ 3 ≤ 7 by first | assumption | omega)) (fun r21 M22 q23 => ?_)
    rcases q23 with ⟨t24, I23a, A23a, B23a, C23a, e25, hR23a, f26, f27, f28⟩
    rw [e25]
    replace hR23a : w_Rep w_TC fr X (u + 6) (l + 64) I23a A23a B23a C23a M22 := hR23a
    replace f26 : c_fi c_ps I I23a := f26
    replace f27 : c_fa c_pa A A23a := f27
    replace f28 : M22.1[t24]? = some (.inr (11, [])) := f28
    exact Or.inr (⟨t24, I23a, A23a, B23a, C23a, rfl, hR23a, (show c_fi c_ps I I23a by exact f26), (show c_fa c_pa A A23a by exact f27), (show M22.1[t24]? = some (.inr (11, [])) by exact f28)⟩)
def c_bracketIsNext_Q (fr : Nat → Bool) (X : Nat → Option (q_C (Nat → Int32))) (u l : Nat) (I : Nat → Int) (A : Nat → Int → Int) (B C : Nat → Nat) (M : w_M) : w_X → w_M → Prop := fun r M' => ((r = .inl (some 1)) ∧ (M' = M) ∧ ((I 2436) + 1 < (I 773))) ∨ ((r = .inl (some 0)) ∧ (M' = M))
set_option maxHeartbeats 100000000 in
set_option maxRecDepth 100000 in
theorem c_bracketIsNext {L : Nat} {xs : Nat → Int32} {d : Nat} {fr : Nat → Bool} {X : Nat → Option (q_C (Nat → Int32))} {u l : Nat} {I : Nat → Int} {A : Nat → Int → Int} {B C : Nat → Nat} {M : w_M} (hR : w_Rep w_TC fr X u l I A B C M) (hd : 3 ≤ d) (hp : 0 ≤ (I 2436) ∧ (I 2436) ≤ 1501) : w_W (z_P L xs) d 95 (0, [(0, .ref 38)], [], M) (c_bracketIsNext_Q fr X u l I A B C M) := by
  obtain ⟨d, rfl⟩ : ∃ d0, d = d0 + 1 := ⟨d - 1, by omega⟩
  refine w_adv (n := 1) (F' := (1, [(0, .ref 38)], [.ref 38], M)) rfl ?_
  refine w_gf (v := .ref 3) hR rfl rfl rfl rfl ?_
  refine w_adv (n := 1) (F' := (5, [(0, .ref 38)], [.ref 38, .ref 3], M)) rfl ?_
  refine w_gf (v := .ref 3) hR rfl rfl rfl rfl ?_
  refine w_adv (n := 1) (F' := (9, [(0, .ref 38)], [.ref 38, .ref 3, .ref 3], M)) rfl ?_
  refine w_gf (v := .int (Int32.ofInt ((I 2438)))) hR rfl rfl rfl rfl ?_
  obtain ⟨r1, r2⟩ : -2147483648 ≤ (I 2438) ∧ (I 2438) ≤ 2147483647 := hR.ri 2438
  refine w_call (cm := 96) (as := [(0, .ref 3), (1, .int (Int32.ofInt ((I 2438))))]) (rest := [.ref 3]) (o := some (3, 3)) rfl (w_fitR hR rfl) (c_entryOfAtom ((I 2438)) hR (show 1 ≤ d by omega) ⟨by omega, by omega⟩) (fun r3 M4 q5 => ?_)
  rcases q5 with ⟨v6, e7, ⟨r8, r9⟩, e10⟩
  rw [e7, e10]
  show w_W _ _ _ (15, [(0, .ref 38)], [.int (Int32.ofInt (v6)), .ref 3], M) _
  refine w_call (cm := 23) (as := [(0, .ref 3), (1, .int (Int32.ofInt (v6)))]) (rest := []) (o := some (3, 3)) rfl (w_fitR hR rfl) (c_lengthOf2 (v6) hR ⟨by omega, by omega⟩) (fun r11 M12 q13 => ?_)
  rcases q13 with ⟨v14, e15, ⟨r16, r17⟩, e18, f19⟩
  rw [e15, e18]
  replace f19 : (0 ≤ v6 ∧ v6 < (I 200) ∧ v6 < 420) ∨ v14 = 0 := f19
  show w_W _ _ _ (18, [(0, .ref 38)], [.int (Int32.ofInt (v14))], M) _
  refine w_adv (n := 2) (F' := (20, [(1, .int (Int32.ofInt (v14))), (0, .ref 38)], [.ref 38], M)) rfl ?_
  refine w_gf (v := .ref 12) hR rfl rfl rfl rfl ?_
  refine w_adv (n := 1) (F' := (24, [(1, .int (Int32.ofInt (v14))), (0, .ref 38)], [.ref 38, .ref 12], M)) rfl ?_
  refine w_gf (v := .int (Int32.ofInt ((I 2436)))) hR rfl rfl rfl rfl ?_
  obtain ⟨r20, r21⟩ : -2147483648 ≤ (I 2436) ∧ (I 2436) ≤ 2147483647 := hR.ri 2436
  refine w_adv (n := 1) (F' := (28, [(1, .int (Int32.ofInt (v14))), (0, .ref 38)], [.int (Int32.ofInt (1)), .int (Int32.ofInt ((I 2436))), .ref 12], M)) rfl ?_
  refine w_add rfl ?_
  refine w_call (cm := 86) (as := [(0, .ref 12), (1, .int (Int32.ofInt ((I 2436) + 1)))]) (rest := []) (o := some (7, 12)) rfl (w_fitR hR rfl) (c_Tokens_kind2 ((I 2436) + 1) hR ⟨by omega, by omega⟩) (fun r22 M23 q24 => ?_)
  rcases q24 with ⟨v25, e26, ⟨r27, r28⟩, e29, f30⟩
  rw [e26, e29]
  replace f30 : (I 2436) + 1 < (I 773) ∨ v25 = 0 := f30
  show w_W _ _ _ (32, [(1, .int (Int32.ofInt (v14))), (0, .ref 38)], [.int (Int32.ofInt (v25))], M) _
  refine w_adv (n := 1) (F' := (33, [(1, .int (Int32.ofInt (v14))), (0, .ref 38)], [.int (Int32.ofInt (5)), .int (Int32.ofInt (v25))], M)) rfl ?_
  refine w_br2 (a := v25) (b := 5) rfl rfl ⟨by omega, by omega⟩ ⟨by omega, by omega⟩ (fun h31 => ?_) (fun h31 => ?_)
  · have h31 : ¬ v25 = 5 := h31
    show w_W _ _ _ (69, [(1, .int (Int32.ofInt (v14))), (0, .ref 38)], [], M) _
    refine w_adv (n := 1) (F' := (70, [(1, .int (Int32.ofInt (v14))), (0, .ref 38)], [.int (Int32.ofInt (0))], M)) rfl ?_
    refine w_fin (r := .inl (some (0))) (M' := M) rfl ?_
    exact Or.inr (⟨rfl, rfl⟩)
  · have h31 : ¬ (¬ v25 = 5) := h31
    show w_W _ _ _ (36, [(1, .int (Int32.ofInt (v14))), (0, .ref 38)], [], M) _
    refine w_adv (n := 1) (F' := (37, [(1, .int (Int32.ofInt (v14))), (0, .ref 38)], [.ref 38], M)) rfl ?_
    refine w_gf (v := .ref 12) hR rfl rfl rfl rfl ?_
    refine w_adv (n := 1) (F' := (41, [(1, .int (Int32.ofInt (v14))), (0, .ref 38)], [.ref 38, .ref 12], M)) rfl ?_
    refine w_gf (v := .int (Int32.ofInt ((I 2436)))) hR rfl rfl rfl rfl ?_
    refine w_adv (n := 1) (F' := (45, [(1, .int (Int32.ofInt (v14))), (0, .ref 38)], [.int (Int32.ofInt (1)), .int (Int32.ofInt ((I 2436))), .ref 12], M)) rfl ?_
    refine w_add rfl ?_
    refine w_call (cm := 97) (as := [(0, .ref 12), (1, .int (Int32.ofInt ((I 2436) + 1)))]) (rest := []) (o := some (7, 12)) rfl (w_fitR hR rfl) (c_Tokens_start ((I 2436) + 1) hR (show 2 ≤ d by omega) ⟨by omega, by omega⟩) (fun r32 M33 q34 => ?_)
    rcases q34 with ⟨v35, e36, ⟨r37, r38⟩, e39⟩
    rw [e36, e39]
    show w_W _ _ _ (49, [(1, .int (Int32.ofInt (v14))), (0, .ref 38)], [.int (Int32.ofInt (v35))], M) _
    refine w_adv (n := 1) (F' := (50, [(1, .int (Int32.ofInt (v14))), (0, .ref 38)], [.ref 38, .int (Int32.ofInt (v35))], M)) rfl ?_
    refine w_gf (v := .ref 12) hR rfl rfl rfl rfl ?_
    refine w_adv (n := 1) (F' := (54, [(1, .int (Int32.ofInt (v14))), (0, .ref 38)], [.ref 38, .ref 12, .int (Int32.ofInt (v35))], M)) rfl ?_
    refine w_gf (v := .int (Int32.ofInt ((I 2436)))) hR rfl rfl rfl rfl ?_
    refine w_call (cm := 97) (as := [(0, .ref 12), (1, .int (Int32.ofInt ((I 2436))))]) (rest := [.int (Int32.ofInt (v35))]) (o := some (7, 12)) rfl (w_fitR hR rfl) (c_Tokens_start ((I 2436)) hR (show 2 ≤ d by omega) ⟨by omega, by omega⟩) (fun r40 M41 q42 => ?_)
    rcases q42 with ⟨v43, e44, ⟨r45, r46⟩, e47⟩
    rw [e44, e47]
    show w_W _ _ _ (60, [(1, .int (Int32.ofInt (v14))), (0, .ref 38)], [.int (Int32.ofInt (v43)), .int (Int32.ofInt (v35))], M) _
    refine w_adv (n := 1) (F' := (61, [(1, .int (Int32.ofInt (v14))), (0, .ref 38)], [.int (Int32.ofInt (v14)), .int (Int32.ofInt (v43)), .int (Int32.ofInt (v35))], M)) rfl ?_
    refine w_add rfl ?_
    refine w_int (fun x48 r49 e50 => ?_)
    obtain ⟨r49a, r49b⟩ := r49
    clear e50
    refine w_br2 (a := v35) (b := x48) rfl rfl ⟨by omega, by omega⟩ ⟨by omega, by omega⟩ (fun h51 => ?_) (fun h51 => ?_)
    · have h51 : ¬ v35 = x48 := h51
      show w_W _ _ _ (69, [(1, .int (Int32.ofInt (v14))), (0, .ref 38)], [], M) _
      refine w_adv (n := 1) (F' := (70, [(1, .int (Int32.ofInt (v14))), (0, .ref 38)], [.int (Int32.ofInt (0))], M)) rfl ?_
      refine w_fin (r := .inl (some (0))) (M' := M) rfl ?_
      exact Or.inr (⟨rfl, rfl⟩)
    · have h51 : ¬ (¬ v35 = x48) := h51
      show w_W _ _ _ (65, [(1, .int (Int32.ofInt (v14))), (0, .ref 38)], [], M) _
      refine w_adv (n := 2) (F' := (70, [(1, .int (Int32.ofInt (v14))), (0, .ref 38)], [.int (Int32.ofInt (1))], M)) rfl ?_
      refine w_fin (r := .inl (some (1))) (M' := M) rfl ?_
      exact Or.inl ⟨rfl, rfl, (show (I 2436) + 1 < (I 773) by first | assumption | omega)⟩
def c_feature_Q (fr : Nat → Bool) (X : Nat → Option (q_C (Nat → Int32))) (u l : Nat) (I : Nat → Int) (A : Nat → Int → Int) (B C : Nat → Nat) (M : w_M) (f : Int) (n : Int) : w_X → w_M → Prop := fun r M' => (∃ v : Int, (r = .inl (some v)) ∧ (w_in v) ∧ (M' = M) ∧ (¬ (I 2437) = 0)) ∨ (∃ t : Nat, ∃ (I' : Nat → Int) (A' : Nat → Int → Int) (B' C' : Nat → Nat), (r = .inr t) ∧ (w_Rep w_TC fr X (u + 6) (l + 64) I' A' B' C' M') ∧ (c_fi c_ps I I') ∧ (c_fa c_pa A A') ∧ (M'.1[t]? = some (.inr (11, []))))
set_option maxHeartbeats 100000000 in
set_option maxRecDepth 100000 in
theorem c_feature {L : Nat} {xs : Nat → Int32} {d : Nat} {fr : Nat → Bool} {X : Nat → Option (q_C (Nat → Int32))} {u l : Nat} {I : Nat → Int} {A : Nat → Int → Int} {B C : Nat → Nat} {M : w_M} (f : Int) (n : Int) (hR : w_Rep w_TC fr X u l I A B C M) (hd : 3 ≤ d) (r_f : w_in f) (r_n : w_in n) (hl : l ≤ 7000000) : w_W (z_P L xs) d 103 (0, [(0, .ref 38), (1, .int (Int32.ofInt (f))), (2, .int (Int32.ofInt (n)))], [], M) (c_feature_Q fr X u l I A B C M f n) := by
  obtain ⟨ra_f, rb_f⟩ := r_f
  obtain ⟨ra_n, rb_n⟩ := r_n
  obtain ⟨d, rfl⟩ : ∃ d0, d = d0 + 1 := ⟨d - 1, by omega⟩
  refine w_adv (n := 1) (F' := (1, [(0, .ref 38), (1, .int (Int32.ofInt (f))), (2, .int (Int32.ofInt (n)))], [.ref 38], M)) rfl ?_
  refine w_gf (v := .int (Int32.ofInt ((I 2437)))) hR rfl rfl rfl rfl ?_
  obtain ⟨r1, r2⟩ : -2147483648 ≤ (I 2437) ∧ (I 2437) ≤ 2147483647 := hR.ri 2437
  refine w_call (cm := 101) (as := [(0, .int (Int32.ofInt ((I 2437))))]) (rest := []) (o := none) rfl (trivial) (c_isFeature ((I 2437)) hR ⟨by omega, by omega⟩) (fun r3 M4 q5 => ?_)
  rcases q5 with ⟨e6, e7, f8⟩ | ⟨e9, e10⟩
  · rw [e6, e7]
    replace f8 : ¬ (I 2437) = 0 := f8
    show w_W _ _ _ (7, [(0, .ref 38), (1, .int (Int32.ofInt (f))), (2, .int (Int32.ofInt (n)))], [.int (Int32.ofInt (1))], M) _
    refine w_adv (n := 2) (F' := (17, [(0, .ref 38), (1, .int (Int32.ofInt (f))), (2, .int (Int32.ofInt (n)))], [.ref 38], M)) rfl ?_
    refine w_gf (v := .int (Int32.ofInt ((I 2437)))) hR rfl rfl rfl rfl ?_
    refine w_adv (n := 1) (F' := (21, [(0, .ref 38), (1, .int (Int32.ofInt (f))), (2, .int (Int32.ofInt (n)))], [.int (Int32.ofInt (4)), .int (Int32.ofInt ((I 2437)))], M)) rfl ?_
    refine w_br2 (a := (I 2437)) (b := 4) rfl rfl ⟨by omega, by omega⟩ ⟨by omega, by omega⟩ (fun h11 => ?_) (fun h11 => ?_)
    · have h11 : ¬ (I 2437) = 4 := h11
      show w_W _ _ _ (28, [(0, .ref 38), (1, .int (Int32.ofInt (f))), (2, .int (Int32.ofInt (n)))], [], M) _
      refine w_adv (n := 6) (F' := (43, [(3, .int (Int32.ofInt (0))), (0, .ref 38), (1, .int (Int32.ofInt (f))), (2, .int (Int32.ofInt (n)))], [.ref 38, .int (Int32.ofInt ((-1)))], M)) rfl ?_
      refine w_gf (v := .int (Int32.ofInt ((I 2438)))) hR rfl rfl rfl rfl ?_
      obtain ⟨r12, r13⟩ : -2147483648 ≤ (I 2438) ∧ (I 2438) ≤ 2147483647 := hR.ri 2438
      refine w_sub rfl ?_
      refine w_int (fun x14 r15 e16 => ?_)
      obtain ⟨r15a, r15b⟩ := r15
      clear e16
      refine w_adv (n := 8) (F' := (79, [(5, .int (Int32.ofInt (0))), (4, .int (Int32.ofInt (x14))), (3, .int (Int32.ofInt (0))), (0, .ref 38), (1, .int (Int32.ofInt (f))), (2, .int (Int32.ofInt (n)))], [.ref 38], M)) rfl ?_
      refine w_gf (v := .ref 26) hR rfl rfl rfl rfl ?_
      refine w_adv (n := 2) (F' := (85, [(5, .int (Int32.ofInt (0))), (4, .int (Int32.ofInt (x14))), (3, .int (Int32.ofInt (0))), (0, .ref 38), (1, .int (Int32.ofInt (f))), (2, .int (Int32.ofInt (n)))], [.int (Int32.ofInt (x14)), .int (Int32.ofInt (f)), .ref 26], M)) rfl ?_
      refine w_call (cm := 104) (as := [(0, .ref 26), (1, .int (Int32.ofInt (f))), (2, .int (Int32.ofInt (x14)))]) (rest := []) (o := some (8, 26)) rfl (w_fitR hR rfl) (c_Tree_has (f) (x14) hR (show 1 ≤ d by omega) ⟨by omega, by omega⟩ ⟨by omega, by omega⟩) (fun r17 M18 q19 => ?_)
      rcases q19 with ⟨e20, e21⟩ | ⟨e22, e23⟩
      · rw [e20, e21]
        show w_W _ _ _ (88, [(5, .int (Int32.ofInt (0))), (4, .int (Int32.ofInt (x14))), (3, .int (Int32.ofInt (0))), (0, .ref 38), (1, .int (Int32.ofInt (f))), (2, .int (Int32.ofInt (n)))], [.int (Int32.ofInt (1))], M) _
        refine w_adv (n := 3) (F' := (93, [(5, .int (Int32.ofInt (0))), (4, .int (Int32.ofInt (x14))), (3, .int (Int32.ofInt (0))), (0, .ref 38), (1, .int (Int32.ofInt (f))), (2, .int (Int32.ofInt (n)))], [.int (Int32.ofInt (2)), .ref 38], M)) rfl ?_
        refine w_call (cm := 100) (as := [(0, .ref 38), (1, .int (Int32.ofInt (2)))]) (rest := []) (o := some (4, 38)) rfl (w_fitR hR rfl) (c_fail (2) hR ⟨by omega, by omega⟩ (show l ≤ 7000000 by first | assumption | omega) (show 1 ≤ 2 ∧ 2 ≤ 7 by first | assumption | omega)) (fun r24 M25 q26 => ?_)
        rcases q26 with ⟨t27, I26a, A26a, B26a, C26a, e28, hR26a, f29, f30, f31⟩
        rw [e28]
        replace hR26a : w_Rep w_TC fr X (u + 6) (l + 64) I26a A26a B26a C26a M25 := hR26a
        replace f29 : c_fi c_ps I I26a := f29
        replace f30 : c_fa c_pa A A26a := f30
        replace f31 : M25.1[t27]? = some (.inr (11, [])) := f31
        exact Or.inr (⟨t27, I26a, A26a, B26a, C26a, rfl, hR26a, (show c_fi c_ps I I26a by exact f29), (show c_fa c_pa A A26a by exact f30), (show M25.1[t27]? = some (.inr (11, [])) by exact f31)⟩)
      · rw [e22, e23]
        show w_W _ _ _ (88, [(5, .int (Int32.ofInt (0))), (4, .int (Int32.ofInt (x14))), (3, .int (Int32.ofInt (0))), (0, .ref 38), (1, .int (Int32.ofInt (f))), (2, .int (Int32.ofInt (n)))], [.int (Int32.ofInt (0))], M) _
        refine w_adv (n := 3) (F' := (100, [(5, .int (Int32.ofInt (0))), (4, .int (Int32.ofInt (x14))), (3, .int (Int32.ofInt (0))), (0, .ref 38), (1, .int (Int32.ofInt (f))), (2, .int (Int32.ofInt (n)))], [.int (Int32.ofInt (32)), .int (Int32.ofInt (n))], M)) rfl ?_
        refine w_br2 (a := n) (b := 32) rfl rfl ⟨by omega, by omega⟩ ⟨by omega, by omega⟩ (fun h32 => ?_) (fun h32 => ?_)
        · have h32 : n ≤ 32 := h32
          show w_W _ _ _ (110, [(5, .int (Int32.ofInt (0))), (4, .int (Int32.ofInt (x14))), (3, .int (Int32.ofInt (0))), (0, .ref 38), (1, .int (Int32.ofInt (f))), (2, .int (Int32.ofInt (n)))], [], M) _
          refine w_adv (n := 3) (F' := (126, [(5, .int (Int32.ofInt (0))), (4, .int (Int32.ofInt (x14))), (3, .int (Int32.ofInt (0))), (0, .ref 38), (1, .int (Int32.ofInt (f))), (2, .int (Int32.ofInt (n)))], [.int (Int32.ofInt (x14))], M)) rfl ?_
          refine w_fin (r := .inl (some (x14))) (M' := M) rfl ?_
          exact Or.inl ⟨x14, rfl, ⟨by omega, by omega⟩, rfl, (show ¬ (I 2437) = 0 by first | assumption | omega)⟩
        · have h32 : ¬ (n ≤ 32) := h32
          show w_W _ _ _ (103, [(5, .int (Int32.ofInt (0))), (4, .int (Int32.ofInt (x14))), (3, .int (Int32.ofInt (0))), (0, .ref 38), (1, .int (Int32.ofInt (f))), (2, .int (Int32.ofInt (n)))], [], M) _
          refine w_adv (n := 2) (F' := (106, [(5, .int (Int32.ofInt (0))), (4, .int (Int32.ofInt (x14))), (3, .int (Int32.ofInt (0))), (0, .ref 38), (1, .int (Int32.ofInt (f))), (2, .int (Int32.ofInt (n)))], [.int (Int32.ofInt (6)), .ref 38], M)) rfl ?_
          refine w_call (cm := 100) (as := [(0, .ref 38), (1, .int (Int32.ofInt (6)))]) (rest := []) (o := some (4, 38)) rfl (w_fitR hR rfl) (c_fail (6) hR ⟨by omega, by omega⟩ (show l ≤ 7000000 by first | assumption | omega) (show 1 ≤ 6 ∧ 6 ≤ 7 by first | assumption | omega)) (fun r33 M34 q35 => ?_)
          rcases q35 with ⟨t36, I35a, A35a, B35a, C35a, e37, hR35a, f38, f39, f40⟩
          rw [e37]
          replace hR35a : w_Rep w_TC fr X (u + 6) (l + 64) I35a A35a B35a C35a M34 := hR35a
          replace f38 : c_fi c_ps I I35a := f38
          replace f39 : c_fa c_pa A A35a := f39
          replace f40 : M34.1[t36]? = some (.inr (11, [])) := f40
          exact Or.inr (⟨t36, I35a, A35a, B35a, C35a, rfl, hR35a, (show c_fi c_ps I I35a by exact f38), (show c_fa c_pa A A35a by exact f39), (show M34.1[t36]? = some (.inr (11, [])) by exact f40)⟩)
    · have h11 : ¬ (¬ (I 2437) = 4) := h11
      show w_W _ _ _ (24, [(0, .ref 38), (1, .int (Int32.ofInt (f))), (2, .int (Int32.ofInt (n)))], [], M) _
      refine w_adv (n := 6) (F' := (35, [(3, .int (Int32.ofInt (1))), (0, .ref 38), (1, .int (Int32.ofInt (f))), (2, .int (Int32.ofInt (n)))], [.ref 38], M)) rfl ?_
      refine w_gf (v := .int (Int32.ofInt ((I 2438)))) hR rfl rfl rfl rfl ?_
      obtain ⟨r41, r42⟩ : -2147483648 ≤ (I 2438) ∧ (I 2438) ≤ 2147483647 := hR.ri 2438
      refine w_adv (n := 6) (F' := (56, [(4, .int (Int32.ofInt ((I 2438)))), (3, .int (Int32.ofInt (1))), (0, .ref 38), (1, .int (Int32.ofInt (f))), (2, .int (Int32.ofInt (n)))], [.int (Int32.ofInt (1)), .int (Int32.ofInt ((I 2438)))], M)) rfl ?_
      refine w_br2 (a := (I 2438)) (b := 1) rfl rfl ⟨by omega, by omega⟩ ⟨by omega, by omega⟩ (fun h43 => ?_) (fun h43 => ?_)
      · have h43 : (I 2438) < 1 := h43
        show w_W _ _ _ (66, [(4, .int (Int32.ofInt ((I 2438)))), (3, .int (Int32.ofInt (1))), (0, .ref 38), (1, .int (Int32.ofInt (f))), (2, .int (Int32.ofInt (n)))], [], M) _
        refine w_adv (n := 7) (F' := (100, [(5, .int (Int32.ofInt (1))), (4, .int (Int32.ofInt ((I 2438)))), (3, .int (Int32.ofInt (1))), (0, .ref 38), (1, .int (Int32.ofInt (f))), (2, .int (Int32.ofInt (n)))], [.int (Int32.ofInt (32)), .int (Int32.ofInt (n))], M)) rfl ?_
        refine w_br2 (a := n) (b := 32) rfl rfl ⟨by omega, by omega⟩ ⟨by omega, by omega⟩ (fun h44 => ?_) (fun h44 => ?_)
        · have h44 : n ≤ 32 := h44
          show w_W _ _ _ (110, [(5, .int (Int32.ofInt (1))), (4, .int (Int32.ofInt ((I 2438)))), (3, .int (Int32.ofInt (1))), (0, .ref 38), (1, .int (Int32.ofInt (f))), (2, .int (Int32.ofInt (n)))], [], M) _
          refine w_adv (n := 4) (F' := (118, [(5, .int (Int32.ofInt (1))), (4, .int (Int32.ofInt ((I 2438)))), (3, .int (Int32.ofInt (1))), (0, .ref 38), (1, .int (Int32.ofInt (f))), (2, .int (Int32.ofInt (n)))], [.int (Int32.ofInt (7)), .ref 38], M)) rfl ?_
          refine w_call (cm := 100) (as := [(0, .ref 38), (1, .int (Int32.ofInt (7)))]) (rest := []) (o := some (4, 38)) rfl (w_fitR hR rfl) (c_fail (7) hR ⟨by omega, by omega⟩ (show l ≤ 7000000 by first | assumption | omega) (show 1 ≤ 7 ∧ 7 ≤ 7 by first | assumption | omega)) (fun r45 M46 q47 => ?_)
          rcases q47 with ⟨t48, I47a, A47a, B47a, C47a, e49, hR47a, f50, f51, f52⟩
          rw [e49]
          replace hR47a : w_Rep w_TC fr X (u + 6) (l + 64) I47a A47a B47a C47a M46 := hR47a
          replace f50 : c_fi c_ps I I47a := f50
          replace f51 : c_fa c_pa A A47a := f51
          replace f52 : M46.1[t48]? = some (.inr (11, [])) := f52
          exact Or.inr (⟨t48, I47a, A47a, B47a, C47a, rfl, hR47a, (show c_fi c_ps I I47a by exact f50), (show c_fa c_pa A A47a by exact f51), (show M46.1[t48]? = some (.inr (11, [])) by exact f52)⟩)
        · have h44 : ¬ (n ≤ 32) := h44
          show w_W _ _ _ (103, [(5, .int (Int32.ofInt (1))), (4, .int (Int32.ofInt ((I 2438)))), (3, .int (Int32.ofInt (1))), (0, .ref 38), (1, .int (Int32.ofInt (f))), (2, .int (Int32.ofInt (n)))], [], M) _
          refine w_adv (n := 2) (F' := (106, [(5, .int (Int32.ofInt (1))), (4, .int (Int32.ofInt ((I 2438)))), (3, .int (Int32.ofInt (1))), (0, .ref 38), (1, .int (Int32.ofInt (f))), (2, .int (Int32.ofInt (n)))], [.int (Int32.ofInt (6)), .ref 38], M)) rfl ?_
          refine w_call (cm := 100) (as := [(0, .ref 38), (1, .int (Int32.ofInt (6)))]) (rest := []) (o := some (4, 38)) rfl (w_fitR hR rfl) (c_fail (6) hR ⟨by omega, by omega⟩ (show l ≤ 7000000 by first | assumption | omega) (show 1 ≤ 6 ∧ 6 ≤ 7 by first | assumption | omega)) (fun r53 M54 q55 => ?_)
          rcases q55 with ⟨t56, I55a, A55a, B55a, C55a, e57, hR55a, f58, f59, f60⟩
          rw [e57]
          replace hR55a : w_Rep w_TC fr X (u + 6) (l + 64) I55a A55a B55a C55a M54 := hR55a
          replace f58 : c_fi c_ps I I55a := f58
          replace f59 : c_fa c_pa A A55a := f59
          replace f60 : M54.1[t56]? = some (.inr (11, [])) := f60
          exact Or.inr (⟨t56, I55a, A55a, B55a, C55a, rfl, hR55a, (show c_fi c_ps I I55a by exact f58), (show c_fa c_pa A A55a by exact f59), (show M54.1[t56]? = some (.inr (11, [])) by exact f60)⟩)
      · have h43 : ¬ ((I 2438) < 1) := h43
        show w_W _ _ _ (59, [(4, .int (Int32.ofInt ((I 2438)))), (3, .int (Int32.ofInt (1))), (0, .ref 38), (1, .int (Int32.ofInt (f))), (2, .int (Int32.ofInt (n)))], [], M) _
        refine w_adv (n := 2) (F' := (63, [(4, .int (Int32.ofInt ((I 2438)))), (3, .int (Int32.ofInt (1))), (0, .ref 38), (1, .int (Int32.ofInt (f))), (2, .int (Int32.ofInt (n)))], [.int (Int32.ofInt (32)), .int (Int32.ofInt ((I 2438)))], M)) rfl ?_
        refine w_br2 (a := (I 2438)) (b := 32) rfl rfl ⟨by omega, by omega⟩ ⟨by omega, by omega⟩ (fun h61 => ?_) (fun h61 => ?_)
        · have h61 : (I 2438) ≤ 32 := h61
          show w_W _ _ _ (70, [(4, .int (Int32.ofInt ((I 2438)))), (3, .int (Int32.ofInt (1))), (0, .ref 38), (1, .int (Int32.ofInt (f))), (2, .int (Int32.ofInt (n)))], [], M) _
          refine w_adv (n := 5) (F' := (79, [(5, .int (Int32.ofInt (0))), (4, .int (Int32.ofInt ((I 2438)))), (3, .int (Int32.ofInt (1))), (0, .ref 38), (1, .int (Int32.ofInt (f))), (2, .int (Int32.ofInt (n)))], [.ref 38], M)) rfl ?_
          refine w_gf (v := .ref 26) hR rfl rfl rfl rfl ?_
          refine w_adv (n := 2) (F' := (85, [(5, .int (Int32.ofInt (0))), (4, .int (Int32.ofInt ((I 2438)))), (3, .int (Int32.ofInt (1))), (0, .ref 38), (1, .int (Int32.ofInt (f))), (2, .int (Int32.ofInt (n)))], [.int (Int32.ofInt ((I 2438))), .int (Int32.ofInt (f)), .ref 26], M)) rfl ?_
          refine w_call (cm := 104) (as := [(0, .ref 26), (1, .int (Int32.ofInt (f))), (2, .int (Int32.ofInt ((I 2438))))]) (rest := []) (o := some (8, 26)) rfl (w_fitR hR rfl) (c_Tree_has (f) ((I 2438)) hR (show 1 ≤ d by omega) ⟨by omega, by omega⟩ ⟨by omega, by omega⟩) (fun r62 M63 q64 => ?_)
          rcases q64 with ⟨e65, e66⟩ | ⟨e67, e68⟩
          · rw [e65, e66]
            show w_W _ _ _ (88, [(5, .int (Int32.ofInt (0))), (4, .int (Int32.ofInt ((I 2438)))), (3, .int (Int32.ofInt (1))), (0, .ref 38), (1, .int (Int32.ofInt (f))), (2, .int (Int32.ofInt (n)))], [.int (Int32.ofInt (1))], M) _
            refine w_adv (n := 3) (F' := (93, [(5, .int (Int32.ofInt (0))), (4, .int (Int32.ofInt ((I 2438)))), (3, .int (Int32.ofInt (1))), (0, .ref 38), (1, .int (Int32.ofInt (f))), (2, .int (Int32.ofInt (n)))], [.int (Int32.ofInt (2)), .ref 38], M)) rfl ?_
            refine w_call (cm := 100) (as := [(0, .ref 38), (1, .int (Int32.ofInt (2)))]) (rest := []) (o := some (4, 38)) rfl (w_fitR hR rfl) (c_fail (2) hR ⟨by omega, by omega⟩ (show l ≤ 7000000 by first | assumption | omega) (show 1 ≤ 2 ∧ 2 ≤ 7 by first | assumption | omega)) (fun r69 M70 q71 => ?_)
            rcases q71 with ⟨t72, I71a, A71a, B71a, C71a, e73, hR71a, f74, f75, f76⟩
            rw [e73]
            replace hR71a : w_Rep w_TC fr X (u + 6) (l + 64) I71a A71a B71a C71a M70 := hR71a
            replace f74 : c_fi c_ps I I71a := f74
            replace f75 : c_fa c_pa A A71a := f75
            replace f76 : M70.1[t72]? = some (.inr (11, [])) := f76
            exact Or.inr (⟨t72, I71a, A71a, B71a, C71a, rfl, hR71a, (show c_fi c_ps I I71a by exact f74), (show c_fa c_pa A A71a by exact f75), (show M70.1[t72]? = some (.inr (11, [])) by exact f76)⟩)
          · rw [e67, e68]
            show w_W _ _ _ (88, [(5, .int (Int32.ofInt (0))), (4, .int (Int32.ofInt ((I 2438)))), (3, .int (Int32.ofInt (1))), (0, .ref 38), (1, .int (Int32.ofInt (f))), (2, .int (Int32.ofInt (n)))], [.int (Int32.ofInt (0))], M) _
            refine w_adv (n := 3) (F' := (100, [(5, .int (Int32.ofInt (0))), (4, .int (Int32.ofInt ((I 2438)))), (3, .int (Int32.ofInt (1))), (0, .ref 38), (1, .int (Int32.ofInt (f))), (2, .int (Int32.ofInt (n)))], [.int (Int32.ofInt (32)), .int (Int32.ofInt (n))], M)) rfl ?_
            refine w_br2 (a := n) (b := 32) rfl rfl ⟨by omega, by omega⟩ ⟨by omega, by omega⟩ (fun h77 => ?_) (fun h77 => ?_)
            · have h77 : n ≤ 32 := h77
              show w_W _ _ _ (110, [(5, .int (Int32.ofInt (0))), (4, .int (Int32.ofInt ((I 2438)))), (3, .int (Int32.ofInt (1))), (0, .ref 38), (1, .int (Int32.ofInt (f))), (2, .int (Int32.ofInt (n)))], [], M) _
              refine w_adv (n := 3) (F' := (126, [(5, .int (Int32.ofInt (0))), (4, .int (Int32.ofInt ((I 2438)))), (3, .int (Int32.ofInt (1))), (0, .ref 38), (1, .int (Int32.ofInt (f))), (2, .int (Int32.ofInt (n)))], [.int (Int32.ofInt ((I 2438)))], M)) rfl ?_
              refine w_fin (r := .inl (some ((I 2438)))) (M' := M) rfl ?_
              exact Or.inl ⟨(I 2438), rfl, ⟨by omega, by omega⟩, rfl, (show ¬ (I 2437) = 0 by first | assumption | omega)⟩
            · have h77 : ¬ (n ≤ 32) := h77
              show w_W _ _ _ (103, [(5, .int (Int32.ofInt (0))), (4, .int (Int32.ofInt ((I 2438)))), (3, .int (Int32.ofInt (1))), (0, .ref 38), (1, .int (Int32.ofInt (f))), (2, .int (Int32.ofInt (n)))], [], M) _
              refine w_adv (n := 2) (F' := (106, [(5, .int (Int32.ofInt (0))), (4, .int (Int32.ofInt ((I 2438)))), (3, .int (Int32.ofInt (1))), (0, .ref 38), (1, .int (Int32.ofInt (f))), (2, .int (Int32.ofInt (n)))], [.int (Int32.ofInt (6)), .ref 38], M)) rfl ?_
              refine w_call (cm := 100) (as := [(0, .ref 38), (1, .int (Int32.ofInt (6)))]) (rest := []) (o := some (4, 38)) rfl (w_fitR hR rfl) (c_fail (6) hR ⟨by omega, by omega⟩ (show l ≤ 7000000 by first | assumption | omega) (show 1 ≤ 6 ∧ 6 ≤ 7 by first | assumption | omega)) (fun r78 M79 q80 => ?_)
              rcases q80 with ⟨t81, I80a, A80a, B80a, C80a, e82, hR80a, f83, f84, f85⟩
              rw [e82]
              replace hR80a : w_Rep w_TC fr X (u + 6) (l + 64) I80a A80a B80a C80a M79 := hR80a
              replace f83 : c_fi c_ps I I80a := f83
              replace f84 : c_fa c_pa A A80a := f84
              replace f85 : M79.1[t81]? = some (.inr (11, [])) := f85
              exact Or.inr (⟨t81, I80a, A80a, B80a, C80a, rfl, hR80a, (show c_fi c_ps I I80a by exact f83), (show c_fa c_pa A A80a by exact f84), (show M79.1[t81]? = some (.inr (11, [])) by exact f85)⟩)
        · have h61 : ¬ ((I 2438) ≤ 32) := h61
          show w_W _ _ _ (66, [(4, .int (Int32.ofInt ((I 2438)))), (3, .int (Int32.ofInt (1))), (0, .ref 38), (1, .int (Int32.ofInt (f))), (2, .int (Int32.ofInt (n)))], [], M) _
          refine w_adv (n := 7) (F' := (100, [(5, .int (Int32.ofInt (1))), (4, .int (Int32.ofInt ((I 2438)))), (3, .int (Int32.ofInt (1))), (0, .ref 38), (1, .int (Int32.ofInt (f))), (2, .int (Int32.ofInt (n)))], [.int (Int32.ofInt (32)), .int (Int32.ofInt (n))], M)) rfl ?_
          refine w_br2 (a := n) (b := 32) rfl rfl ⟨by omega, by omega⟩ ⟨by omega, by omega⟩ (fun h86 => ?_) (fun h86 => ?_)
          · have h86 : n ≤ 32 := h86
            show w_W _ _ _ (110, [(5, .int (Int32.ofInt (1))), (4, .int (Int32.ofInt ((I 2438)))), (3, .int (Int32.ofInt (1))), (0, .ref 38), (1, .int (Int32.ofInt (f))), (2, .int (Int32.ofInt (n)))], [], M) _
            refine w_adv (n := 4) (F' := (118, [(5, .int (Int32.ofInt (1))), (4, .int (Int32.ofInt ((I 2438)))), (3, .int (Int32.ofInt (1))), (0, .ref 38), (1, .int (Int32.ofInt (f))), (2, .int (Int32.ofInt (n)))], [.int (Int32.ofInt (7)), .ref 38], M)) rfl ?_
            refine w_call (cm := 100) (as := [(0, .ref 38), (1, .int (Int32.ofInt (7)))]) (rest := []) (o := some (4, 38)) rfl (w_fitR hR rfl) (c_fail (7) hR ⟨by omega, by omega⟩ (show l ≤ 7000000 by first | assumption | omega) (show 1 ≤ 7 ∧ 7 ≤ 7 by first | assumption | omega)) (fun r87 M88 q89 => ?_)
            rcases q89 with ⟨t90, I89a, A89a, B89a, C89a, e91, hR89a, f92, f93, f94⟩
            rw [e91]
            replace hR89a : w_Rep w_TC fr X (u + 6) (l + 64) I89a A89a B89a C89a M88 := hR89a
            replace f92 : c_fi c_ps I I89a := f92
            replace f93 : c_fa c_pa A A89a := f93
            replace f94 : M88.1[t90]? = some (.inr (11, [])) := f94
            exact Or.inr (⟨t90, I89a, A89a, B89a, C89a, rfl, hR89a, (show c_fi c_ps I I89a by exact f92), (show c_fa c_pa A A89a by exact f93), (show M88.1[t90]? = some (.inr (11, [])) by exact f94)⟩)
          · have h86 : ¬ (n ≤ 32) := h86
            show w_W _ _ _ (103, [(5, .int (Int32.ofInt (1))), (4, .int (Int32.ofInt ((I 2438)))), (3, .int (Int32.ofInt (1))), (0, .ref 38), (1, .int (Int32.ofInt (f))), (2, .int (Int32.ofInt (n)))], [], M) _
            refine w_adv (n := 2) (F' := (106, [(5, .int (Int32.ofInt (1))), (4, .int (Int32.ofInt ((I 2438)))), (3, .int (Int32.ofInt (1))), (0, .ref 38), (1, .int (Int32.ofInt (f))), (2, .int (Int32.ofInt (n)))], [.int (Int32.ofInt (6)), .ref 38], M)) rfl ?_
            refine w_call (cm := 100) (as := [(0, .ref 38), (1, .int (Int32.ofInt (6)))]) (rest := []) (o := some (4, 38)) rfl (w_fitR hR rfl) (c_fail (6) hR ⟨by omega, by omega⟩ (show l ≤ 7000000 by first | assumption | omega) (show 1 ≤ 6 ∧ 6 ≤ 7 by first | assumption | omega)) (fun r95 M96 q97 => ?_)
            rcases q97 with ⟨t98, I97a, A97a, B97a, C97a, e99, hR97a, f100, f101, f102⟩
            rw [e99]
            replace hR97a : w_Rep w_TC fr X (u + 6) (l + 64) I97a A97a B97a C97a M96 := hR97a
            replace f100 : c_fi c_ps I I97a := f100
            replace f101 : c_fa c_pa A A97a := f101
            replace f102 : M96.1[t98]? = some (.inr (11, [])) := f102
            exact Or.inr (⟨t98, I97a, A97a, B97a, C97a, rfl, hR97a, (show c_fi c_ps I I97a by exact f100), (show c_fa c_pa A A97a by exact f101), (show M96.1[t98]? = some (.inr (11, [])) by exact f102)⟩)
  · rw [e9, e10]
    show w_W _ _ _ (7, [(0, .ref 38), (1, .int (Int32.ofInt (f))), (2, .int (Int32.ofInt (n)))], [.int (Int32.ofInt (0))], M) _
    refine w_adv (n := 3) (F' := (12, [(0, .ref 38), (1, .int (Int32.ofInt (f))), (2, .int (Int32.ofInt (n)))], [.int (Int32.ofInt (1)), .ref 38], M)) rfl ?_
    refine w_call (cm := 100) (as := [(0, .ref 38), (1, .int (Int32.ofInt (1)))]) (rest := []) (o := some (4, 38)) rfl (w_fitR hR rfl) (c_fail (1) hR ⟨by omega, by omega⟩ (show l ≤ 7000000 by first | assumption | omega) (show 1 ≤ 1 ∧ 1 ≤ 7 by first | assumption | omega)) (fun r103 M104 q105 => ?_)
    rcases q105 with ⟨t106, I105a, A105a, B105a, C105a, e107, hR105a, f108, f109, f110⟩
    rw [e107]
    replace hR105a : w_Rep w_TC fr X (u + 6) (l + 64) I105a A105a B105a C105a M104 := hR105a
    replace f108 : c_fi c_ps I I105a := f108
    replace f109 : c_fa c_pa A A105a := f109
    replace f110 : M104.1[t106]? = some (.inr (11, [])) := f110
    exact Or.inr (⟨t106, I105a, A105a, B105a, C105a, rfl, hR105a, (show c_fi c_ps I I105a by exact f108), (show c_fa c_pa A A105a by exact f109), (show M104.1[t106]? = some (.inr (11, [])) by exact f110)⟩)
def c_refuseExp_Q (fr : Nat → Bool) (X : Nat → Option (q_C (Nat → Int32))) (u l : Nat) (I : Nat → Int) (A : Nat → Int → Int) (B C : Nat → Nat) (M : w_M) : w_X → w_M → Prop := fun r M' => (∃ t : Nat, ∃ (I' : Nat → Int) (A' : Nat → Int → Int) (B' C' : Nat → Nat), (r = .inr t) ∧ (w_Rep w_TC fr X (u + 6) (l + 64) I' A' B' C' M') ∧ (c_fi c_ps I I') ∧ (c_fa c_pa A A') ∧ (M'.1[t]? = some (.inr (11, []))))
set_option maxHeartbeats 100000000 in
set_option maxRecDepth 100000 in
theorem c_refuseExp {L : Nat} {xs : Nat → Int32} {d : Nat} {fr : Nat → Bool} {X : Nat → Option (q_C (Nat → Int32))} {u l : Nat} {I : Nat → Int} {A : Nat → Int → Int} {B C : Nat → Nat} {M : w_M} (hR : w_Rep w_TC fr X u l I A B C M) (hd : 4 ≤ d) (hl : l ≤ 7000000) : w_W (z_P L xs) d 108 (0, [(0, .ref 38)], [], M) (c_refuseExp_Q fr X u l I A B C M) := by
  obtain ⟨d, rfl⟩ : ∃ d0, d = d0 + 1 := ⟨d - 1, by omega⟩
  refine w_adv (n := 1) (F' := (1, [(0, .ref 38)], [.ref 38], M)) rfl ?_
  refine w_gf (v := .int (Int32.ofInt ((I 2437)))) hR rfl rfl rfl rfl ?_
  obtain ⟨r1, r2⟩ : -2147483648 ≤ (I 2437) ∧ (I 2437) ≤ 2147483647 := hR.ri 2437
  refine w_call (cm := 109) (as := [(0, .int (Int32.ofInt ((I 2437))))]) (rest := []) (o := none) rfl (trivial) (c_beginsExp ((I 2437)) hR (show 1 ≤ d by omega) ⟨by omega, by omega⟩) (fun r3 M4 q5 => ?_)
  rcases q5 with ⟨e6, e7, f8⟩ | ⟨e9, e10⟩
  · rw [e6, e7]
    replace f8 : ¬ (I 2437) = 0 := f8
    show w_W _ _ _ (7, [(0, .ref 38)], [.int (Int32.ofInt (1))], M) _
    refine w_adv (n := 2) (F' := (17, [(0, .ref 38)], [.ref 38], M)) rfl ?_
    refine w_gf (v := .int (Int32.ofInt ((I 2437)))) hR rfl rfl rfl rfl ?_
    refine w_adv (n := 1) (F' := (21, [(0, .ref 38)], [.int (Int32.ofInt (2)), .int (Int32.ofInt ((I 2437)))], M)) rfl ?_
    refine w_br2 (a := (I 2437)) (b := 2) rfl rfl ⟨by omega, by omega⟩ ⟨by omega, by omega⟩ (fun h11 => ?_) (fun h11 => ?_)
    · have h11 : ¬ (I 2437) = 2 := h11
      show w_W _ _ _ (29, [(0, .ref 38)], [], M) _
      refine w_adv (n := 1) (F' := (30, [(0, .ref 38)], [.ref 38], M)) rfl ?_
      refine w_gf (v := .int (Int32.ofInt ((I 2439)))) hR rfl rfl rfl rfl ?_
      obtain ⟨r12, r13⟩ : -2147483648 ≤ (I 2439) ∧ (I 2439) ≤ 2147483647 := hR.ri 2439
      refine w_adv (n := 1) (F' := (35, [(0, .ref 38)], [.int (Int32.ofInt (24)), .int (Int32.ofInt ((I 2439)))], M)) rfl ?_
      refine w_br2 (a := (I 2439)) (b := 24) rfl rfl ⟨by omega, by omega⟩ ⟨by omega, by omega⟩ (fun h14 => ?_) (fun h14 => ?_)
      · have h14 : (I 2439) < 24 := h14
        show w_W _ _ _ (54, [(0, .ref 38)], [], M) _
        refine w_adv (n := 2) (F' := (57, [(0, .ref 38)], [.int (Int32.ofInt (6)), .ref 38], M)) rfl ?_
        refine w_call (cm := 100) (as := [(0, .ref 38), (1, .int (Int32.ofInt (6)))]) (rest := []) (o := some (4, 38)) rfl (w_fitR hR rfl) (c_fail (6) hR ⟨by omega, by omega⟩ (show l ≤ 7000000 by first | assumption | omega) (show 1 ≤ 6 ∧ 6 ≤ 7 by first | assumption | omega)) (fun r15 M16 q17 => ?_)
        rcases q17 with ⟨t18, I17a, A17a, B17a, C17a, e19, hR17a, f20, f21, f22⟩
        rw [e19]
        replace hR17a : w_Rep w_TC fr X (u + 6) (l + 64) I17a A17a B17a C17a M16 := hR17a
        replace f20 : c_fi c_ps I I17a := f20
        replace f21 : c_fa c_pa A A17a := f21
        replace f22 : M16.1[t18]? = some (.inr (11, [])) := f22
        exact ⟨t18, I17a, A17a, B17a, C17a, rfl, hR17a, (show c_fi c_ps I I17a by exact f20), (show c_fa c_pa A A17a by exact f21), (show M16.1[t18]? = some (.inr (11, [])) by exact f22)⟩
      · have h14 : ¬ ((I 2439) < 24) := h14
        show w_W _ _ _ (38, [(0, .ref 38)], [], M) _
        refine w_adv (n := 1) (F' := (39, [(0, .ref 38)], [.ref 38], M)) rfl ?_
        refine w_gf (v := .int (Int32.ofInt ((I 2437)))) hR rfl rfl rfl rfl ?_
        refine w_call (cm := 110) (as := [(0, .int (Int32.ofInt ((I 2437))))]) (rest := []) (o := none) rfl (trivial) (c_opens ((I 2437)) hR ⟨by omega, by omega⟩) (fun r23 M24 q25 => ?_)
        rcases q25 with ⟨e26, e27, f28⟩ | ⟨e29, e30⟩
        · rw [e26, e27]
          replace f28 : ¬ (I 2437) = 0 := f28
          show w_W _ _ _ (45, [(0, .ref 38)], [.int (Int32.ofInt (1))], M) _
          refine w_adv (n := 3) (F' := (50, [(0, .ref 38)], [.int (Int32.ofInt (5)), .ref 38], M)) rfl ?_
          refine w_call (cm := 100) (as := [(0, .ref 38), (1, .int (Int32.ofInt (5)))]) (rest := []) (o := some (4, 38)) rfl (w_fitR hR rfl) (c_fail (5) hR ⟨by omega, by omega⟩ (show l ≤ 7000000 by first | assumption | omega) (show 1 ≤ 5 ∧ 5 ≤ 7 by first | assumption | omega)) (fun r31 M32 q33 => ?_)
          rcases q33 with ⟨t34, I33a, A33a, B33a, C33a, e35, hR33a, f36, f37, f38⟩
          rw [e35]
          replace hR33a : w_Rep w_TC fr X (u + 6) (l + 64) I33a A33a B33a C33a M32 := hR33a
          replace f36 : c_fi c_ps I I33a := f36
          replace f37 : c_fa c_pa A A33a := f37
          replace f38 : M32.1[t34]? = some (.inr (11, [])) := f38
          exact ⟨t34, I33a, A33a, B33a, C33a, rfl, hR33a, (show c_fi c_ps I I33a by exact f36), (show c_fa c_pa A A33a by exact f37), (show M32.1[t34]? = some (.inr (11, [])) by exact f38)⟩
        · rw [e29, e30]
          show w_W _ _ _ (45, [(0, .ref 38)], [.int (Int32.ofInt (0))], M) _
          refine w_adv (n := 3) (F' := (57, [(0, .ref 38)], [.int (Int32.ofInt (6)), .ref 38], M)) rfl ?_
          refine w_call (cm := 100) (as := [(0, .ref 38), (1, .int (Int32.ofInt (6)))]) (rest := []) (o := some (4, 38)) rfl (w_fitR hR rfl) (c_fail (6) hR ⟨by omega, by omega⟩ (show l ≤ 7000000 by first | assumption | omega) (show 1 ≤ 6 ∧ 6 ≤ 7 by first | assumption | omega)) (fun r39 M40 q41 => ?_)
          rcases q41 with ⟨t42, I41a, A41a, B41a, C41a, e43, hR41a, f44, f45, f46⟩
          rw [e43]
          replace hR41a : w_Rep w_TC fr X (u + 6) (l + 64) I41a A41a B41a C41a M40 := hR41a
          replace f44 : c_fi c_ps I I41a := f44
          replace f45 : c_fa c_pa A A41a := f45
          replace f46 : M40.1[t42]? = some (.inr (11, [])) := f46
          exact ⟨t42, I41a, A41a, B41a, C41a, rfl, hR41a, (show c_fi c_ps I I41a by exact f44), (show c_fa c_pa A A41a by exact f45), (show M40.1[t42]? = some (.inr (11, [])) by exact f46)⟩
    · have h11 : ¬ (¬ (I 2437) = 2) := h11
      show w_W _ _ _ (24, [(0, .ref 38)], [], M) _
      refine w_adv (n := 1) (F' := (25, [(0, .ref 38)], [.ref 38], M)) rfl ?_
      refine w_call (cm := 111) (as := [(0, .ref 38)]) (rest := []) (o := some (4, 38)) rfl (w_fitR hR rfl) (c_meaning hR (show 3 ≤ d by omega) (show l ≤ 7000000 by first | assumption | omega)) (fun r47 M48 q49 => ?_)
      rcases q49 with ⟨v50, zm51, e52, ⟨r53, r54⟩, hR49a⟩ | ⟨t55, I49b, A49b, B49b, C49b, e56, hR49b, f57, f58, f59⟩
      · rw [e52]
        replace hR49a : w_Rep w_TC fr X u l (w_up I 2440 (zm51)) A B C M48 := hR49a
        show w_W _ _ _ (28, [(0, .ref 38)], [.int (Int32.ofInt (v50))], M48) _
        refine w_adv (n := 2) (F' := (30, [(0, .ref 38)], [.ref 38], M48)) rfl ?_
        refine w_gf (v := .int (Int32.ofInt ((I 2439)))) hR49a rfl rfl rfl rfl ?_
        obtain ⟨r60, r61⟩ : -2147483648 ≤ (I 2439) ∧ (I 2439) ≤ 2147483647 := hR49a.ri 2439
        refine w_adv (n := 1) (F' := (35, [(0, .ref 38)], [.int (Int32.ofInt (24)), .int (Int32.ofInt ((I 2439)))], M48)) rfl ?_
        refine w_br2 (a := (I 2439)) (b := 24) rfl rfl ⟨by omega, by omega⟩ ⟨by omega, by omega⟩ (fun h62 => ?_) (fun h62 => ?_)
        · have h62 : (I 2439) < 24 := h62
          show w_W _ _ _ (54, [(0, .ref 38)], [], M48) _
          refine w_adv (n := 2) (F' := (57, [(0, .ref 38)], [.int (Int32.ofInt (6)), .ref 38], M48)) rfl ?_
          refine w_call (cm := 100) (as := [(0, .ref 38), (1, .int (Int32.ofInt (6)))]) (rest := []) (o := some (4, 38)) rfl (w_fitR hR49a rfl) (c_fail (6) hR49a ⟨by omega, by omega⟩ (show l ≤ 7000000 by first | assumption | omega) (show 1 ≤ 6 ∧ 6 ≤ 7 by first | assumption | omega)) (fun r63 M64 q65 => ?_)
          rcases q65 with ⟨t66, I65a, A65a, B65a, C65a, e67, hR65a, f68, f69, f70⟩
          rw [e67]
          replace hR65a : w_Rep w_TC fr X (u + 6) (l + 64) I65a A65a B65a C65a M64 := hR65a
          replace f68 : c_fi c_ps (w_up I 2440 (zm51)) I65a := f68
          replace f69 : c_fa c_pa A A65a := f69
          replace f70 : M64.1[t66]? = some (.inr (11, [])) := f70
          exact ⟨t66, I65a, A65a, B65a, C65a, rfl, hR65a, (show c_fi c_ps I I65a by exact (c_fi_trans (c_fi_up c_fi_refl rfl) f68)), (show c_fa c_pa A A65a by exact f69), (show M64.1[t66]? = some (.inr (11, [])) by exact f70)⟩
        · have h62 : ¬ ((I 2439) < 24) := h62
          show w_W _ _ _ (38, [(0, .ref 38)], [], M48) _
          refine w_adv (n := 1) (F' := (39, [(0, .ref 38)], [.ref 38], M48)) rfl ?_
          refine w_gf (v := .int (Int32.ofInt ((I 2437)))) hR49a rfl rfl rfl rfl ?_
          refine w_call (cm := 110) (as := [(0, .int (Int32.ofInt ((I 2437))))]) (rest := []) (o := none) rfl (trivial) (c_opens ((I 2437)) hR49a ⟨by omega, by omega⟩) (fun r71 M72 q73 => ?_)
          rcases q73 with ⟨e74, e75, f76⟩ | ⟨e77, e78⟩
          · rw [e74, e75]
            replace f76 : ¬ (I 2437) = 0 := f76
            show w_W _ _ _ (45, [(0, .ref 38)], [.int (Int32.ofInt (1))], M48) _
            refine w_adv (n := 3) (F' := (50, [(0, .ref 38)], [.int (Int32.ofInt (5)), .ref 38], M48)) rfl ?_
            refine w_call (cm := 100) (as := [(0, .ref 38), (1, .int (Int32.ofInt (5)))]) (rest := []) (o := some (4, 38)) rfl (w_fitR hR49a rfl) (c_fail (5) hR49a ⟨by omega, by omega⟩ (show l ≤ 7000000 by first | assumption | omega) (show 1 ≤ 5 ∧ 5 ≤ 7 by first | assumption | omega)) (fun r79 M80 q81 => ?_)
            rcases q81 with ⟨t82, I81a, A81a, B81a, C81a, e83, hR81a, f84, f85, f86⟩
            rw [e83]
            replace hR81a : w_Rep w_TC fr X (u + 6) (l + 64) I81a A81a B81a C81a M80 := hR81a
            replace f84 : c_fi c_ps (w_up I 2440 (zm51)) I81a := f84
            replace f85 : c_fa c_pa A A81a := f85
            replace f86 : M80.1[t82]? = some (.inr (11, [])) := f86
            exact ⟨t82, I81a, A81a, B81a, C81a, rfl, hR81a, (show c_fi c_ps I I81a by exact (c_fi_trans (c_fi_up c_fi_refl rfl) f84)), (show c_fa c_pa A A81a by exact f85), (show M80.1[t82]? = some (.inr (11, [])) by exact f86)⟩
          · rw [e77, e78]
            show w_W _ _ _ (45, [(0, .ref 38)], [.int (Int32.ofInt (0))], M48) _
            refine w_adv (n := 3) (F' := (57, [(0, .ref 38)], [.int (Int32.ofInt (6)), .ref 38], M48)) rfl ?_
            refine w_call (cm := 100) (as := [(0, .ref 38), (1, .int (Int32.ofInt (6)))]) (rest := []) (o := some (4, 38)) rfl (w_fitR hR49a rfl) (c_fail (6) hR49a ⟨by omega, by omega⟩ (show l ≤ 7000000 by first | assumption | omega) (show 1 ≤ 6 ∧ 6 ≤ 7 by first | assumption | omega)) (fun r87 M88 q89 => ?_)
            rcases q89 with ⟨t90, I89a, A89a, B89a, C89a, e91, hR89a, f92, f93, f94⟩
            rw [e91]
            replace hR89a : w_Rep w_TC fr X (u + 6) (l + 64) I89a A89a B89a C89a M88 := hR89a
            replace f92 : c_fi c_ps (w_up I 2440 (zm51)) I89a := f92
            replace f93 : c_fa c_pa A A89a := f93
            replace f94 : M88.1[t90]? = some (.inr (11, [])) := f94
            exact ⟨t90, I89a, A89a, B89a, C89a, rfl, hR89a, (show c_fi c_ps I I89a by exact (c_fi_trans (c_fi_up c_fi_refl rfl) f92)), (show c_fa c_pa A A89a by exact f93), (show M88.1[t90]? = some (.inr (11, [])) by exact f94)⟩
      · rw [e56]
        replace hR49b : w_Rep w_TC fr X (u + 6) (l + 64) I49b A49b B49b C49b M48 := hR49b
        replace f57 : c_fi c_ps I I49b := f57
        replace f58 : c_fa c_pa A A49b := f58
        replace f59 : M48.1[t55]? = some (.inr (11, [])) := f59
        exact ⟨t55, I49b, A49b, B49b, C49b, rfl, hR49b, (show c_fi c_ps I I49b by exact f57), (show c_fa c_pa A A49b by exact f58), (show M48.1[t55]? = some (.inr (11, [])) by exact f59)⟩
  · rw [e9, e10]
    show w_W _ _ _ (7, [(0, .ref 38)], [.int (Int32.ofInt (0))], M) _
    refine w_adv (n := 3) (F' := (12, [(0, .ref 38)], [.int (Int32.ofInt (1)), .ref 38], M)) rfl ?_
    refine w_call (cm := 100) (as := [(0, .ref 38), (1, .int (Int32.ofInt (1)))]) (rest := []) (o := some (4, 38)) rfl (w_fitR hR rfl) (c_fail (1) hR ⟨by omega, by omega⟩ (show l ≤ 7000000 by first | assumption | omega) (show 1 ≤ 1 ∧ 1 ≤ 7 by first | assumption | omega)) (fun r95 M96 q97 => ?_)
    rcases q97 with ⟨t98, I97a, A97a, B97a, C97a, e99, hR97a, f100, f101, f102⟩
    rw [e99]
    replace hR97a : w_Rep w_TC fr X (u + 6) (l + 64) I97a A97a B97a C97a M96 := hR97a
    replace f100 : c_fi c_ps I I97a := f100
    replace f101 : c_fa c_pa A A97a := f101
    replace f102 : M96.1[t98]? = some (.inr (11, [])) := f102
    exact ⟨t98, I97a, A97a, B97a, C97a, rfl, hR97a, (show c_fi c_ps I I97a by exact f100), (show c_fa c_pa A A97a by exact f101), (show M96.1[t98]? = some (.inr (11, [])) by exact f102)⟩
def c_bind_Q (fr : Nat → Bool) (X : Nat → Option (q_C (Nat → Int32))) (u l : Nat) (I : Nat → Int) (A : Nat → Int → Int) (B C : Nat → Nat) (M : w_M) (f : Int) (n : Int) : w_X → w_M → Prop := fun r M' => (∃ v : Int, ∃ A' : Nat → Int → Int, ∃ zs : Int, (r = .inl (some v)) ∧ (w_in v) ∧ (w_Rep w_TC fr X u l (w_up I 2117 (zs)) A' B C M') ∧ (c_fa c_pa A A') ∧ (c_ags A A') ∧ (0 ≤ zs ∧ -1 ≤ v ∧ v ≤ 1508)) ∨ (∃ t : Nat, ∃ (I' : Nat → Int) (A' : Nat → Int → Int) (B' C' : Nat → Nat), (r = .inr t) ∧ (w_Rep w_TC fr X (u + 6) (l + 64) I' A' B' C' M') ∧ (c_fi c_ps I I') ∧ (c_fa c_pa A A') ∧ (M'.1[t]? = some (.inr (11, []))))
set_option maxHeartbeats 100000000 in
set_option maxRecDepth 100000 in
theorem c_bind {L : Nat} {xs : Nat → Int32} {d : Nat} {fr : Nat → Bool} {X : Nat → Option (q_C (Nat → Int32))} {u l : Nat} {I : Nat → Int} {A : Nat → Int → Int} {B C : Nat → Nat} {M : w_M} (f : Int) (n : Int) (hR : w_Rep w_TC fr X u l I A B C M) (hd : 3 ≤ d) (r_f : w_in f) (r_n : w_in n) (hl : l ≤ 7000000) (hs : 0 ≤ (I 2117)) : w_W (z_P L xs) d 120 (0, [(0, .ref 38), (1, .int (Int32.ofInt (f))), (2, .int (Int32.ofInt (n)))], [], M) (c_bind_Q fr X u l I A B C M f n) := by
  obtain ⟨ra_f, rb_f⟩ := r_f
  obtain ⟨ra_n, rb_n⟩ := r_n
  obtain ⟨d, rfl⟩ : ∃ d0, d = d0 + 1 := ⟨d - 1, by omega⟩
  refine w_adv (n := 1) (F' := (1, [(0, .ref 38), (1, .int (Int32.ofInt (f))), (2, .int (Int32.ofInt (n)))], [.ref 38], M)) rfl ?_
  refine w_gf (v := .ref 33) hR rfl rfl rfl rfl ?_
  refine w_adv (n := 1) (F' := (5, [(0, .ref 38), (1, .int (Int32.ofInt (f))), (2, .int (Int32.ofInt (n)))], [.ref 38, .ref 33], M)) rfl ?_
  refine w_gf (v := .int (Int32.ofInt ((I 2438)))) hR rfl rfl rfl rfl ?_
  obtain ⟨r1, r2⟩ : -2147483648 ≤ (I 2438) ∧ (I 2438) ≤ 2147483647 := hR.ri 2438
  refine w_call (cm := 112) (as := [(0, .ref 33), (1, .int (Int32.ofInt ((I 2438))))]) (rest := []) (o := some (5, 33)) rfl (w_fitR hR rfl) (c_Scope_meaning ((I 2438)) hR (show 2 ≤ d by omega) ⟨by omega, by omega⟩) (fun r3 M4 q5 => ?_)
  rcases q5 with ⟨v6, e7, ⟨r8, r9⟩, e10⟩
  rw [e7, e10]
  show w_W _ _ _ (11, [(0, .ref 38), (1, .int (Int32.ofInt (f))), (2, .int (Int32.ofInt (n)))], [.int (Int32.ofInt (v6))], M) _
  refine w_adv (n := 1) (F' := (12, [(0, .ref 38), (1, .int (Int32.ofInt (f))), (2, .int (Int32.ofInt (n)))], [.int (Int32.ofInt (f)), .int (Int32.ofInt (v6))], M)) rfl ?_
  refine w_br2 (a := v6) (b := f) rfl rfl ⟨by omega, by omega⟩ ⟨by omega, by omega⟩ (fun h11 => ?_) (fun h11 => ?_)
  · have h11 : v6 < f := h11
    show w_W _ _ _ (21, [(0, .ref 38), (1, .int (Int32.ofInt (f))), (2, .int (Int32.ofInt (n)))], [], M) _
    refine w_adv (n := 2) (F' := (24, [(0, .ref 38), (1, .int (Int32.ofInt (f))), (2, .int (Int32.ofInt (n)))], [.int (Int32.ofInt (32)), .int (Int32.ofInt (n))], M)) rfl ?_
    refine w_br2 (a := n) (b := 32) rfl rfl ⟨by omega, by omega⟩ ⟨by omega, by omega⟩ (fun h12 => ?_) (fun h12 => ?_)
    · have h12 : n ≤ 32 := h12
      show w_W _ _ _ (36, [(0, .ref 38), (1, .int (Int32.ofInt (f))), (2, .int (Int32.ofInt (n)))], [], M) _
      refine w_adv (n := 1) (F' := (37, [(0, .ref 38), (1, .int (Int32.ofInt (f))), (2, .int (Int32.ofInt (n)))], [.ref 38], M)) rfl ?_
      refine w_gf (v := .ref 33) hR rfl rfl rfl rfl ?_
      refine w_adv (n := 1) (F' := (41, [(0, .ref 38), (1, .int (Int32.ofInt (f))), (2, .int (Int32.ofInt (n)))], [.ref 38, .ref 33], M)) rfl ?_
      refine w_gf (v := .int (Int32.ofInt ((I 2438)))) hR rfl rfl rfl rfl ?_
      refine w_call (cm := 78) (as := [(0, .ref 33), (1, .int (Int32.ofInt ((I 2438))))]) (rest := []) (o := some (5, 33)) rfl (w_fitR hR rfl) (c_bnd ((I 2438)) hR ⟨by omega, by omega⟩ (show 0 ≤ (I 2117) by first | assumption | omega)) (fun r13 M14 q15 => ?_)
      rcases q15 with ⟨v16, A17, zs18, e19, ⟨r20, r21⟩, hR15a, f22, f23, f24⟩
      rw [e19]
      replace hR15a : w_Rep w_TC fr X u l (w_up I 2117 (zs18)) A17 B C M14 := hR15a
      replace f22 : c_fa c_pa A A17 := f22
      replace f23 : c_ags A A17 := f23
      replace f24 : 0 ≤ zs18 ∧ -1 ≤ v16 ∧ v16 ≤ 1508 := f24
      obtain ⟨n25, n26, n27⟩ := id f24
      clear f24
      skip
      show w_W _ _ _ (47, [(0, .ref 38), (1, .int (Int32.ofInt (f))), (2, .int (Int32.ofInt (n)))], [.int (Int32.ofInt (v16))], M14) _
      refine w_fin (r := .inl (some (v16))) (M' := M14) rfl ?_
      exact Or.inl ⟨v16, A17, zs18, rfl, ⟨by omega, by omega⟩, hR15a, (show c_fa c_pa A A17 by exact f22), (show c_ags A A17 by exact f23), (show 0 ≤ zs18 ∧ -1 ≤ v16 ∧ v16 ≤ 1508 by first | assumption | omega)⟩
    · have h12 : ¬ (n ≤ 32) := h12
      show w_W _ _ _ (27, [(0, .ref 38), (1, .int (Int32.ofInt (f))), (2, .int (Int32.ofInt (n)))], [], M) _
      refine w_adv (n := 2) (F' := (30, [(0, .ref 38), (1, .int (Int32.ofInt (f))), (2, .int (Int32.ofInt (n)))], [.int (Int32.ofInt (6)), .ref 38], M)) rfl ?_
      refine w_call (cm := 100) (as := [(0, .ref 38), (1, .int (Int32.ofInt (6)))]) (rest := []) (o := some (4, 38)) rfl (w_fitR hR rfl) (c_fail (6) hR ⟨by omega, by omega⟩ (show l ≤ 7000000 by first | assumption | omega) (show 1 ≤ 6 ∧ 6 ≤ 7 by first | assumption | omega)) (fun r28 M29 q30 => ?_)
      rcases q30 with ⟨t31, I30a, A30a, B30a, C30a, e32, hR30a, f33, f34, f35⟩
      rw [e32]
      replace hR30a : w_Rep w_TC fr X (u + 6) (l + 64) I30a A30a B30a C30a M29 := hR30a
      replace f33 : c_fi c_ps I I30a := f33
      replace f34 : c_fa c_pa A A30a := f34
      replace f35 : M29.1[t31]? = some (.inr (11, [])) := f35
      exact Or.inr (⟨t31, I30a, A30a, B30a, C30a, rfl, hR30a, (show c_fi c_ps I I30a by exact f33), (show c_fa c_pa A A30a by exact f34), (show M29.1[t31]? = some (.inr (11, [])) by exact f35)⟩)
  · have h11 : ¬ (v6 < f) := h11
    show w_W _ _ _ (15, [(0, .ref 38), (1, .int (Int32.ofInt (f))), (2, .int (Int32.ofInt (n)))], [], M) _
    refine w_adv (n := 2) (F' := (17, [(0, .ref 38), (1, .int (Int32.ofInt (f))), (2, .int (Int32.ofInt (n)))], [.int (Int32.ofInt (4)), .ref 38], M)) rfl ?_
    refine w_call (cm := 100) (as := [(0, .ref 38), (1, .int (Int32.ofInt (4)))]) (rest := []) (o := some (4, 38)) rfl (w_fitR hR rfl) (c_fail (4) hR ⟨by omega, by omega⟩ (show l ≤ 7000000 by first | assumption | omega) (show 1 ≤ 4 ∧ 4 ≤ 7 by first | assumption | omega)) (fun r36 M37 q38 => ?_)
    rcases q38 with ⟨t39, I38a, A38a, B38a, C38a, e40, hR38a, f41, f42, f43⟩
    rw [e40]
    replace hR38a : w_Rep w_TC fr X (u + 6) (l + 64) I38a A38a B38a C38a M37 := hR38a
    replace f41 : c_fi c_ps I I38a := f41
    replace f42 : c_fa c_pa A A38a := f42
    replace f43 : M37.1[t39]? = some (.inr (11, [])) := f43
    exact Or.inr (⟨t39, I38a, A38a, B38a, C38a, rfl, hR38a, (show c_fi c_ps I I38a by exact f41), (show c_fa c_pa A A38a by exact f42), (show M37.1[t39]? = some (.inr (11, [])) by exact f43)⟩)
