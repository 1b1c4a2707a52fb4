/-! BUILDER of the class: operations. -/
def c_await_Q (fr : Nat → Bool) (X : Nat → Option (q_C (Nat → Int32))) (u l : Nat) (I : Nat → Int) (A : Nat → Int → Int) (B C : Nat → Nat) (M : w_M) (n : Int) : w_X → w_M → Prop := fun r M' => (∃ (I' : Nat → Int) (A' : Nat → Int → Int) (B' C' : Nat → Nat), (r = .inl none) ∧ (w_Rep w_TC fr X u l I' A' B' C' M') ∧ (c_bz I A I' A' 0 0 (I 2503)) ∧ ((I' 2503) = (I 2503) + 1 ∧ (0 ≤ (I' 1035) ∧ (I' 1035) ≤ 10000) ∧ (I' 200) = (I 200) ∧ (I' 202) = (I 202)) ∧ (c_awt A A' (I 2503) n))
set_option maxHeartbeats 100000000 in
set_option maxRecDepth 100000 in
theorem c_await {L : Nat} {xs : Nat → Int32} {d : Nat} {fr : Nat → Bool} {X : Nat → Option (q_C (Nat → Int32))} {u l : Nat} {I : Nat → Int} {A : Nat → Int → Int} {B C : Nat → Nat} {M : w_M} (n : Int) (hR : w_Rep w_TC fr X u l I A B C M) (hd : 1 ≤ d) (r_n : w_in n) (hKI : 0 ≤ (I 1035) ∧ (I 1035) ≤ 10000) (hW0 : 0 ≤ (I 2503) ∧ (I 2503) ≤ 2000000) : w_W (z_P L xs) d 171 (0, [(0, .ref 39), (1, .int (Int32.ofInt (n)))], [], M) (c_await_Q fr X u l I A B C M n) := by
  obtain ⟨ra_n, rb_n⟩ := r_n
  obtain ⟨d, rfl⟩ : ∃ d0, d = d0 + 1 := ⟨d - 1, by omega⟩
  refine w_adv (n := 1) (F' := (1, [(0, .ref 39), (1, .int (Int32.ofInt (n)))], [.ref 39], M)) rfl ?_
  refine w_gf (v := .ref 41) hR rfl rfl rfl rfl ?_
  refine w_adv (n := 1) (F' := (5, [(0, .ref 39), (1, .int (Int32.ofInt (n)))], [.ref 39, .ref 41], M)) rfl ?_
  refine w_gf (v := .int (Int32.ofInt ((I 2503)))) hR rfl rfl rfl rfl ?_
  obtain ⟨r1, r2⟩ : -2147483648 ≤ (I 2503) ∧ (I 2503) ≤ 2147483647 := hR.ri 2503
  refine w_adv (n := 1) (F' := (9, [(0, .ref 39), (1, .int (Int32.ofInt (n)))], [.int (Int32.ofInt (n)), .int (Int32.ofInt ((I 2503))), .ref 41], M)) rfl ?_
  refine w_call (cm := 25) (as := [(0, .ref 41), (1, .int (Int32.ofInt ((I 2503)))), (2, .int (Int32.ofInt (n)))]) (rest := []) (o := none) rfl (trivial) (c_set ((I 2503)) (n) 41 1500 rfl (by decide) hR ⟨by omega, by omega⟩ ⟨by omega, by omega⟩) (fun r3 M4 q5 => ?_)
  rcases q5 with ⟨e6, hR5a⟩
  rw [e6]
  replace hR5a : w_Rep w_TC fr X u l I (w_upF A 41 (w_upG 1500 (A 41) ((I 2503)) (n))) B C M4 := hR5a
  show w_W _ _ _ (12, [(0, .ref 39), (1, .int (Int32.ofInt (n)))], [], M4) _
  refine w_adv (n := 1) (F' := (13, [(0, .ref 39), (1, .int (Int32.ofInt (n)))], [.ref 39], M4)) rfl ?_
  refine w_gf (v := .ref 42) hR5a rfl rfl rfl rfl ?_
  refine w_adv (n := 1) (F' := (17, [(0, .ref 39), (1, .int (Int32.ofInt (n)))], [.ref 39, .ref 42], M4)) rfl ?_
  refine w_gf (v := .int (Int32.ofInt ((I 2503)))) hR5a rfl rfl rfl rfl ?_
  refine w_adv (n := 1) (F' := (21, [(0, .ref 39), (1, .int (Int32.ofInt (n)))], [.int (Int32.ofInt (0)), .int (Int32.ofInt ((I 2503))), .ref 42], M4)) rfl ?_
  refine w_call (cm := 25) (as := [(0, .ref 42), (1, .int (Int32.ofInt ((I 2503)))), (2, .int (Int32.ofInt (0)))]) (rest := []) (o := none) rfl (trivial) (c_set ((I 2503)) (0) 42 1500 rfl (by decide) hR5a ⟨by omega, by omega⟩ ⟨by omega, by omega⟩) (fun r7 M8 q9 => ?_)
  rcases q9 with ⟨e10, hR9a⟩
  rw [e10]
  replace hR9a : w_Rep w_TC fr X u l I (w_upF (w_upF A 41 (w_upG 1500 (A 41) ((I 2503)) (n))) 42 (w_upG 1500 (A 42) ((I 2503)) (0))) B C M8 := hR9a
  show w_W _ _ _ (24, [(0, .ref 39), (1, .int (Int32.ofInt (n)))], [], M8) _
  refine w_adv (n := 2) (F' := (26, [(0, .ref 39), (1, .int (Int32.ofInt (n)))], [.ref 39, .ref 39], M8)) rfl ?_
  refine w_gf (v := .int (Int32.ofInt ((I 2503)))) hR9a rfl rfl rfl rfl ?_
  refine w_adv (n := 1) (F' := (30, [(0, .ref 39), (1, .int (Int32.ofInt (n)))], [.int (Int32.ofInt (1)), .int (Int32.ofInt ((I 2503))), .ref 39], M8)) rfl ?_
  refine w_add rfl ?_
  refine w_pf hR9a rfl rfl rfl rfl (show w_in ((I 2503) + 1) from ⟨by omega, by omega⟩) (fun h => absurd h (by decide)) (fun M11 hR12 => ?_)
  replace hR12 : w_Rep w_TC fr X u l (w_up I 2503 ((I 2503) + 1)) (w_upF (w_upF A 41 (w_upG 1500 (A 41) ((I 2503)) (n))) 42 (w_upG 1500 (A 42) ((I 2503)) (0))) B C M11 := hR12
  refine w_fin (r := .inl none) (M' := M11) rfl ?_
  exact ⟨(w_up I 2503 ((I 2503) + 1)), (w_upF (w_upF A 41 (w_upG 1500 (A 41) ((I 2503)) (n))) 42 (w_upG 1500 (A 42) ((I 2503)) (0))), B, C, rfl, hR12, (show c_bz I A (w_up I 2503 ((I 2503) + 1)) (w_upF (w_upF A 41 (w_upG 1500 (A 41) ((I 2503)) (n))) 42 (w_upG 1500 (A 42) ((I 2503)) (0))) 0 0 (I 2503) by exact (c_bz_w42 (c_bz_w41 (c_bz_up c_bz_refl rfl) rfl (by omega)) rfl (by omega))), (show (I 2503) + 1 = (I 2503) + 1 ∧ (0 ≤ (I 1035) ∧ (I 1035) ≤ 10000) ∧ (I 200) = (I 200) ∧ (I 202) = (I 202) by (repeat' apply And.intro) <;> first | assumption | omega), (show c_awt A (w_upF (w_upF A 41 (w_upG 1500 (A 41) ((I 2503)) (n))) 42 (w_upG 1500 (A 42) ((I 2503)) (0))) (I 2503) n by exact ⟨⟨rfl, rfl, rfl⟩, ⟨rfl, rfl⟩, fun j hj => ⟨w_upG_ne hj, w_upG_ne hj⟩, fun h0 h1 => ⟨w_upG_at ⟨h0, by omega⟩, w_upG_at ⟨h0, by omega⟩⟩⟩)⟩
theorem w_wrap {x y : Int} (h : Int32.ofInt x = Int32.ofInt y) (hx : w_in x) (hy : w_in y) : x = y := by
  have := congrArg Int32.toInt h
  rw [w_toI hx, w_toI hy] at this
  exact this
theorem c_nop_of {A A' : Nat → Int → Int} {m n v had x : Int} (ek : c_ke A A') (e29 : A' 29 = A 29) (e30 : A' 30 = A 30) (e41 : A' 41 = A 41) (hm : 0 ≤ m) (h42 : A' 42 = w_upG 1500 (A 42) m x) (hh : (0 ≤ m ∧ m < 1500 ∧ had = A 42 m) ∨ (¬ (0 ≤ m ∧ m < 1500) ∧ had = -1)) (hx : had = 0 ∨ had = 1 → x = had + 1) (hv : (had = 0 ∧ c_rd (A 28) n v) ∨ (had = 1 ∧ c_rd (fun j => if A 27 j = 8 then A 29 j else -1) n v) ∨ (had ≠ 0 ∧ had ≠ 1 ∧ v = -1)) : c_nop A A' m n v := by
  refine ⟨ek, e29, e30, e41, fun j hj => by rw [h42, w_upG_ne hj], ?_⟩
  rcases hh with ⟨h1, h2, h3⟩ | ⟨h1, h2⟩
  · refine Or.inl ⟨h2, fun q => ?_, ?_⟩
    · rw [h42, w_upG_at ⟨h1, by omega⟩]
      have := hx (by omega)
      omega
    · rw [← h3]; exact hv
  · refine Or.inr ⟨by omega, ?_⟩
    rcases hv with ⟨g, -⟩ | ⟨g, -⟩ | ⟨-, -, g⟩
    · omega
    · omega
    · exact g
def c_nextOperand_Q (fr : Nat → Bool) (X : Nat → Option (q_C (Nat → Int32))) (u l : Nat) (I : Nat → Int) (A : Nat → Int → Int) (B C : Nat → Nat) (M : w_M) (n : Int) : w_X → w_M → Prop := fun r M' => (∃ v : Int, ∃ (I' : Nat → Int) (A' : Nat → Int → Int) (B' C' : Nat → Nat), (r = .inl (some v)) ∧ (w_in v) ∧ (w_Rep w_TC fr X u l I' A' B' C' M') ∧ (c_bz I A I' A' 0 0 ((I 2503) - 1)) ∧ ((I' 2503) = (I 2503) ∧ (0 ≤ (I' 1035) ∧ (I' 1035) ≤ 10000) ∧ (I' 200) = (I 200) ∧ (I' 202) = (I 202)) ∧ (c_nop A A' ((I 2503) - 1) n v))
set_option maxHeartbeats 100000000 in
set_option maxRecDepth 100000 in
theorem c_nextOperand {L : Nat} {xs : Nat → Int32} {d : Nat} {fr : Nat → Bool} {X : Nat → Option (q_C (Nat → Int32))} {u l : Nat} {I : Nat → Int} {A : Nat → Int → Int} {B C : Nat → Nat} {M : w_M} (n : Int) (hR : w_Rep w_TC fr X u l I A B C M) (hd : 2 ≤ d) (r_n : w_in n) (hKI : 0 ≤ (I 1035) ∧ (I 1035) ≤ 10000) (hW0 : 1 ≤ (I 2503) ∧ (I 2503) ≤ 2000000) : w_W (z_P L xs) d 172 (0, [(0, .ref 39), (1, .int (Int32.ofInt (n)))], [], M) (c_nextOperand_Q fr X u l I A B C M n) := by
  obtain ⟨ra_n, rb_n⟩ := r_n
  obtain ⟨d, rfl⟩ : ∃ d0, d = d0 + 1 := ⟨d - 1, by omega⟩
  refine w_adv (n := 1) (F' := (1, [(0, .ref 39), (1, .int (Int32.ofInt (n)))], [.ref 39], M)) rfl ?_
  refine w_gf (v := .ref 42) hR rfl rfl rfl rfl ?_
  refine w_adv (n := 1) (F' := (5, [(0, .ref 39), (1, .int (Int32.ofInt (n)))], [.ref 39, .ref 42], M)) rfl ?_
  refine w_gf (v := .int (Int32.ofInt ((I 2503)))) hR rfl rfl rfl rfl ?_
  obtain ⟨r1, r2⟩ : -2147483648 ≤ (I 2503) ∧ (I 2503) ≤ 2147483647 := hR.ri 2503
  refine w_adv (n := 1) (F' := (9, [(0, .ref 39), (1, .int (Int32.ofInt (n)))], [.int (Int32.ofInt (1)), .int (Int32.ofInt ((I 2503))), .ref 42], M)) rfl ?_
  refine w_sub rfl ?_
  refine w_call (cm := 21) (as := [(0, .ref 42), (1, .int (Int32.ofInt ((I 2503) - 1)))]) (rest := []) (o := none) rfl (trivial) (c_at ((I 2503) - 1) 42 1500 rfl (by decide) hR ⟨by omega, by omega⟩) (fun r3 M4 q5 => ?_)
  rcases q5 with ⟨v6, e7, ⟨r8, r9⟩, e10, f11⟩
  rw [e7, e10]
  replace f11 : ((0 ≤ (I 2503) - 1 ∧ (I 2503) - 1 < (1500 : Int) ∧ v6 = (A 42) ((I 2503) - 1)) ∨ (¬ (0 ≤ (I 2503) - 1 ∧ (I 2503) - 1 < (1500 : Int)) ∧ v6 = -1)) := f11
  skip
  show w_W _ _ _ (13, [(0, .ref 39), (1, .int (Int32.ofInt (n)))], [.int (Int32.ofInt (v6))], M) _
  refine w_adv (n := 2) (F' := (15, [(2, .int (Int32.ofInt (v6))), (0, .ref 39), (1, .int (Int32.ofInt (n)))], [.ref 39], M)) rfl ?_
  refine w_gf (v := .ref 42) hR rfl rfl rfl rfl ?_
  refine w_adv (n := 1) (F' := (19, [(2, .int (Int32.ofInt (v6))), (0, .ref 39), (1, .int (Int32.ofInt (n)))], [.ref 39, .ref 42], M)) rfl ?_
  refine w_gf (v := .int (Int32.ofInt ((I 2503)))) hR rfl rfl rfl rfl ?_
  refine w_adv (n := 1) (F' := (23, [(2, .int (Int32.ofInt (v6))), (0, .ref 39), (1, .int (Int32.ofInt (n)))], [.int (Int32.ofInt (1)), .int (Int32.ofInt ((I 2503))), .ref 42], M)) rfl ?_
  refine w_sub rfl ?_
  refine w_adv (n := 2) (F' := (26, [(2, .int (Int32.ofInt (v6))), (0, .ref 39), (1, .int (Int32.ofInt (n)))], [.int (Int32.ofInt (1)), .int (Int32.ofInt (v6)), .int (Int32.ofInt ((I 2503) - 1)), .ref 42], M)) rfl ?_
  refine w_add rfl ?_
  refine w_int (fun x12 r13 e14 => ?_)
  obtain ⟨r13a, r13b⟩ := r13
  refine w_call (cm := 25) (as := [(0, .ref 42), (1, .int (Int32.ofInt ((I 2503) - 1))), (2, .int (Int32.ofInt (x12)))]) (rest := []) (o := none) rfl (trivial) (c_set ((I 2503) - 1) (x12) 42 1500 rfl (by decide) hR ⟨by omega, by omega⟩ ⟨by omega, by omega⟩) (fun r15 M16 q17 => ?_)
  rcases q17 with ⟨e18, hR17a⟩
  rw [e18]
  replace hR17a : w_Rep w_TC fr X u l I (w_upF A 42 (w_upG 1500 (A 42) ((I 2503) - 1) (x12))) B C M16 := hR17a
  show w_W _ _ _ (30, [(2, .int (Int32.ofInt (v6))), (0, .ref 39), (1, .int (Int32.ofInt (n)))], [], M16) _
  refine w_adv (n := 1) (F' := (31, [(2, .int (Int32.ofInt (v6))), (0, .ref 39), (1, .int (Int32.ofInt (n)))], [.int (Int32.ofInt (v6))], M16)) rfl ?_
  refine w_br1 (a := v6) rfl rfl ⟨by omega, by omega⟩ (fun h19 => ?_) (fun h19 => ?_)
  · have h19 : ¬ v6 = 0 := h19
    show w_W _ _ _ (43, [(2, .int (Int32.ofInt (v6))), (0, .ref 39), (1, .int (Int32.ofInt (n)))], [], M16) _
    refine w_adv (n := 2) (F' := (45, [(2, .int (Int32.ofInt (v6))), (0, .ref 39), (1, .int (Int32.ofInt (n)))], [.int (Int32.ofInt (1)), .int (Int32.ofInt (v6))], M16)) rfl ?_
    refine w_br2 (a := v6) (b := 1) rfl rfl ⟨by omega, by omega⟩ ⟨by omega, by omega⟩ (fun h20 => ?_) (fun h20 => ?_)
    · have h20 : ¬ v6 = 1 := h20
      show w_W _ _ _ (72, [(2, .int (Int32.ofInt (v6))), (0, .ref 39), (1, .int (Int32.ofInt (n)))], [], M16) _
      refine w_adv (n := 1) (F' := (73, [(2, .int (Int32.ofInt (v6))), (0, .ref 39), (1, .int (Int32.ofInt (n)))], [.int (Int32.ofInt ((-1)))], M16)) rfl ?_
      refine w_fin (r := .inl (some ((-1)))) (M' := M16) rfl ?_
      exact ⟨(-1), I, (w_upF A 42 (w_upG 1500 (A 42) ((I 2503) - 1) (x12))), B, C, rfl, ⟨by omega, by omega⟩, hR17a, (show c_bz I A I (w_upF A 42 (w_upG 1500 (A 42) ((I 2503) - 1) (x12))) 0 0 ((I 2503) - 1) by exact (c_bz_w42 c_bz_refl rfl (by omega))), (show (I 2503) = (I 2503) ∧ (0 ≤ (I 1035) ∧ (I 1035) ≤ 10000) ∧ (I 200) = (I 200) ∧ (I 202) = (I 202) by (repeat' apply And.intro) <;> first | assumption | omega), (show c_nop A (w_upF A 42 (w_upG 1500 (A 42) ((I 2503) - 1) (x12))) ((I 2503) - 1) n (-1) by exact c_nop_of ⟨rfl, rfl, rfl⟩ rfl rfl rfl (by omega) rfl (show (0 ≤ (I 2503) - 1 ∧ (I 2503) - 1 < 1500 ∧ v6 = A 42 ((I 2503) - 1)) ∨ (¬ (0 ≤ (I 2503) - 1 ∧ (I 2503) - 1 < 1500) ∧ v6 = -1) by omega) (fun hx => w_wrap e14 ⟨by omega, by omega⟩ ⟨by omega, by omega⟩) (Or.inr (Or.inr ⟨by omega, by omega, rfl⟩)))⟩
    · have h20 : ¬ (¬ v6 = 1) := h20
      show w_W _ _ _ (48, [(2, .int (Int32.ofInt (v6))), (0, .ref 39), (1, .int (Int32.ofInt (n)))], [], M16) _
      refine w_adv (n := 1) (F' := (49, [(2, .int (Int32.ofInt (v6))), (0, .ref 39), (1, .int (Int32.ofInt (n)))], [.ref 39], M16)) rfl ?_
      refine w_gf (v := .ref 26) hR17a rfl rfl rfl rfl ?_
      refine w_adv (n := 1) (F' := (53, [(2, .int (Int32.ofInt (v6))), (0, .ref 39), (1, .int (Int32.ofInt (n)))], [.int (Int32.ofInt (n)), .ref 26], M16)) rfl ?_
      refine w_call (cm := 135) (as := [(0, .ref 26), (1, .int (Int32.ofInt (n)))]) (rest := []) (o := some (8, 26)) rfl (w_fitR hR17a rfl) (c_Tkind (n) hR17a (show 1 ≤ d by omega) ⟨by omega, by omega⟩) (fun r21 M22 q23 => ?_)
      rcases q23 with ⟨v24, e25, ⟨r26, r27⟩, e28, f29⟩
      rw [e25, e28]
      replace f29 : c_rd (A 27) n v24 := f29
      skip
      show w_W _ _ _ (56, [(2, .int (Int32.ofInt (v6))), (0, .ref 39), (1, .int (Int32.ofInt (n)))], [.int (Int32.ofInt (v24))], M16) _
      refine w_adv (n := 1) (F' := (58, [(2, .int (Int32.ofInt (v6))), (0, .ref 39), (1, .int (Int32.ofInt (n)))], [.int (Int32.ofInt (8)), .int (Int32.ofInt (v24))], M16)) rfl ?_
      refine w_br2 (a := v24) (b := 8) rfl rfl ⟨by omega, by omega⟩ ⟨by omega, by omega⟩ (fun h30 => ?_) (fun h30 => ?_)
      · have h30 : ¬ v24 = 8 := h30
        show w_W _ _ _ (72, [(2, .int (Int32.ofInt (v6))), (0, .ref 39), (1, .int (Int32.ofInt (n)))], [], M16) _
        refine w_adv (n := 1) (F' := (73, [(2, .int (Int32.ofInt (v6))), (0, .ref 39), (1, .int (Int32.ofInt (n)))], [.int (Int32.ofInt ((-1)))], M16)) rfl ?_
        refine w_fin (r := .inl (some ((-1)))) (M' := M16) rfl ?_
        exact ⟨(-1), I, (w_upF A 42 (w_upG 1500 (A 42) ((I 2503) - 1) (x12))), B, C, rfl, ⟨by omega, by omega⟩, hR17a, (show c_bz I A I (w_upF A 42 (w_upG 1500 (A 42) ((I 2503) - 1) (x12))) 0 0 ((I 2503) - 1) by exact (c_bz_w42 c_bz_refl rfl (by omega))), (show (I 2503) = (I 2503) ∧ (0 ≤ (I 1035) ∧ (I 1035) ≤ 10000) ∧ (I 200) = (I 200) ∧ (I 202) = (I 202) by (repeat' apply And.intro) <;> first | assumption | omega), (show c_nop A (w_upF A 42 (w_upG 1500 (A 42) ((I 2503) - 1) (x12))) ((I 2503) - 1) n (-1) by exact c_nop_of ⟨rfl, rfl, rfl⟩ rfl rfl rfl (by omega) rfl (show (0 ≤ (I 2503) - 1 ∧ (I 2503) - 1 < 1500 ∧ v6 = A 42 ((I 2503) - 1)) ∨ (¬ (0 ≤ (I 2503) - 1 ∧ (I 2503) - 1 < 1500) ∧ v6 = -1) by omega) (fun hx => w_wrap e14 ⟨by omega, by omega⟩ ⟨by omega, by omega⟩) (Or.inr (Or.inl ⟨by omega, fun hz => by have q1 := c_rd_eq f29 hz.1 hz.2; show (-1) = if A 27 n = 8 then A 29 n else -1; rw [if_neg (by omega)]⟩)))⟩
      · have h30 : ¬ (¬ v24 = 8) := h30
        show w_W _ _ _ (61, [(2, .int (Int32.ofInt (v6))), (0, .ref 39), (1, .int (Int32.ofInt (n)))], [], M16) _
        refine w_adv (n := 1) (F' := (62, [(2, .int (Int32.ofInt (v6))), (0, .ref 39), (1, .int (Int32.ofInt (n)))], [.ref 39], M16)) rfl ?_
        refine w_gf (v := .ref 26) hR17a rfl rfl rfl rfl ?_
        refine w_adv (n := 1) (F' := (66, [(2, .int (Int32.ofInt (v6))), (0, .ref 39), (1, .int (Int32.ofInt (n)))], [.int (Int32.ofInt (n)), .ref 26], M16)) rfl ?_
        refine w_call (cm := 152) (as := [(0, .ref 26), (1, .int (Int32.ofInt (n)))]) (rest := []) (o := some (8, 26)) rfl (w_fitR hR17a rfl) (c_Tb (n) hR17a (show 1 ≤ d by omega) ⟨by omega, by omega⟩) (fun r31 M32 q33 => ?_)
        rcases q33 with ⟨v34, e35, ⟨r36, r37⟩, e38, f39⟩
        rw [e35, e38]
        replace f39 : c_rd (A 29) n v34 := f39
        skip
        show w_W _ _ _ (69, [(2, .int (Int32.ofInt (v6))), (0, .ref 39), (1, .int (Int32.ofInt (n)))], [.int (Int32.ofInt (v34))], M16) _
        refine w_adv (n := 1) (F' := (73, [(2, .int (Int32.ofInt (v6))), (0, .ref 39), (1, .int (Int32.ofInt (n)))], [.int (Int32.ofInt (v34))], M16)) rfl ?_
        refine w_fin (r := .inl (some (v34))) (M' := M16) rfl ?_
        exact ⟨v34, I, (w_upF A 42 (w_upG 1500 (A 42) ((I 2503) - 1) (x12))), B, C, rfl, ⟨by omega, by omega⟩, hR17a, (show c_bz I A I (w_upF A 42 (w_upG 1500 (A 42) ((I 2503) - 1) (x12))) 0 0 ((I 2503) - 1) by exact (c_bz_w42 c_bz_refl rfl (by omega))), (show (I 2503) = (I 2503) ∧ (0 ≤ (I 1035) ∧ (I 1035) ≤ 10000) ∧ (I 200) = (I 200) ∧ (I 202) = (I 202) by (repeat' apply And.intro) <;> first | assumption | omega), (show c_nop A (w_upF A 42 (w_upG 1500 (A 42) ((I 2503) - 1) (x12))) ((I 2503) - 1) n v34 by exact c_nop_of ⟨rfl, rfl, rfl⟩ rfl rfl rfl (by omega) rfl (show (0 ≤ (I 2503) - 1 ∧ (I 2503) - 1 < 1500 ∧ v6 = A 42 ((I 2503) - 1)) ∨ (¬ (0 ≤ (I 2503) - 1 ∧ (I 2503) - 1 < 1500) ∧ v6 = -1) by omega) (fun hx => w_wrap e14 ⟨by omega, by omega⟩ ⟨by omega, by omega⟩) (Or.inr (Or.inl ⟨by omega, fun hz => by have q1 := c_rd_eq f29 hz.1 hz.2; have q2 := c_rd_eq f39 hz.1 hz.2; show v34 = if A 27 n = 8 then A 29 n else -1; rw [if_pos (by omega)]; exact q2⟩)))⟩
  · have h19 : ¬ (¬ v6 = 0) := h19
    show w_W _ _ _ (34, [(2, .int (Int32.ofInt (v6))), (0, .ref 39), (1, .int (Int32.ofInt (n)))], [], M16) _
    refine w_adv (n := 1) (F' := (35, [(2, .int (Int32.ofInt (v6))), (0, .ref 39), (1, .int (Int32.ofInt (n)))], [.ref 39], M16)) rfl ?_
    refine w_gf (v := .ref 26) hR17a rfl rfl rfl rfl ?_
    refine w_adv (n := 1) (F' := (39, [(2, .int (Int32.ofInt (v6))), (0, .ref 39), (1, .int (Int32.ofInt (n)))], [.int (Int32.ofInt (n)), .ref 26], M16)) rfl ?_
    refine w_call (cm := 145) (as := [(0, .ref 26), (1, .int (Int32.ofInt (n)))]) (rest := []) (o := some (8, 26)) rfl (w_fitR hR17a rfl) (c_Ta (n) hR17a (show 1 ≤ d by omega) ⟨by omega, by omega⟩) (fun r40 M41 q42 => ?_)
    rcases q42 with ⟨v43, e44, ⟨r45, r46⟩, e47, f48⟩
    rw [e44, e47]
    replace f48 : c_rd (A 28) n v43 := f48
    skip
    show w_W _ _ _ (42, [(2, .int (Int32.ofInt (v6))), (0, .ref 39), (1, .int (Int32.ofInt (n)))], [.int (Int32.ofInt (v43))], M16) _
    refine w_fin (r := .inl (some (v43))) (M' := M16) rfl ?_
    exact ⟨v43, I, (w_upF A 42 (w_upG 1500 (A 42) ((I 2503) - 1) (x12))), B, C, rfl, ⟨by omega, by omega⟩, hR17a, (show c_bz I A I (w_upF A 42 (w_upG 1500 (A 42) ((I 2503) - 1) (x12))) 0 0 ((I 2503) - 1) by exact (c_bz_w42 c_bz_refl rfl (by omega))), (show (I 2503) = (I 2503) ∧ (0 ≤ (I 1035) ∧ (I 1035) ≤ 10000) ∧ (I 200) = (I 200) ∧ (I 202) = (I 202) by (repeat' apply And.intro) <;> first | assumption | omega), (show c_nop A (w_upF A 42 (w_upG 1500 (A 42) ((I 2503) - 1) (x12))) ((I 2503) - 1) n v43 by exact c_nop_of ⟨rfl, rfl, rfl⟩ rfl rfl rfl (by omega) rfl (show (0 ≤ (I 2503) - 1 ∧ (I 2503) - 1 < 1500 ∧ v6 = A 42 ((I 2503) - 1)) ∨ (¬ (0 ≤ (I 2503) - 1 ∧ (I 2503) - 1 < 1500) ∧ v6 = -1) by omega) (fun hx => w_wrap e14 ⟨by omega, by omega⟩ ⟨by omega, by omega⟩) (Or.inl ⟨by omega, f48⟩))⟩
