/-! TEXT of the class: how many bytes a long has. -/
def c_by (e : Int64) (n : Int) : Int32 := lg_cmp ((((e).toUInt64 >>> ((Int32.ofInt (8 * n)).toInt64.toUInt64 &&& Int64.toUInt64 63)).toInt64) &&& (255)) (0)
def c_nbp (e : Int64) (n : Int) : Prop := (0 ≤ n ∧ n ≤ 8) ∧ (∀ j, 0 ≤ j → j < n → c_by e j ≠ 0) ∧ (n = 8 ∨ c_by e n = 0)
theorem c_nbp_one {e : Int64} {n m : Int} (h : c_nbp e n) (g : c_nbp e m) : n = m := by
  obtain ⟨⟨h1, h2⟩, h3, h4⟩ := h
  obtain ⟨⟨g1, g2⟩, g3, g4⟩ := g
  rcases Int.lt_trichotomy n m with q | q | q
  · rcases h4 with h4 | h4
    · omega
    · exact absurd h4 (g3 n h1 q)
  · exact q
  · rcases g4 with g4 | g4
    · omega
    · exact absurd g4 (h3 m g1 q)
theorem c_nb_step {e : Int64} {n : Int} (h : ∀ j, 0 ≤ j → j < n → c_by e j ≠ 0) {x : Int} (hx : Int32.ofInt x = c_by e n) (h0 : ¬ x = 0) (rx : w_in x) : ∀ j, 0 ≤ j → j < n + 1 → c_by e j ≠ 0 := fun j a b => by
  by_cases q : j = n
  · subst q
    intro hz
    rw [hz] at hx
    have h1 := congrArg Int32.toInt hx
    rw [w_toI rx] at h1
    exact h0 h1
  · exact h j a (by omega)
theorem c_nb_end {e : Int64} {n : Int} (h : ∀ j, 0 ≤ j → j < n → c_by e j ≠ 0) (hn : 0 ≤ n ∧ n ≤ 8) {x : Int} (hx : Int32.ofInt x = c_by e n) (h0 : x = 0) : c_nbp e n := by
  refine ⟨hn, h, Or.inr ?_⟩
  rw [← hx, h0]
  rfl
theorem c_nb_8 {e : Int64} {n : Int} (h : ∀ j, 0 ≤ j → j < n → c_by e j ≠ 0) (hn : n = 8) : c_nbp e 8 := by
  subst hn
  exact ⟨⟨by omega, by omega⟩, h, Or.inl rfl⟩
def c_bytesIn_Q (fr : Nat → Bool) (X : Nat → Option (q_C (Nat → Int32))) (u l : Nat) (I : Nat → Int) (A : Nat → Int → Int) (B C : Nat → Nat) (M : w_M) (e0 : Int64) : w_X → w_M → Prop := fun r M' => (∃ v : Int, (r = .inl (some v)) ∧ (w_in v) ∧ (M' = M) ∧ (c_nbp e0 v))
set_option maxHeartbeats 100000000 in
set_option maxRecDepth 100000 in
theorem c_bytesIn {L : Nat} {xs : Nat → Int32} {d : Nat} {fr : Nat → Bool} {X : Nat → Option (q_C (Nat → Int32))} {u l : Nat} {I : Nat → Int} {A : Nat → Int → Int} {B C : Nat → Nat} {M : w_M} (e0 : Int64) (hR : w_Rep w_TC fr X u l I A B C M) : w_W (z_P L xs) d 39 (0, [(0, .long (e0))], [], M) (c_bytesIn_Q fr X u l I A B C M e0) := by
  refine w_adv (n := 2) (F' := (2, [(2, .int (Int32.ofInt (0))), (0, .long (e0))], [], M)) rfl ?_
  have lp2 : ∀ fu2 : Nat, ∀ (y2_2 : Int), w_in y2_2 → 0 ≤ y2_2 ∧ y2_2 ≤ 8 → (∀ j, 0 ≤ j → j < y2_2 → c_by e0 j ≠ 0) → 8 - y2_2 < (fu2 : Int) → w_W (z_P L xs) d 39 (2, [(0, .long (e0)), (2, .int (Int32.ofInt (y2_2)))], [], M) (c_bytesIn_Q fr X u l I A B C M e0) := by
    intro fu2
    induction fu2 with
    | zero =>
      intro y2_2 ⟨ra_y2_2, rb_y2_2⟩ hi2_0 hi2_1 hn2
      exfalso
      omega
    | succ fu2 ih2 =>
      intro y2_2 ⟨ra_y2_2, rb_y2_2⟩ hi2_0 hi2_1 hn2
      refine w_adv (n := 2) (F' := (5, [(0, .long (e0)), (2, .int (Int32.ofInt (y2_2)))], [.int (Int32.ofInt (8)), .int (Int32.ofInt (y2_2))], M)) rfl ?_
      refine w_br2 (a := y2_2) (b := 8) rfl rfl ⟨by omega, by omega⟩ ⟨by omega, by omega⟩ (fun h1 => ?_) (fun h1 => ?_)
      · have h1 : y2_2 ≥ 8 := h1
        show w_W _ _ _ (31, [(0, .long (e0)), (2, .int (Int32.ofInt (y2_2)))], [], M) _
        refine w_adv (n := 1) (F' := (33, [(0, .long (e0)), (2, .int (Int32.ofInt (y2_2)))], [.int (Int32.ofInt (8))], M)) rfl ?_
        refine w_fin (r := .inl (some (8))) (M' := M) rfl ?_
        exact ⟨8, rfl, ⟨by omega, by omega⟩, rfl, (show c_nbp e0 8 by exact c_nb_8 hi2_1 (by omega))⟩
      · have h1 : ¬ (y2_2 ≥ 8) := h1
        show w_W _ _ _ (8, [(0, .long (e0)), (2, .int (Int32.ofInt (y2_2)))], [], M) _
        refine w_adv (n := 3) (F' := (12, [(0, .long (e0)), (2, .int (Int32.ofInt (y2_2)))], [.int (Int32.ofInt (y2_2)), .int (Int32.ofInt (8)), .long (e0)], M)) rfl ?_
        refine w_mul rfl ?_
        refine w_adv (n := 5) (F' := (20, [(0, .long (e0)), (2, .int (Int32.ofInt (y2_2)))], [.int (lg_cmp ((((e0).toUInt64 >>> ((Int32.ofInt (8 * y2_2)).toInt64.toUInt64 &&& Int64.toUInt64 63)).toInt64) &&& (255)) (0))], M)) rfl ?_
        refine w_int (fun x2 r3 e4 => ?_)
        obtain ⟨r3a, r3b⟩ := r3
        refine w_br1 (a := x2) rfl rfl ⟨by omega, by omega⟩ (fun h5 => ?_) (fun h5 => ?_)
        · have h5 : ¬ x2 = 0 := h5
          show w_W _ _ _ (25, [(0, .long (e0)), (2, .int (Int32.ofInt (y2_2)))], [], M) _
          refine w_inc (nL := 3) (a := y2_2) rfl rfl rfl (by decide) ?_
          refine w_adv (n := 1) (F' := (2, [(2, .int (Int32.ofInt (y2_2 + 1))), (0, .long (e0))], [], M)) rfl ?_
          refine w_ls (ls := [(0, .long (e0)), (2, .int (Int32.ofInt (y2_2 + 1)))]) (show List.Nodup [0, 2] by decide) (show List.Nodup [2, 0] by decide) (List.forall_mem_cons.mpr ⟨(List.Mem.tail _ (List.Mem.head _)), (List.forall_mem_cons.mpr ⟨(List.Mem.head _), (fun _ h => by cases h)⟩)⟩) ?_
          exact ih2  (y2_2 + 1) ⟨by omega, by omega⟩ (show 0 ≤ (y2_2 + 1) ∧ (y2_2 + 1) ≤ 8 by omega) (show ∀ j, 0 ≤ j → j < (y2_2 + 1) → c_by e0 j ≠ 0 by exact c_nb_step hi2_1 (show Int32.ofInt x2 = c_by e0 _ from e4) (by omega) ⟨by omega, by omega⟩) (show 8 - (y2_2 + 1) < (fu2 : Int) by omega)
        · have h5 : ¬ (¬ x2 = 0) := h5
          show w_W _ _ _ (23, [(0, .long (e0)), (2, .int (Int32.ofInt (y2_2)))], [], M) _
          refine w_adv (n := 1) (F' := (24, [(0, .long (e0)), (2, .int (Int32.ofInt (y2_2)))], [.int (Int32.ofInt (y2_2))], M)) rfl ?_
          refine w_fin (r := .inl (some (y2_2))) (M' := M) rfl ?_
          exact ⟨y2_2, rfl, ⟨by omega, by omega⟩, rfl, (show c_nbp e0 y2_2 by exact c_nb_end hi2_1 ⟨by omega, by omega⟩ (show Int32.ofInt x2 = c_by e0 _ from e4) (by omega))⟩
  refine w_ls (ls := [(0, .long (e0)), (2, .int (Int32.ofInt (0)))]) (show List.Nodup [0, 2] by decide) (show List.Nodup [2, 0] by decide) (List.forall_mem_cons.mpr ⟨(List.Mem.tail _ (List.Mem.head _)), (List.forall_mem_cons.mpr ⟨(List.Mem.head _), (fun _ h => by cases h)⟩)⟩) ?_
  exact lp2 ((8 - 0 : Int).toNat + 1)  (0) ⟨by omega, by omega⟩ (show 0 ≤ (0 : Int) ∧ (0 : Int) ≤ 8 by omega) (show ∀ j, 0 ≤ j → j < (0 : Int) → c_by e0 j ≠ 0 by intro j h1 h2; omega) (show 8 - 0 < (((8 - 0 : Int).toNat + 1 : Nat) : Int) by omega)
def c_append_Q (fr : Nat → Bool) (X : Nat → Option (q_C (Nat → Int32))) (u l : Nat) (I : Nat → Int) (A : Nat → Int → Int) (B C : Nat → Nat) (M : w_M) (e0 : Int64) : w_X → w_M → Prop := fun r M' => (∃ zn : Int, (r = .inl (some (-2))) ∧ (M' = M) ∧ (c_nbp e0 zn ∧ 8192 < (I 65) + zn)) ∨ (∃ v : Int, ∃ gb : Int → Int, ∃ zl : Int, ∃ zn : Int, (r = .inl (some v)) ∧ (w_in v) ∧ (w_Rep w_TC fr X u l (w_up I 65 (zl)) (w_upF A 2 gb) B C M') ∧ (c_nbp e0 zn ∧ zl = v ∧ v = (I 65) + zn ∧ v ≤ 8192))
set_option maxHeartbeats 100000000 in
set_option maxRecDepth 100000 in
theorem c_append {L : Nat} {xs : Nat → Int32} {d : Nat} {fr : Nat → Bool} {X : Nat → Option (q_C (Nat → Int32))} {u l : Nat} {I : Nat → Int} {A : Nat → Int → Int} {B C : Nat → Nat} {M : w_M} (e0 : Int64) (hR : w_Rep w_TC fr X u l I A B C M) (hd : 1 ≤ d) (hL : 0 ≤ (I 65) ∧ (I 65) ≤ 8192) : w_W (z_P L xs) d 38 (0, [(0, .ref 1), (1, .long (e0))], [], M) (c_append_Q fr X u l I A B C M e0) := by
  obtain ⟨d, rfl⟩ : ∃ d0, d = d0 + 1 := ⟨d - 1, by omega⟩
  refine w_adv (n := 1) (F' := (1, [(0, .ref 1), (1, .long (e0))], [.long (e0)], M)) rfl ?_
  refine w_call (cm := 39) (as := [(0, .long (e0))]) (rest := []) (o := none) rfl (trivial) (c_bytesIn (e0) hR) (fun r1 M2 q3 => ?_)
  rcases q3 with ⟨v4, e5, ⟨r6, r7⟩, e8, f9⟩
  rw [e5, e8]
  replace f9 : c_nbp e0 v4 := f9
  have f9q := f9.1
  show w_W _ _ _ (4, [(0, .ref 1), (1, .long (e0))], [.int (Int32.ofInt (v4))], M) _
  refine w_adv (n := 2) (F' := (6, [(3, .int (Int32.ofInt (v4))), (0, .ref 1), (1, .long (e0))], [.ref 1], M)) rfl ?_
  refine w_gf (v := .int (Int32.ofInt ((I 65)))) hR rfl rfl rfl rfl ?_
  obtain ⟨r10, r11⟩ : -2147483648 ≤ (I 65) ∧ (I 65) ≤ 2147483647 := hR.ri 65
  refine w_adv (n := 1) (F' := (10, [(3, .int (Int32.ofInt (v4))), (0, .ref 1), (1, .long (e0))], [.int (Int32.ofInt (v4)), .int (Int32.ofInt ((I 65)))], M)) rfl ?_
  refine w_add rfl ?_
  refine w_adv (n := 1) (F' := (14, [(3, .int (Int32.ofInt (v4))), (0, .ref 1), (1, .long (e0))], [.int (Int32.ofInt (8192)), .int (Int32.ofInt ((I 65) + v4))], M)) rfl ?_
  refine w_br2 (a := (I 65) + v4) (b := 8192) rfl rfl ⟨by omega, by omega⟩ ⟨by omega, by omega⟩ (fun h12 => ?_) (fun h12 => ?_)
  · have h12 : (I 65) + v4 ≤ 8192 := h12
    show w_W _ _ _ (20, [(3, .int (Int32.ofInt (v4))), (0, .ref 1), (1, .long (e0))], [], M) _
    refine w_adv (n := 2) (F' := (23, [(4, .int (Int32.ofInt (0))), (3, .int (Int32.ofInt (v4))), (0, .ref 1), (1, .long (e0))], [], M)) rfl ?_
    have lp23 : ∀ fu23 : Nat, ∀ (y23_4 : Int) (ga23_2 : Int → Int) (M_23 : w_M) (hR_23 : w_Rep w_TC fr X u l I (w_upF A 2 ga23_2) B C M_23), w_in y23_4 → 0 ≤ y23_4 ∧ y23_4 ≤ v4 → v4 - y23_4 < (fu23 : Int) → w_W (z_P L xs) (d + 1) 38 (23, [(0, .ref 1), (1, .long (e0)), (3, .int (Int32.ofInt (v4))), (4, .int (Int32.ofInt (y23_4)))], [], M_23) (c_append_Q fr X u l I A B C M e0) := by
      intro fu23
      induction fu23 with
      | zero =>
        intro y23_4 ga23_2 M_23 hR_23 ⟨ra_y23_4, rb_y23_4⟩ hi23_0 hn23
        exfalso
        omega
      | succ fu23 ih23 =>
        intro y23_4 ga23_2 M_23 hR_23 ⟨ra_y23_4, rb_y23_4⟩ hi23_0 hn23
        refine w_adv (n := 2) (F' := (26, [(0, .ref 1), (1, .long (e0)), (3, .int (Int32.ofInt (v4))), (4, .int (Int32.ofInt (y23_4)))], [.int (Int32.ofInt (v4)), .int (Int32.ofInt (y23_4))], M_23)) rfl ?_
        refine w_br2 (a := y23_4) (b := v4) rfl rfl ⟨by omega, by omega⟩ ⟨by omega, by omega⟩ (fun h13 => ?_) (fun h13 => ?_)
        · have h13 : y23_4 ≥ v4 := h13
          show w_W _ _ _ (56, [(0, .ref 1), (1, .long (e0)), (3, .int (Int32.ofInt (v4))), (4, .int (Int32.ofInt (y23_4)))], [], M_23) _
          refine w_adv (n := 2) (F' := (58, [(0, .ref 1), (1, .long (e0)), (3, .int (Int32.ofInt (v4))), (4, .int (Int32.ofInt (y23_4)))], [.ref 1, .ref 1], M_23)) rfl ?_
          refine w_gf (v := .int (Int32.ofInt ((I 65)))) hR_23 rfl rfl rfl rfl ?_
          obtain ⟨r14, r15⟩ : -2147483648 ≤ (I 65) ∧ (I 65) ≤ 2147483647 := hR_23.ri 65
          refine w_adv (n := 1) (F' := (62, [(0, .ref 1), (1, .long (e0)), (3, .int (Int32.ofInt (v4))), (4, .int (Int32.ofInt (y23_4)))], [.int (Int32.ofInt (v4)), .int (Int32.ofInt ((I 65))), .ref 1], M_23)) rfl ?_
          refine w_add rfl ?_
          refine w_pf hR_23 rfl rfl rfl rfl (show w_in ((I 65) + v4) from ⟨by omega, by omega⟩) (fun h => absurd h (by decide)) (fun M16 hR17 => ?_)
          replace hR17 : w_Rep w_TC fr X u l (w_up I 65 ((I 65) + v4)) (w_upF A 2 ga23_2) B C M16 := hR17
          refine w_adv (n := 1) (F' := (67, [(0, .ref 1), (1, .long (e0)), (3, .int (Int32.ofInt (v4))), (4, .int (Int32.ofInt (y23_4)))], [.ref 1], M16)) rfl ?_
          refine w_gf (v := .int (Int32.ofInt ((I 65) + v4))) hR17 rfl rfl rfl rfl ?_
          refine w_fin (r := .inl (some ((I 65) + v4))) (M' := M16) rfl ?_
          exact Or.inr (⟨(I 65) + v4, ga23_2, (I 65) + v4, v4, rfl, ⟨by omega, by omega⟩, hR17, (show c_nbp e0 v4 ∧ (I 65) + v4 = (I 65) + v4 ∧ (I 65) + v4 = (I 65) + v4 ∧ (I 65) + v4 ≤ 8192 by exact ⟨f9, by omega, by omega, by omega⟩)⟩)
        · have h13 : ¬ (y23_4 ≥ v4) := h13
          show w_W _ _ _ (29, [(0, .ref 1), (1, .long (e0)), (3, .int (Int32.ofInt (v4))), (4, .int (Int32.ofInt (y23_4)))], [], M_23) _
          refine w_adv (n := 1) (F' := (30, [(0, .ref 1), (1, .long (e0)), (3, .int (Int32.ofInt (v4))), (4, .int (Int32.ofInt (y23_4)))], [.ref 1], M_23)) rfl ?_
          refine w_gf (v := .ref 2) hR_23 rfl rfl rfl rfl ?_
          refine w_adv (n := 1) (F' := (34, [(0, .ref 1), (1, .long (e0)), (3, .int (Int32.ofInt (v4))), (4, .int (Int32.ofInt (y23_4)))], [.ref 1, .ref 2], M_23)) rfl ?_
          refine w_gf (v := .int (Int32.ofInt ((I 65)))) hR_23 rfl rfl rfl rfl ?_
          obtain ⟨r18, r19⟩ : -2147483648 ≤ (I 65) ∧ (I 65) ≤ 2147483647 := hR_23.ri 65
          refine w_adv (n := 1) (F' := (39, [(0, .ref 1), (1, .long (e0)), (3, .int (Int32.ofInt (v4))), (4, .int (Int32.ofInt (y23_4)))], [.int (Int32.ofInt (y23_4)), .int (Int32.ofInt ((I 65))), .ref 2], M_23)) rfl ?_
          refine w_add rfl ?_
          refine w_adv (n := 3) (F' := (45, [(0, .ref 1), (1, .long (e0)), (3, .int (Int32.ofInt (v4))), (4, .int (Int32.ofInt (y23_4)))], [.int (Int32.ofInt (y23_4)), .int (Int32.ofInt (8)), .long (e0), .int (Int32.ofInt ((I 65) + y23_4)), .ref 2], M_23)) rfl ?_
          refine w_mul rfl ?_
          refine w_adv (n := 2) (F' := (48, [(0, .ref 1), (1, .long (e0)), (3, .int (Int32.ofInt (v4))), (4, .int (Int32.ofInt (y23_4)))], [.int ((((e0).toUInt64 >>> ((Int32.ofInt (8 * y23_4)).toInt64.toUInt64 &&& Int64.toUInt64 63)).toInt64).toInt32), .int (Int32.ofInt ((I 65) + y23_4)), .ref 2], M_23)) rfl ?_
          refine w_int (fun x20 r21 e22 => ?_)
          obtain ⟨r21a, r21b⟩ := r21
          refine w_adv (n := 1) (F' := (49, [(0, .ref 1), (1, .long (e0)), (3, .int (Int32.ofInt (v4))), (4, .int (Int32.ofInt (y23_4)))], [.int ((Int32.ofInt (x20)).toInt8.toInt32), .int (Int32.ofInt ((I 65) + y23_4)), .ref 2], M_23)) rfl ?_
          refine w_int (fun x23 r24 e25 => ?_)
          obtain ⟨r24a, r24b⟩ := r24
          refine w_sab (n := 8192) hR_23 rfl rfl (show 0 ≤ (I 65) + y23_4 by omega) (show (I 65) + y23_4 < (8192 : Int) by omega) (by decide) (fun M26 hR27 => ?_)
          replace hR27 : w_Rep w_TC fr X u l I (w_upF (w_upF A 2 ga23_2) 2 (w_upA ga23_2 ((I 65) + y23_4) (w_nb (x23)))) B C M26 := hR27
          refine w_inc (nL := 5) (a := y23_4) rfl rfl rfl (by decide) ?_
          refine w_adv (n := 1) (F' := (23, [(4, .int (Int32.ofInt (y23_4 + 1))), (0, .ref 1), (1, .long (e0)), (3, .int (Int32.ofInt (v4)))], [], M26)) rfl ?_
          refine w_ls (ls := [(0, .ref 1), (1, .long (e0)), (3, .int (Int32.ofInt (v4))), (4, .int (Int32.ofInt (y23_4 + 1)))]) (show List.Nodup [0, 1, 3, 4] by decide) (show List.Nodup [4, 0, 1, 3] by decide) (List.forall_mem_cons.mpr ⟨(List.Mem.tail _ (List.Mem.head _)), (List.forall_mem_cons.mpr ⟨(List.Mem.tail _ (List.Mem.tail _ (List.Mem.head _))), (List.forall_mem_cons.mpr ⟨(List.Mem.tail _ (List.Mem.tail _ (List.Mem.tail _ (List.Mem.head _)))), (List.forall_mem_cons.mpr ⟨(List.Mem.head _), (fun _ h => by cases h)⟩)⟩)⟩)⟩) ?_
          exact ih23  (y23_4 + 1) ((w_upA ga23_2 ((I 65) + y23_4) (w_nb (x23)))) M26 (w_Rep.up hR27 (show I = I from rfl) (show (w_upF A 2 (w_upA ga23_2 ((I 65) + y23_4) (w_nb (x23)))) = (w_upF (w_upF A 2 ga23_2) 2 (w_upA ga23_2 ((I 65) + y23_4) (w_nb (x23)))) from (funext fun s => if e0 : s = 2 then (by subst e0; rfl) else (by simp only [w_upF_ne e0])))) ⟨by omega, by omega⟩ (show 0 ≤ (y23_4 + 1) ∧ (y23_4 + 1) ≤ v4 by omega) (show v4 - (y23_4 + 1) < (fu23 : Int) by omega)
    refine w_ls (ls := [(0, .ref 1), (1, .long (e0)), (3, .int (Int32.ofInt (v4))), (4, .int (Int32.ofInt (0)))]) (show List.Nodup [0, 1, 3, 4] by decide) (show List.Nodup [4, 3, 0, 1] by decide) (List.forall_mem_cons.mpr ⟨(List.Mem.tail _ (List.Mem.tail _ (List.Mem.head _))), (List.forall_mem_cons.mpr ⟨(List.Mem.tail _ (List.Mem.tail _ (List.Mem.tail _ (List.Mem.head _)))), (List.forall_mem_cons.mpr ⟨(List.Mem.tail _ (List.Mem.head _)), (List.forall_mem_cons.mpr ⟨(List.Mem.head _), (fun _ h => by cases h)⟩)⟩)⟩)⟩) ?_
    exact lp23 ((v4 - 0 : Int).toNat + 1)  (0) ((A 2)) M (w_Rep.up hR (show I = I from rfl) (show (w_upF A 2 (A 2)) = A from (funext fun s => if e0 : s = 2 then (by subst e0; rfl) else (by simp only [w_upF_ne e0])))) ⟨by omega, by omega⟩ (show 0 ≤ (0 : Int) ∧ (0 : Int) ≤ v4 by omega) (show v4 - 0 < (((v4 - 0 : Int).toNat + 1 : Nat) : Int) by omega)
  · have h12 : ¬ ((I 65) + v4 ≤ 8192) := h12
    show w_W _ _ _ (17, [(3, .int (Int32.ofInt (v4))), (0, .ref 1), (1, .long (e0))], [], M) _
    refine w_adv (n := 1) (F' := (19, [(3, .int (Int32.ofInt (v4))), (0, .ref 1), (1, .long (e0))], [.int (Int32.ofInt ((-2)))], M)) rfl ?_
    refine w_fin (r := .inl (some ((-2)))) (M' := M) rfl ?_
    first
      | exact Or.inl ⟨v4, rfl, rfl, (show c_nbp e0 v4 ∧ 8192 < (I 65) + v4 by exact ⟨f9, by omega⟩)⟩
      | exact Or.inr (⟨(-2), (A 2), (I 65), v4, rfl, ⟨by omega, by omega⟩, (w_Rep.up hR (show (w_up I 65 ((I 65))) = I from (funext fun s => if e0 : s = 65 then (by subst e0; rfl) else (by simp only [w_up_ne e0]))) (show (w_upF A 2 (A 2)) = A from (funext fun s => if e0 : s = 2 then (by subst e0; rfl) else (by simp only [w_upF_ne e0])))), (show c_nbp e0 v4 ∧ (I 65) = (-2) ∧ (-2) = (I 65) + v4 ∧ (-2) ≤ 8192 by exact ⟨f9, by omega, by omega, by omega⟩)⟩)
def c_line_Q (fr : Nat → Bool) (X : Nat → Option (q_C (Nat → Int32))) (u l : Nat) (I : Nat → Int) (A : Nat → Int → Int) (B C : Nat → Nat) (M : w_M) (p : Int) : w_X → w_M → Prop := fun r M' => (∃ v : Int, (r = .inl (some v)) ∧ (w_in v) ∧ (M' = M))
set_option maxHeartbeats 100000000 in
set_option maxRecDepth 100000 in
theorem c_line {L : Nat} {xs : Nat → Int32} {d : Nat} {fr : Nat → Bool} {X : Nat → Option (q_C (Nat → Int32))} {u l : Nat} {I : Nat → Int} {A : Nat → Int → Int} {B C : Nat → Nat} {M : w_M} (p : Int) (hR : w_Rep w_TC fr X u l I A B C M) (hd : 2 ≤ d) (r_p : w_in p) (hL : 0 ≤ (I 65) ∧ (I 65) ≤ 8192) : w_W (z_P L xs) d 140 (0, [(0, .ref 1), (1, .int (Int32.ofInt (p)))], [], M) (c_line_Q fr X u l I A B C M p) := by
  obtain ⟨ra_p, rb_p⟩ := r_p
  obtain ⟨d, rfl⟩ : ∃ d0, d = d0 + 1 := ⟨d - 1, by omega⟩
  refine w_adv (n := 4) (F' := (4, [(3, .int (Int32.ofInt (0))), (2, .int (Int32.ofInt (1))), (0, .ref 1), (1, .int (Int32.ofInt (p)))], [], M)) rfl ?_
  have lp4 : ∀ fu4 : Nat, ∀ (y4_2 : Int) (y4_3 : Int), w_in y4_2 → w_in y4_3 → 0 ≤ y4_3 ∧ y4_3 ≤ (I 65) ∧ -1 ≤ y4_2 ∧ y4_2 ≤ y4_3 + 1 → (I 65) - y4_3 < (fu4 : Int) → w_W (z_P L xs) (d + 1) 140 (4, [(0, .ref 1), (1, .int (Int32.ofInt (p))), (2, .int (Int32.ofInt (y4_2))), (3, .int (Int32.ofInt (y4_3)))], [], M) (c_line_Q fr X u l I A B C M p) := by
    intro fu4
    induction fu4 with
    | zero =>
      intro y4_2 y4_3 ⟨ra_y4_2, rb_y4_2⟩ ⟨ra_y4_3, rb_y4_3⟩ hi4_0 hn4
      exfalso
      omega
    | succ fu4 ih4 =>
      intro y4_2 y4_3 ⟨ra_y4_2, rb_y4_2⟩ ⟨ra_y4_3, rb_y4_3⟩ hi4_0 hn4
      refine w_adv (n := 2) (F' := (6, [(0, .ref 1), (1, .int (Int32.ofInt (p))), (2, .int (Int32.ofInt (y4_2))), (3, .int (Int32.ofInt (y4_3)))], [.int (Int32.ofInt (p)), .int (Int32.ofInt (y4_3))], M)) rfl ?_
      refine w_br2 (a := y4_3) (b := p) rfl rfl ⟨by omega, by omega⟩ ⟨by omega, by omega⟩ (fun h1 => ?_) (fun h1 => ?_)
      · have h1 : y4_3 ≥ p := h1
        show w_W _ _ _ (36, [(0, .ref 1), (1, .int (Int32.ofInt (p))), (2, .int (Int32.ofInt (y4_2))), (3, .int (Int32.ofInt (y4_3)))], [], M) _
        refine w_adv (n := 1) (F' := (37, [(0, .ref 1), (1, .int (Int32.ofInt (p))), (2, .int (Int32.ofInt (y4_2))), (3, .int (Int32.ofInt (y4_3)))], [.int (Int32.ofInt (y4_2))], M)) rfl ?_
        refine w_fin (r := .inl (some (y4_2))) (M' := M) rfl ?_
        exact ⟨y4_2, rfl, ⟨by omega, by omega⟩, rfl⟩
      · have h1 : ¬ (y4_3 ≥ p) := h1
        show w_W _ _ _ (9, [(0, .ref 1), (1, .int (Int32.ofInt (p))), (2, .int (Int32.ofInt (y4_2))), (3, .int (Int32.ofInt (y4_3)))], [], M) _
        refine w_adv (n := 2) (F' := (11, [(0, .ref 1), (1, .int (Int32.ofInt (p))), (2, .int (Int32.ofInt (y4_2))), (3, .int (Int32.ofInt (y4_3)))], [.ref 1, .int (Int32.ofInt (y4_3))], M)) rfl ?_
        refine w_gf (v := .int (Int32.ofInt ((I 65)))) hR rfl rfl rfl rfl ?_
        obtain ⟨r2, r3⟩ : -2147483648 ≤ (I 65) ∧ (I 65) ≤ 2147483647 := hR.ri 65
        refine w_br2 (a := y4_3) (b := (I 65)) rfl rfl ⟨by omega, by omega⟩ ⟨by omega, by omega⟩ (fun h4 => ?_) (fun h4 => ?_)
        · have h4 : y4_3 ≥ (I 65) := h4
          show w_W _ _ _ (36, [(0, .ref 1), (1, .int (Int32.ofInt (p))), (2, .int (Int32.ofInt (y4_2))), (3, .int (Int32.ofInt (y4_3)))], [], M) _
          refine w_adv (n := 1) (F' := (37, [(0, .ref 1), (1, .int (Int32.ofInt (p))), (2, .int (Int32.ofInt (y4_2))), (3, .int (Int32.ofInt (y4_3)))], [.int (Int32.ofInt (y4_2))], M)) rfl ?_
          refine w_fin (r := .inl (some (y4_2))) (M' := M) rfl ?_
          exact ⟨y4_2, rfl, ⟨by omega, by omega⟩, rfl⟩
        · have h4 : ¬ (y4_3 ≥ (I 65)) := h4
          show w_W _ _ _ (17, [(0, .ref 1), (1, .int (Int32.ofInt (p))), (2, .int (Int32.ofInt (y4_2))), (3, .int (Int32.ofInt (y4_3)))], [], M) _
          refine w_adv (n := 2) (F' := (19, [(0, .ref 1), (1, .int (Int32.ofInt (p))), (2, .int (Int32.ofInt (y4_2))), (3, .int (Int32.ofInt (y4_3)))], [.int (Int32.ofInt (y4_3)), .ref 1], M)) rfl ?_
          refine w_call (cm := 46) (as := [(0, .ref 1), (1, .int (Int32.ofInt (y4_3)))]) (rest := []) (o := some (6, 1)) rfl (w_fitR hR rfl) (c_byteAt (y4_3) hR (show 1 ≤ d by omega) ⟨by omega, by omega⟩) (fun r5 M6 q7 => ?_)
          rcases q7 with ⟨v8, e9, ⟨r10, r11⟩, e12⟩
          rw [e9, e12]
          show w_W _ _ _ (22, [(0, .ref 1), (1, .int (Int32.ofInt (p))), (2, .int (Int32.ofInt (y4_2))), (3, .int (Int32.ofInt (y4_3)))], [.int (Int32.ofInt (v8))], M) _
          refine w_adv (n := 1) (F' := (24, [(0, .ref 1), (1, .int (Int32.ofInt (p))), (2, .int (Int32.ofInt (y4_2))), (3, .int (Int32.ofInt (y4_3)))], [.int (Int32.ofInt (10)), .int (Int32.ofInt (v8))], M)) rfl ?_
          refine w_br2 (a := v8) (b := 10) rfl rfl ⟨by omega, by omega⟩ ⟨by omega, by omega⟩ (fun h13 => ?_) (fun h13 => ?_)
          · have h13 : ¬ v8 = 10 := h13
            show w_W _ _ _ (30, [(0, .ref 1), (1, .int (Int32.ofInt (p))), (2, .int (Int32.ofInt (y4_2))), (3, .int (Int32.ofInt (y4_3)))], [], M) _
            refine w_inc (nL := 4) (a := y4_3) rfl rfl rfl (by decide) ?_
            refine w_adv (n := 1) (F' := (4, [(3, .int (Int32.ofInt (y4_3 + 1))), (0, .ref 1), (1, .int (Int32.ofInt (p))), (2, .int (Int32.ofInt (y4_2)))], [], M)) rfl ?_
            refine w_ls (ls := [(0, .ref 1), (1, .int (Int32.ofInt (p))), (2, .int (Int32.ofInt (y4_2))), (3, .int (Int32.ofInt (y4_3 + 1)))]) (show List.Nodup [0, 1, 2, 3] by decide) (show List.Nodup [3, 0, 1, 2] by decide) (List.forall_mem_cons.mpr ⟨(List.Mem.tail _ (List.Mem.head _)), (List.forall_mem_cons.mpr ⟨(List.Mem.tail _ (List.Mem.tail _ (List.Mem.head _))), (List.forall_mem_cons.mpr ⟨(List.Mem.tail _ (List.Mem.tail _ (List.Mem.tail _ (List.Mem.head _)))), (List.forall_mem_cons.mpr ⟨(List.Mem.head _), (fun _ h => by cases h)⟩)⟩)⟩)⟩) ?_
            exact ih4  (y4_2) (y4_3 + 1) ⟨by omega, by omega⟩ ⟨by omega, by omega⟩ (show 0 ≤ (y4_3 + 1) ∧ (y4_3 + 1) ≤ (I 65) ∧ -1 ≤ y4_2 ∧ y4_2 ≤ (y4_3 + 1) + 1 by omega) (show (I 65) - (y4_3 + 1) < (fu4 : Int) by omega)
          · have h13 : ¬ (¬ v8 = 10) := h13
            show w_W _ _ _ (27, [(0, .ref 1), (1, .int (Int32.ofInt (p))), (2, .int (Int32.ofInt (y4_2))), (3, .int (Int32.ofInt (y4_3)))], [], M) _
            refine w_inc (nL := 4) (a := y4_2) rfl rfl rfl (by decide) ?_
            refine w_inc (nL := 4) (a := y4_3) rfl rfl rfl (by decide) ?_
            refine w_adv (n := 1) (F' := (4, [(3, .int (Int32.ofInt (y4_3 + 1))), (2, .int (Int32.ofInt (y4_2 + 1))), (0, .ref 1), (1, .int (Int32.ofInt (p)))], [], M)) rfl ?_
            refine w_ls (ls := [(0, .ref 1), (1, .int (Int32.ofInt (p))), (2, .int (Int32.ofInt (y4_2 + 1))), (3, .int (Int32.ofInt (y4_3 + 1)))]) (show List.Nodup [0, 1, 2, 3] by decide) (show List.Nodup [3, 2, 0, 1] by decide) (List.forall_mem_cons.mpr ⟨(List.Mem.tail _ (List.Mem.tail _ (List.Mem.head _))), (List.forall_mem_cons.mpr ⟨(List.Mem.tail _ (List.Mem.tail _ (List.Mem.tail _ (List.Mem.head _)))), (List.forall_mem_cons.mpr ⟨(List.Mem.tail _ (List.Mem.head _)), (List.forall_mem_cons.mpr ⟨(List.Mem.head _), (fun _ h => by cases h)⟩)⟩)⟩)⟩) ?_
            exact ih4  (y4_2 + 1) (y4_3 + 1) ⟨by omega, by omega⟩ ⟨by omega, by omega⟩ (show 0 ≤ (y4_3 + 1) ∧ (y4_3 + 1) ≤ (I 65) ∧ -1 ≤ (y4_2 + 1) ∧ (y4_2 + 1) ≤ (y4_3 + 1) + 1 by omega) (show (I 65) - (y4_3 + 1) < (fu4 : Int) by omega)
  refine w_ls (ls := [(0, .ref 1), (1, .int (Int32.ofInt (p))), (2, .int (Int32.ofInt (1))), (3, .int (Int32.ofInt (0)))]) (show List.Nodup [0, 1, 2, 3] by decide) (show List.Nodup [3, 2, 0, 1] by decide) (List.forall_mem_cons.mpr ⟨(List.Mem.tail _ (List.Mem.tail _ (List.Mem.head _))), (List.forall_mem_cons.mpr ⟨(List.Mem.tail _ (List.Mem.tail _ (List.Mem.tail _ (List.Mem.head _)))), (List.forall_mem_cons.mpr ⟨(List.Mem.tail _ (List.Mem.head _)), (List.forall_mem_cons.mpr ⟨(List.Mem.head _), (fun _ h => by cases h)⟩)⟩)⟩)⟩) ?_
  exact lp4 (((I 65) - 0 : Int).toNat + 1)  (1) (0) ⟨by omega, by omega⟩ ⟨by omega, by omega⟩ (show 0 ≤ (0 : Int) ∧ (0 : Int) ≤ (I 65) ∧ -1 ≤ (1 : Int) ∧ (1 : Int) ≤ (0 : Int) + 1 by omega) (show (I 65) - 0 < ((((I 65) - 0 : Int).toNat + 1 : Nat) : Int) by omega)
def c_column_Q (fr : Nat → Bool) (X : Nat → Option (q_C (Nat → Int32))) (u l : Nat) (I : Nat → Int) (A : Nat → Int → Int) (B C : Nat → Nat) (M : w_M) (p : Int) : w_X → w_M → Prop := fun r M' => (∃ v : Int, (r = .inl (some v)) ∧ (w_in v) ∧ (M' = M))
set_option maxHeartbeats 100000000 in
set_option maxRecDepth 100000 in
theorem c_column {L : Nat} {xs : Nat → Int32} {d : Nat} {fr : Nat → Bool} {X : Nat → Option (q_C (Nat → Int32))} {u l : Nat} {I : Nat → Int} {A : Nat → Int → Int} {B C : Nat → Nat} {M : w_M} (p : Int) (hR : w_Rep w_TC fr X u l I A B C M) (hd : 2 ≤ d) (r_p : w_in p) (hL : 0 ≤ (I 65) ∧ (I 65) ≤ 8192) : w_W (z_P L xs) d 141 (0, [(0, .ref 1), (1, .int (Int32.ofInt (p)))], [], M) (c_column_Q fr X u l I A B C M p) := by
  obtain ⟨ra_p, rb_p⟩ := r_p
  obtain ⟨d, rfl⟩ : ∃ d0, d = d0 + 1 := ⟨d - 1, by omega⟩
  refine w_adv (n := 4) (F' := (4, [(3, .int (Int32.ofInt (0))), (2, .int (Int32.ofInt ((-1)))), (0, .ref 1), (1, .int (Int32.ofInt (p)))], [], M)) rfl ?_
  have lp4 : ∀ fu4 : Nat, ∀ (y4_2 : Int) (y4_3 : Int), w_in y4_2 → w_in y4_3 → 0 ≤ y4_3 ∧ y4_3 ≤ (I 65) ∧ -1 ≤ y4_2 ∧ y4_2 ≤ y4_3 + 1 → (I 65) - y4_3 < (fu4 : Int) → w_W (z_P L xs) (d + 1) 141 (4, [(0, .ref 1), (1, .int (Int32.ofInt (p))), (2, .int (Int32.ofInt (y4_2))), (3, .int (Int32.ofInt (y4_3)))], [], M) (c_column_Q fr X u l I A B C M p) := by
    intro fu4
    induction fu4 with
    | zero =>
      intro y4_2 y4_3 ⟨ra_y4_2, rb_y4_2⟩ ⟨ra_y4_3, rb_y4_3⟩ hi4_0 hn4
      exfalso
      omega
    | succ fu4 ih4 =>
      intro y4_2 y4_3 ⟨ra_y4_2, rb_y4_2⟩ ⟨ra_y4_3, rb_y4_3⟩ hi4_0 hn4
      refine w_adv (n := 2) (F' := (6, [(0, .ref 1), (1, .int (Int32.ofInt (p))), (2, .int (Int32.ofInt (y4_2))), (3, .int (Int32.ofInt (y4_3)))], [.int (Int32.ofInt (p)), .int (Int32.ofInt (y4_3))], M)) rfl ?_
      refine w_br2 (a := y4_3) (b := p) rfl rfl ⟨by omega, by omega⟩ ⟨by omega, by omega⟩ (fun h1 => ?_) (fun h1 => ?_)
      · have h1 : y4_3 ≥ p := h1
        show w_W _ _ _ (35, [(0, .ref 1), (1, .int (Int32.ofInt (p))), (2, .int (Int32.ofInt (y4_2))), (3, .int (Int32.ofInt (y4_3)))], [], M) _
        refine w_adv (n := 2) (F' := (37, [(0, .ref 1), (1, .int (Int32.ofInt (p))), (2, .int (Int32.ofInt (y4_2))), (3, .int (Int32.ofInt (y4_3)))], [.int (Int32.ofInt (y4_2)), .int (Int32.ofInt (p))], M)) rfl ?_
        refine w_sub rfl ?_
        refine w_int (fun x2 r3 e4 => ?_)
        obtain ⟨r3a, r3b⟩ := r3
        clear e4
        refine w_fin (r := .inl (some (x2))) (M' := M) rfl ?_
        exact ⟨x2, rfl, ⟨by omega, by omega⟩, rfl⟩
      · have h1 : ¬ (y4_3 ≥ p) := h1
        show w_W _ _ _ (9, [(0, .ref 1), (1, .int (Int32.ofInt (p))), (2, .int (Int32.ofInt (y4_2))), (3, .int (Int32.ofInt (y4_3)))], [], M) _
        refine w_adv (n := 2) (F' := (11, [(0, .ref 1), (1, .int (Int32.ofInt (p))), (2, .int (Int32.ofInt (y4_2))), (3, .int (Int32.ofInt (y4_3)))], [.ref 1, .int (Int32.ofInt (y4_3))], M)) rfl ?_
        refine w_gf (v := .int (Int32.ofInt ((I 65)))) hR rfl rfl rfl rfl ?_
        obtain ⟨r5, r6⟩ : -2147483648 ≤ (I 65) ∧ (I 65) ≤ 2147483647 := hR.ri 65
        refine w_br2 (a := y4_3) (b := (I 65)) rfl rfl ⟨by omega, by omega⟩ ⟨by omega, by omega⟩ (fun h7 => ?_) (fun h7 => ?_)
        · have h7 : y4_3 ≥ (I 65) := h7
          show w_W _ _ _ (35, [(0, .ref 1), (1, .int (Int32.ofInt (p))), (2, .int (Int32.ofInt (y4_2))), (3, .int (Int32.ofInt (y4_3)))], [], M) _
          refine w_adv (n := 2) (F' := (37, [(0, .ref 1), (1, .int (Int32.ofInt (p))), (2, .int (Int32.ofInt (y4_2))), (3, .int (Int32.ofInt (y4_3)))], [.int (Int32.ofInt (y4_2)), .int (Int32.ofInt (p))], M)) rfl ?_
          refine w_sub rfl ?_
          refine w_int (fun x8 r9 e10 => ?_)
          obtain ⟨r9a, r9b⟩ := r9
          clear e10
          refine w_fin (r := .inl (some (x8))) (M' := M) rfl ?_
          exact ⟨x8, rfl, ⟨by omega, by omega⟩, rfl⟩
        · have h7 : ¬ (y4_3 ≥ (I 65)) := h7
          show w_W _ _ _ (17, [(0, .ref 1), (1, .int (Int32.ofInt (p))), (2, .int (Int32.ofInt (y4_2))), (3, .int (Int32.ofInt (y4_3)))], [], M) _
          refine w_adv (n := 2) (F' := (19, [(0, .ref 1), (1, .int (Int32.ofInt (p))), (2, .int (Int32.ofInt (y4_2))), (3, .int (Int32.ofInt (y4_3)))], [.int (Int32.ofInt (y4_3)), .ref 1], M)) rfl ?_
          refine w_call (cm := 46) (as := [(0, .ref 1), (1, .int (Int32.ofInt (y4_3)))]) (rest := []) (o := some (6, 1)) rfl (w_fitR hR rfl) (c_byteAt (y4_3) hR (show 1 ≤ d by omega) ⟨by omega, by omega⟩) (fun r11 M12 q13 => ?_)
          rcases q13 with ⟨v14, e15, ⟨r16, r17⟩, e18⟩
          rw [e15, e18]
          show w_W _ _ _ (22, [(0, .ref 1), (1, .int (Int32.ofInt (p))), (2, .int (Int32.ofInt (y4_2))), (3, .int (Int32.ofInt (y4_3)))], [.int (Int32.ofInt (v14))], M) _
          refine w_adv (n := 1) (F' := (24, [(0, .ref 1), (1, .int (Int32.ofInt (p))), (2, .int (Int32.ofInt (y4_2))), (3, .int (Int32.ofInt (y4_3)))], [.int (Int32.ofInt (10)), .int (Int32.ofInt (v14))], M)) rfl ?_
          refine w_br2 (a := v14) (b := 10) rfl rfl ⟨by omega, by omega⟩ ⟨by omega, by omega⟩ (fun h19 => ?_) (fun h19 => ?_)
          · have h19 : ¬ v14 = 10 := h19
            show w_W _ _ _ (29, [(0, .ref 1), (1, .int (Int32.ofInt (p))), (2, .int (Int32.ofInt (y4_2))), (3, .int (Int32.ofInt (y4_3)))], [], M) _
            refine w_inc (nL := 4) (a := y4_3) rfl rfl rfl (by decide) ?_
            refine w_adv (n := 1) (F' := (4, [(3, .int (Int32.ofInt (y4_3 + 1))), (0, .ref 1), (1, .int (Int32.ofInt (p))), (2, .int (Int32.ofInt (y4_2)))], [], M)) rfl ?_
            refine w_ls (ls := [(0, .ref 1), (1, .int (Int32.ofInt (p))), (2, .int (Int32.ofInt (y4_2))), (3, .int (Int32.ofInt (y4_3 + 1)))]) (show List.Nodup [0, 1, 2, 3] by decide) (show List.Nodup [3, 0, 1, 2] by decide) (List.forall_mem_cons.mpr ⟨(List.Mem.tail _ (List.Mem.head _)), (List.forall_mem_cons.mpr ⟨(List.Mem.tail _ (List.Mem.tail _ (List.Mem.head _))), (List.forall_mem_cons.mpr ⟨(List.Mem.tail _ (List.Mem.tail _ (List.Mem.tail _ (List.Mem.head _)))), (List.forall_mem_cons.mpr ⟨(List.Mem.head _), (fun _ h => by cases h)⟩)⟩)⟩)⟩) ?_
            exact ih4  (y4_2) (y4_3 + 1) ⟨by omega, by omega⟩ ⟨by omega, by omega⟩ (show 0 ≤ (y4_3 + 1) ∧ (y4_3 + 1) ≤ (I 65) ∧ -1 ≤ y4_2 ∧ y4_2 ≤ (y4_3 + 1) + 1 by omega) (show (I 65) - (y4_3 + 1) < (fu4 : Int) by omega)
          · have h19 : ¬ (¬ v14 = 10) := h19
            show w_W _ _ _ (27, [(0, .ref 1), (1, .int (Int32.ofInt (p))), (2, .int (Int32.ofInt (y4_2))), (3, .int (Int32.ofInt (y4_3)))], [], M) _
            refine w_adv (n := 2) (F' := (29, [(2, .int (Int32.ofInt (y4_3))), (0, .ref 1), (1, .int (Int32.ofInt (p))), (3, .int (Int32.ofInt (y4_3)))], [], M)) rfl ?_
            refine w_inc (nL := 4) (a := y4_3) rfl rfl rfl (by decide) ?_
            refine w_adv (n := 1) (F' := (4, [(3, .int (Int32.ofInt (y4_3 + 1))), (2, .int (Int32.ofInt (y4_3))), (0, .ref 1), (1, .int (Int32.ofInt (p)))], [], M)) rfl ?_
            refine w_ls (ls := [(0, .ref 1), (1, .int (Int32.ofInt (p))), (2, .int (Int32.ofInt (y4_3))), (3, .int (Int32.ofInt (y4_3 + 1)))]) (show List.Nodup [0, 1, 2, 3] by decide) (show List.Nodup [3, 2, 0, 1] by decide) (List.forall_mem_cons.mpr ⟨(List.Mem.tail _ (List.Mem.tail _ (List.Mem.head _))), (List.forall_mem_cons.mpr ⟨(List.Mem.tail _ (List.Mem.tail _ (List.Mem.tail _ (List.Mem.head _)))), (List.forall_mem_cons.mpr ⟨(List.Mem.tail _ (List.Mem.head _)), (List.forall_mem_cons.mpr ⟨(List.Mem.head _), (fun _ h => by cases h)⟩)⟩)⟩)⟩) ?_
            exact ih4  (y4_3) (y4_3 + 1) ⟨by omega, by omega⟩ ⟨by omega, by omega⟩ (show 0 ≤ (y4_3 + 1) ∧ (y4_3 + 1) ≤ (I 65) ∧ -1 ≤ y4_3 ∧ y4_3 ≤ (y4_3 + 1) + 1 by omega) (show (I 65) - (y4_3 + 1) < (fu4 : Int) by omega)
  refine w_ls (ls := [(0, .ref 1), (1, .int (Int32.ofInt (p))), (2, .int (Int32.ofInt ((-1)))), (3, .int (Int32.ofInt (0)))]) (show List.Nodup [0, 1, 2, 3] by decide) (show List.Nodup [3, 2, 0, 1] by decide) (List.forall_mem_cons.mpr ⟨(List.Mem.tail _ (List.Mem.tail _ (List.Mem.head _))), (List.forall_mem_cons.mpr ⟨(List.Mem.tail _ (List.Mem.tail _ (List.Mem.tail _ (List.Mem.head _)))), (List.forall_mem_cons.mpr ⟨(List.Mem.tail _ (List.Mem.head _)), (List.forall_mem_cons.mpr ⟨(List.Mem.head _), (fun _ h => by cases h)⟩)⟩)⟩)⟩) ?_
  exact lp4 (((I 65) - 0 : Int).toNat + 1)  ((-1)) (0) ⟨by omega, by omega⟩ ⟨by omega, by omega⟩ (show 0 ≤ (0 : Int) ∧ (0 : Int) ≤ (I 65) ∧ -1 ≤ ((-1) : Int) ∧ ((-1) : Int) ≤ (0 : Int) + 1 by omega) (show (I 65) - 0 < ((((I 65) - 0 : Int).toNat + 1 : Nat) : Int) by omega)
