/-! NAMES of the class. -/
def c_fr (ts ta : Nat → Bool) (I : Nat → Int) (A : Nat → Int → Int) (I' : Nat → Int) (A' : Nat → Int → Int) : Prop := (∀ s, ts s = false → I' s = I s) ∧ ∀ k, ta k = false → A' k = A k
theorem c_fr_refl {ts ta : Nat → Bool} {I : Nat → Int} {A : Nat → Int → Int} : c_fr ts ta I A I A := ⟨fun _ _ => rfl, fun _ _ => rfl⟩
theorem c_fr_trans {ts ta : Nat → Bool} {I I' I'' : Nat → Int} {A A' A'' : Nat → Int → Int} (h : c_fr ts ta I A I' A') (g : c_fr ts ta I' A' I'' A'') : c_fr ts ta I A I'' A'' := ⟨fun s e => (g.1 s e).trans (h.1 s e), fun k e => (g.2 k e).trans (h.2 k e)⟩
theorem c_fr_up {ts ta : Nat → Bool} {I I' : Nat → Int} {A A' : Nat → Int → Int} {s : Nat} {v : Int} (h : c_fr ts ta I A I' A') (hs : ts s = true) : c_fr ts ta I A (w_up I' s v) A' := ⟨fun j e => by
  rw [w_up_ne (fun q => by rw [q, hs] at e; cases e)]
  exact h.1 j e, h.2⟩
theorem c_fr_upF {ts ta : Nat → Bool} {I I' : Nat → Int} {A A' : Nat → Int → Int} {k : Nat} {g : Int → Int} (h : c_fr ts ta I A I' A') (hs : ta k = true) : c_fr ts ta I A I' (w_upF A' k g) := ⟨h.1, fun j e => by
  rw [w_upF_ne (fun q => by rw [q, hs] at e; cases e)]
  exact h.2 j e⟩
def c_in (a b k : Nat) : Bool := Nat.ble a k && Nat.ble k b
/-- what names and tokens may change -/
def c_ts (s : Nat) : Bool := Nat.beq (s / 64) 3 || Nat.beq (s / 64) 12
def c_ta (k : Nat) : Bool := c_in 4 11 k || c_in 13 15 k
theorem c_LN_upG {n : Nat} {g : Int → Int} {j v : Int} (h : ∀ i, g i ≤ 24) (hv : v ≤ 24) : ∀ i, w_upG n g j v i ≤ 24 := fun i => by
  unfold w_upG
  by_cases e : 0 ≤ j ∧ j < (n : Int)
  · rw [if_pos e]
    unfold w_upA
    by_cases e2 : i = j
    · rw [if_pos e2]; exact hv
    · rw [if_neg e2]; exact h i
  · rw [if_neg e]; exact h i
theorem w_exc {P : y_P} {d mi : Nat} {Q : w_X → w_M → Prop} {ls : y_L} {T : w_T} {fr : Nat → Bool} {X : Nat → Option (q_C (Nat → Int32))} {u l : Nat} {I : Nat → Int} {A : Nat → Int → Int} {B C : Nat → Nat} {M : w_M} {pc len idx cE ic ic' l3 l4 : Nat} {st : List Value} (h : w_Rep T fr X u l I A B C M) (hins : y_ins P mi pc = some (.new idx, len)) (hc : y_cls P mi idx = none) (he : y_exc P mi idx = some (cE, ic)) (h3 : y_ins P mi (pc + 3) = some (.dup, l3)) (h4 : y_ins P mi (pc + 4) = some (.invokespecial ic', l4)) (hic : Nat.beq ic ic' = true) (hw : Nat.ble (y_words st) 6 = true) (hl : l ≤ 7000000) (k : ∀ M', w_Rep T fr X (u + 6) (l + 64) I A B C M' → M'.1[M.1.length]? = some (.inr (cE, [])) → w_W P d mi (pc + 7, ls, .ref M.1.length :: st, M') Q) : w_W P d mi (pc, ls, st, M) Q := by
  have hlen := h.len
  have hb : Nat.blt (M.1.length + 1) 1000000 = true := Nat.ble_eq_true_of_le (by omega)
  refine w_oth hins rfl ?_ (k (M.1 ++ [.inr (cE, [])], M.2.1 + 1, M.2.2 + 6) (h.exc hl) ?_)
  · show (match y_cls P mi idx with
      | some (ci, fs) => q_new ci fs pc ls st M
      | none => q_mkE P mi idx pc ls st M) = _
    rw [hc]
    show q_mkE P mi idx pc ls st M = _
    unfold q_mkE
    rw [he, h3, h4]
    dsimp only
    rw [hic, hw, hb]
    rfl
  · show (M.1 ++ [(.inr (cE, []) : q_C (Nat → Int32))])[M.1.length]? = _
    rw [List.getElem?_append_right (Nat.le_refl _), Nat.sub_self]
    rfl
def c_Names_begin_Q (fr : Nat → Bool) (X : Nat → Option (q_C (Nat → Int32))) (u l : Nat) (I : Nat → Int) (A : Nat → Int → Int) (B C : Nat → Nat) (M : w_M) : w_X → w_M → Prop := fun r M' => ((r = .inl none) ∧ (w_Rep w_TC fr X u l (w_up I 202 (0)) A B C M'))
set_option maxHeartbeats 100000000 in
set_option maxRecDepth 100000 in
theorem c_Names_begin {L : Nat} {xs : Nat → Int32} {d : Nat} {fr : Nat → Bool} {X : Nat → Option (q_C (Nat → Int32))} {u l : Nat} {I : Nat → Int} {A : Nat → Int → Int} {B C : Nat → Nat} {M : w_M} (hR : w_Rep w_TC fr X u l I A B C M) : w_W (z_P L xs) d 7 (0, [(0, .ref 3)], [], M) (c_Names_begin_Q fr X u l I A B C M) := by
  refine w_adv (n := 2) (F' := (2, [(0, .ref 3)], [.int (Int32.ofInt (0)), .ref 3], M)) rfl ?_
  refine w_pf hR rfl rfl rfl rfl (show w_in (0) from ⟨by omega, by omega⟩) (fun h => absurd h (by decide)) (fun M1 hR2 => ?_)
  replace hR2 : w_Rep w_TC fr X u l (w_up I 202 (0)) A B C M1 := hR2
  refine w_fin (r := .inl none) (M' := M1) rfl ?_
  exact ⟨rfl, hR2⟩
def c_tryByte_Q (fr : Nat → Bool) (X : Nat → Option (q_C (Nat → Int32))) (u l : Nat) (I : Nat → Int) (A : Nat → Int → Int) (B C : Nat → Nat) (M : w_M) (b : Int) : w_X → w_M → Prop := fun r M' => (∃ gb : Int → Int, ∃ zt : Int, (r = .inl none) ∧ (w_Rep w_TC fr X u l (w_up I 202 (zt)) (w_upF A 4 gb) B C M') ∧ (0 ≤ zt ∧ zt ≤ 24))
set_option maxHeartbeats 100000000 in
set_option maxRecDepth 100000 in
theorem c_tryByte {L : Nat} {xs : Nat → Int32} {d : Nat} {fr : Nat → Bool} {X : Nat → Option (q_C (Nat → Int32))} {u l : Nat} {I : Nat → Int} {A : Nat → Int → Int} {B C : Nat → Nat} {M : w_M} (b : Int) (hR : w_Rep w_TC fr X u l I A B C M) (r_b : w_in b) (hNM : 36 ≤ (I 200) ∧ (I 200) ≤ 419 ∧ 0 ≤ (I 202) ∧ (I 202) ≤ 24) : w_W (z_P L xs) d 26 (0, [(0, .ref 3), (1, .int (Int32.ofInt (b)))], [], M) (c_tryByte_Q fr X u l I A B C M b) := by
  obtain ⟨ra_b, rb_b⟩ := r_b
  refine w_adv (n := 1) (F' := (1, [(0, .ref 3), (1, .int (Int32.ofInt (b)))], [.ref 3], M)) rfl ?_
  refine w_gf (v := .int (Int32.ofInt ((I 200)))) hR rfl rfl rfl rfl ?_
  obtain ⟨r1, r2⟩ : -2147483648 ≤ (I 200) ∧ (I 200) ≤ 2147483647 := hR.ri 200
  refine w_adv (n := 1) (F' := (6, [(0, .ref 3), (1, .int (Int32.ofInt (b)))], [.int (Int32.ofInt (24)), .int (Int32.ofInt ((I 200)))], M)) rfl ?_
  refine w_mul rfl ?_
  refine w_adv (n := 1) (F' := (8, [(0, .ref 3), (1, .int (Int32.ofInt (b)))], [.ref 3, .int (Int32.ofInt ((I 200) * 24))], M)) rfl ?_
  refine w_gf (v := .int (Int32.ofInt ((I 202)))) hR rfl rfl rfl rfl ?_
  obtain ⟨r3, r4⟩ : -2147483648 ≤ (I 202) ∧ (I 202) ≤ 2147483647 := hR.ri 202
  refine w_add rfl ?_
  refine w_adv (n := 2) (F' := (14, [(2, .int (Int32.ofInt (((I 200) * 24) + (I 202)))), (0, .ref 3), (1, .int (Int32.ofInt (b)))], [.ref 3], M)) rfl ?_
  refine w_gf (v := .int (Int32.ofInt ((I 202)))) hR rfl rfl rfl rfl ?_
  refine w_adv (n := 1) (F' := (19, [(2, .int (Int32.ofInt (((I 200) * 24) + (I 202)))), (0, .ref 3), (1, .int (Int32.ofInt (b)))], [.int (Int32.ofInt (24)), .int (Int32.ofInt ((I 202)))], M)) rfl ?_
  refine w_br2 (a := (I 202)) (b := 24) rfl rfl ⟨by omega, by omega⟩ ⟨by omega, by omega⟩ (fun h5 => ?_) (fun h5 => ?_)
  · have h5 : (I 202) ≥ 24 := h5
    show w_W _ _ _ (49, [(2, .int (Int32.ofInt (((I 200) * 24) + (I 202)))), (0, .ref 3), (1, .int (Int32.ofInt (b)))], [], M) _
    refine w_fin (r := .inl none) (M' := M) rfl ?_
    exact ⟨(A 4), (I 202), rfl, (w_Rep.up hR (show (w_up I 202 ((I 202))) = I from (funext fun s => if e0 : s = 202 then (by subst e0; rfl) else (by simp only [w_up_ne e0]))) (show (w_upF A 4 (A 4)) = A from (funext fun s => if e0 : s = 4 then (by subst e0; rfl) else (by simp only [w_upF_ne e0])))), (show 0 ≤ (I 202) ∧ (I 202) ≤ 24 by first | assumption | omega)⟩
  · have h5 : ¬ ((I 202) ≥ 24) := h5
    show w_W _ _ _ (22, [(2, .int (Int32.ofInt (((I 200) * 24) + (I 202)))), (0, .ref 3), (1, .int (Int32.ofInt (b)))], [], M) _
    refine w_adv (n := 2) (F' := (24, [(2, .int (Int32.ofInt (((I 200) * 24) + (I 202)))), (0, .ref 3), (1, .int (Int32.ofInt (b)))], [.ref 3, .int (Int32.ofInt (((I 200) * 24) + (I 202)))], M)) rfl ?_
    refine w_gf (v := .ref 4) hR rfl rfl rfl rfl ?_
    refine w_lena (n := 10080) hR rfl rfl rfl ?_
    show w_W _ _ _ (28, [(2, .int (Int32.ofInt (((I 200) * 24) + (I 202)))), (0, .ref 3), (1, .int (Int32.ofInt (b)))], [.int (Int32.ofInt (10080)), .int (Int32.ofInt (((I 200) * 24) + (I 202)))], M) _
    refine w_br2 (a := ((I 200) * 24) + (I 202)) (b := 10080) rfl rfl ⟨by omega, by omega⟩ ⟨by omega, by omega⟩ (fun h6 => ?_) (fun h6 => ?_)
    · have h6 : ((I 200) * 24) + (I 202) ≥ 10080 := h6
      show w_W _ _ _ (49, [(2, .int (Int32.ofInt (((I 200) * 24) + (I 202)))), (0, .ref 3), (1, .int (Int32.ofInt (b)))], [], M) _
      refine w_fin (r := .inl none) (M' := M) rfl ?_
      exact ⟨(A 4), (I 202), rfl, (w_Rep.up hR (show (w_up I 202 ((I 202))) = I from (funext fun s => if e0 : s = 202 then (by subst e0; rfl) else (by simp only [w_up_ne e0]))) (show (w_upF A 4 (A 4)) = A from (funext fun s => if e0 : s = 4 then (by subst e0; rfl) else (by simp only [w_upF_ne e0])))), (show 0 ≤ (I 202) ∧ (I 202) ≤ 24 by first | assumption | omega)⟩
    · have h6 : ¬ (((I 200) * 24) + (I 202) ≥ 10080) := h6
      show w_W _ _ _ (31, [(2, .int (Int32.ofInt (((I 200) * 24) + (I 202)))), (0, .ref 3), (1, .int (Int32.ofInt (b)))], [], M) _
      refine w_adv (n := 1) (F' := (32, [(2, .int (Int32.ofInt (((I 200) * 24) + (I 202)))), (0, .ref 3), (1, .int (Int32.ofInt (b)))], [.ref 3], M)) rfl ?_
      refine w_gf (v := .ref 4) hR rfl rfl rfl rfl ?_
      refine w_adv (n := 3) (F' := (38, [(2, .int (Int32.ofInt (((I 200) * 24) + (I 202)))), (0, .ref 3), (1, .int (Int32.ofInt (b)))], [.int ((Int32.ofInt (b)).toInt8.toInt32), .int (Int32.ofInt (((I 200) * 24) + (I 202))), .ref 4], M)) rfl ?_
      refine w_int (fun x7 r8 e9 => ?_)
      obtain ⟨r8a, r8b⟩ := r8
      refine w_sab (n := 10080) hR rfl rfl (show 0 ≤ ((I 200) * 24) + (I 202) by omega) (show ((I 200) * 24) + (I 202) < (10080 : Int) by omega) (by decide) (fun M10 hR11 => ?_)
      replace hR11 : w_Rep w_TC fr X u l I (w_upF A 4 (w_upA (A 4) (((I 200) * 24) + (I 202)) (w_nb (x7)))) B C M10 := hR11
      refine w_adv (n := 2) (F' := (41, [(2, .int (Int32.ofInt (((I 200) * 24) + (I 202)))), (0, .ref 3), (1, .int (Int32.ofInt (b)))], [.ref 3, .ref 3], M10)) rfl ?_
      refine w_gf (v := .int (Int32.ofInt ((I 202)))) hR11 rfl rfl rfl rfl ?_
      refine w_adv (n := 1) (F' := (45, [(2, .int (Int32.ofInt (((I 200) * 24) + (I 202)))), (0, .ref 3), (1, .int (Int32.ofInt (b)))], [.int (Int32.ofInt (1)), .int (Int32.ofInt ((I 202))), .ref 3], M10)) rfl ?_
      refine w_add rfl ?_
      refine w_pf hR11 rfl rfl rfl rfl (show w_in ((I 202) + 1) from ⟨by omega, by omega⟩) (fun h => absurd h (by decide)) (fun M12 hR13 => ?_)
      replace hR13 : w_Rep w_TC fr X u l (w_up I 202 ((I 202) + 1)) (w_upF A 4 (w_upA (A 4) (((I 200) * 24) + (I 202)) (w_nb (x7)))) B C M12 := hR13
      refine w_fin (r := .inl none) (M' := M12) rfl ?_
      exact ⟨(w_upA (A 4) (((I 200) * 24) + (I 202)) (w_nb (x7))), (I 202) + 1, rfl, hR13, (show 0 ≤ (I 202) + 1 ∧ (I 202) + 1 ≤ 24 by first | assumption | omega)⟩
def c_hashOfTried_Q (fr : Nat → Bool) (X : Nat → Option (q_C (Nat → Int32))) (u l : Nat) (I : Nat → Int) (A : Nat → Int → Int) (B C : Nat → Nat) (M : w_M) : w_X → w_M → Prop := fun r M' => (∃ v : Int, (r = .inl (some v)) ∧ (w_in v) ∧ (M' = M))
set_option maxHeartbeats 100000000 in
set_option maxRecDepth 100000 in
theorem c_hashOfTried {L : Nat} {xs : Nat → Int32} {d : Nat} {fr : Nat → Bool} {X : Nat → Option (q_C (Nat → Int32))} {u l : Nat} {I : Nat → Int} {A : Nat → Int → Int} {B C : Nat → Nat} {M : w_M} (hR : w_Rep w_TC fr X u l I A B C M) (hNM : 36 ≤ (I 200) ∧ (I 200) ≤ 419 ∧ 0 ≤ (I 202) ∧ (I 202) ≤ 24) : w_W (z_P L xs) d 20 (0, [(0, .ref 3)], [], M) (c_hashOfTried_Q fr X u l I A B C M) := by
  refine w_adv (n := 1) (F' := (1, [(0, .ref 3)], [.ref 3], M)) rfl ?_
  refine w_gf (v := .int (Int32.ofInt ((I 202)))) hR rfl rfl rfl rfl ?_
  obtain ⟨r1, r2⟩ : -2147483648 ≤ (I 202) ∧ (I 202) ≤ 2147483647 := hR.ri 202
  refine w_adv (n := 2) (F' := (6, [(1, .int (Int32.ofInt ((I 202)))), (0, .ref 3)], [.ref 3], M)) rfl ?_
  refine w_gf (v := .int (Int32.ofInt ((I 200)))) hR rfl rfl rfl rfl ?_
  obtain ⟨r3, r4⟩ : -2147483648 ≤ (I 200) ∧ (I 200) ≤ 2147483647 := hR.ri 200
  refine w_adv (n := 1) (F' := (11, [(1, .int (Int32.ofInt ((I 202)))), (0, .ref 3)], [.int (Int32.ofInt (24)), .int (Int32.ofInt ((I 200)))], M)) rfl ?_
  refine w_mul rfl ?_
  refine w_adv (n := 3) (F' := (15, [(3, .int (Int32.ofInt (0))), (2, .int (Int32.ofInt ((I 200) * 24))), (1, .int (Int32.ofInt ((I 202)))), (0, .ref 3)], [], M)) rfl ?_
  have lp15 : ∀ fu15 : Nat, ∀ (y15_1 : Int) (y15_3 : Int), w_in y15_1 → w_in y15_3 → 0 ≤ y15_3 ∧ y15_3 ≤ 24 → 24 - y15_3 < (fu15 : Int) → w_W (z_P L xs) d 20 (15, [(0, .ref 3), (1, .int (Int32.ofInt (y15_1))), (2, .int (Int32.ofInt ((I 200) * 24))), (3, .int (Int32.ofInt (y15_3)))], [], M) (c_hashOfTried_Q fr X u l I A B C M) := by
    intro fu15
    induction fu15 with
    | zero =>
      intro y15_1 y15_3 ⟨ra_y15_1, rb_y15_1⟩ ⟨ra_y15_3, rb_y15_3⟩ hi15_0 hn15
      exfalso
      omega
    | succ fu15 ih15 =>
      intro y15_1 y15_3 ⟨ra_y15_1, rb_y15_1⟩ ⟨ra_y15_3, rb_y15_3⟩ hi15_0 hn15
      refine w_adv (n := 2) (F' := (17, [(0, .ref 3), (1, .int (Int32.ofInt (y15_1))), (2, .int (Int32.ofInt ((I 200) * 24))), (3, .int (Int32.ofInt (y15_3)))], [.ref 3, .int (Int32.ofInt (y15_3))], M)) rfl ?_
      refine w_gf (v := .int (Int32.ofInt ((I 202)))) hR rfl rfl rfl rfl ?_
      refine w_br2 (a := y15_3) (b := (I 202)) rfl rfl ⟨by omega, by omega⟩ ⟨by omega, by omega⟩ (fun h5 => ?_) (fun h5 => ?_)
      · have h5 : y15_3 ≥ (I 202) := h5
        show w_W _ _ _ (54, [(0, .ref 3), (1, .int (Int32.ofInt (y15_1))), (2, .int (Int32.ofInt ((I 200) * 24))), (3, .int (Int32.ofInt (y15_3)))], [], M) _
        refine w_adv (n := 2) (F' := (56, [(0, .ref 3), (1, .int (Int32.ofInt (y15_1))), (2, .int (Int32.ofInt ((I 200) * 24))), (3, .int (Int32.ofInt (y15_3)))], [.ref 3, .int (Int32.ofInt (y15_1))], M)) rfl ?_
        refine w_gf (v := .ref 10) hR rfl rfl rfl rfl ?_
        refine w_lena (n := 256) hR rfl rfl rfl ?_
        show w_W _ _ _ (60, [(0, .ref 3), (1, .int (Int32.ofInt (y15_1))), (2, .int (Int32.ofInt ((I 200) * 24))), (3, .int (Int32.ofInt (y15_3)))], [.int (Int32.ofInt (256)), .int (Int32.ofInt (y15_1))], M) _
        refine w_adv (n := 3) (F' := (63, [(0, .ref 3), (1, .int (Int32.ofInt (y15_1))), (2, .int (Int32.ofInt ((I 200) * 24))), (3, .int (Int32.ofInt (y15_3)))], [.int ((Int32.ofInt (y15_1)) &&& (Int32.ofInt (255)))], M)) rfl ?_
        refine w_int (fun x6 r7 e8 => ?_)
        obtain ⟨r7a, r7b⟩ := r7
        refine w_fin (r := .inl (some (x6))) (M' := M) rfl ?_
        exact ⟨x6, rfl, ⟨by omega, by omega⟩, rfl⟩
      · have h5 : ¬ (y15_3 ≥ (I 202)) := h5
        show w_W _ _ _ (23, [(0, .ref 3), (1, .int (Int32.ofInt (y15_1))), (2, .int (Int32.ofInt ((I 200) * 24))), (3, .int (Int32.ofInt (y15_3)))], [], M) _
        refine w_adv (n := 2) (F' := (25, [(0, .ref 3), (1, .int (Int32.ofInt (y15_1))), (2, .int (Int32.ofInt ((I 200) * 24))), (3, .int (Int32.ofInt (y15_3)))], [.int (Int32.ofInt (y15_3)), .int (Int32.ofInt ((I 200) * 24))], M)) rfl ?_
        refine w_add rfl ?_
        refine w_adv (n := 1) (F' := (27, [(0, .ref 3), (1, .int (Int32.ofInt (y15_1))), (2, .int (Int32.ofInt ((I 200) * 24))), (3, .int (Int32.ofInt (y15_3)))], [.ref 3, .int (Int32.ofInt (((I 200) * 24) + y15_3))], M)) rfl ?_
        refine w_gf (v := .ref 4) hR rfl rfl rfl rfl ?_
        refine w_lena (n := 10080) hR rfl rfl rfl ?_
        show w_W _ _ _ (31, [(0, .ref 3), (1, .int (Int32.ofInt (y15_1))), (2, .int (Int32.ofInt ((I 200) * 24))), (3, .int (Int32.ofInt (y15_3)))], [.int (Int32.ofInt (10080)), .int (Int32.ofInt (((I 200) * 24) + y15_3))], M) _
        refine w_br2 (a := ((I 200) * 24) + y15_3) (b := 10080) rfl rfl ⟨by omega, by omega⟩ ⟨by omega, by omega⟩ (fun h9 => ?_) (fun h9 => ?_)
        · have h9 : ((I 200) * 24) + y15_3 ≥ 10080 := h9
          show w_W _ _ _ (54, [(0, .ref 3), (1, .int (Int32.ofInt (y15_1))), (2, .int (Int32.ofInt ((I 200) * 24))), (3, .int (Int32.ofInt (y15_3)))], [], M) _
          refine w_adv (n := 2) (F' := (56, [(0, .ref 3), (1, .int (Int32.ofInt (y15_1))), (2, .int (Int32.ofInt ((I 200) * 24))), (3, .int (Int32.ofInt (y15_3)))], [.ref 3, .int (Int32.ofInt (y15_1))], M)) rfl ?_
          refine w_gf (v := .ref 10) hR rfl rfl rfl rfl ?_
          refine w_lena (n := 256) hR rfl rfl rfl ?_
          show w_W _ _ _ (60, [(0, .ref 3), (1, .int (Int32.ofInt (y15_1))), (2, .int (Int32.ofInt ((I 200) * 24))), (3, .int (Int32.ofInt (y15_3)))], [.int (Int32.ofInt (256)), .int (Int32.ofInt (y15_1))], M) _
          refine w_adv (n := 3) (F' := (63, [(0, .ref 3), (1, .int (Int32.ofInt (y15_1))), (2, .int (Int32.ofInt ((I 200) * 24))), (3, .int (Int32.ofInt (y15_3)))], [.int ((Int32.ofInt (y15_1)) &&& (Int32.ofInt (255)))], M)) rfl ?_
          refine w_int (fun x10 r11 e12 => ?_)
          obtain ⟨r11a, r11b⟩ := r11
          refine w_fin (r := .inl (some (x10))) (M' := M) rfl ?_
          exact ⟨x10, rfl, ⟨by omega, by omega⟩, rfl⟩
        · have h9 : ¬ (((I 200) * 24) + y15_3 ≥ 10080) := h9
          show w_W _ _ _ (34, [(0, .ref 3), (1, .int (Int32.ofInt (y15_1))), (2, .int (Int32.ofInt ((I 200) * 24))), (3, .int (Int32.ofInt (y15_3)))], [], M) _
          refine w_adv (n := 2) (F' := (37, [(0, .ref 3), (1, .int (Int32.ofInt (y15_1))), (2, .int (Int32.ofInt ((I 200) * 24))), (3, .int (Int32.ofInt (y15_3)))], [.int (Int32.ofInt (31)), .int (Int32.ofInt (y15_1))], M)) rfl ?_
          refine w_mul rfl ?_
          refine w_int (fun x13 r14 e15 => ?_)
          obtain ⟨r14a, r14b⟩ := r14
          clear e15
          refine w_adv (n := 1) (F' := (39, [(0, .ref 3), (1, .int (Int32.ofInt (y15_1))), (2, .int (Int32.ofInt ((I 200) * 24))), (3, .int (Int32.ofInt (y15_3)))], [.ref 3, .int (Int32.ofInt (x13))], M)) rfl ?_
          refine w_gf (v := .ref 4) hR rfl rfl rfl rfl ?_
          refine w_adv (n := 2) (F' := (44, [(0, .ref 3), (1, .int (Int32.ofInt (y15_1))), (2, .int (Int32.ofInt ((I 200) * 24))), (3, .int (Int32.ofInt (y15_3)))], [.int (Int32.ofInt (y15_3)), .int (Int32.ofInt ((I 200) * 24)), .ref 4, .int (Int32.ofInt (x13))], M)) rfl ?_
          refine w_add rfl ?_
          refine w_la (n := 10080) hR rfl (Or.inr ⟨rfl, rfl⟩) rfl (show 0 ≤ ((I 200) * 24) + y15_3 by omega) (show ((I 200) * 24) + y15_3 < (10080 : Int) by omega) (by decide) ?_
          obtain ⟨r16, r17⟩ : -2147483648 ≤ (A 4) (((I 200) * 24) + y15_3) ∧ (A 4) (((I 200) * 24) + y15_3) ≤ 2147483647 := hR.ra 4 (((I 200) * 24) + y15_3)
          show w_W _ _ _ (46, [(0, .ref 3), (1, .int (Int32.ofInt (y15_1))), (2, .int (Int32.ofInt ((I 200) * 24))), (3, .int (Int32.ofInt (y15_3)))], [.int (Int32.ofInt ((A 4) (((I 200) * 24) + y15_3))), .int (Int32.ofInt (x13))], M) _
          refine w_add rfl ?_
          refine w_int (fun x18 r19 e20 => ?_)
          obtain ⟨r19a, r19b⟩ := r19
          clear e20
          refine w_adv (n := 1) (F' := (48, [(1, .int (Int32.ofInt (x18))), (0, .ref 3), (2, .int (Int32.ofInt ((I 200) * 24))), (3, .int (Int32.ofInt (y15_3)))], [], M)) rfl ?_
          refine w_inc (nL := 4) (a := y15_3) rfl rfl rfl (by decide) ?_
          refine w_adv (n := 1) (F' := (15, [(3, .int (Int32.ofInt (y15_3 + 1))), (1, .int (Int32.ofInt (x18))), (0, .ref 3), (2, .int (Int32.ofInt ((I 200) * 24)))], [], M)) rfl ?_
          refine w_ls (ls := [(0, .ref 3), (1, .int (Int32.ofInt (x18))), (2, .int (Int32.ofInt ((I 200) * 24))), (3, .int (Int32.ofInt (y15_3 + 1)))]) (show List.Nodup [0, 1, 2, 3] by decide) (show List.Nodup [3, 1, 0, 2] by decide) (List.forall_mem_cons.mpr ⟨(List.Mem.tail _ (List.Mem.tail _ (List.Mem.head _))), (List.forall_mem_cons.mpr ⟨(List.Mem.tail _ (List.Mem.head _)), (List.forall_mem_cons.mpr ⟨(List.Mem.tail _ (List.Mem.tail _ (List.Mem.tail _ (List.Mem.head _)))), (List.forall_mem_cons.mpr ⟨(List.Mem.head _), (fun _ h => by cases h)⟩)⟩)⟩)⟩) ?_
          exact ih15  (x18) (y15_3 + 1) ⟨by omega, by omega⟩ ⟨by omega, by omega⟩ (show 0 ≤ (y15_3 + 1) ∧ (y15_3 + 1) ≤ 24 by omega) (show 24 - (y15_3 + 1) < (fu15 : Int) by omega)
  refine w_ls (ls := [(0, .ref 3), (1, .int (Int32.ofInt ((I 202)))), (2, .int (Int32.ofInt ((I 200) * 24))), (3, .int (Int32.ofInt (0)))]) (show List.Nodup [0, 1, 2, 3] by decide) (show List.Nodup [3, 2, 1, 0] by decide) (List.forall_mem_cons.mpr ⟨(List.Mem.tail _ (List.Mem.tail _ (List.Mem.tail _ (List.Mem.head _)))), (List.forall_mem_cons.mpr ⟨(List.Mem.tail _ (List.Mem.tail _ (List.Mem.head _))), (List.forall_mem_cons.mpr ⟨(List.Mem.tail _ (List.Mem.head _)), (List.forall_mem_cons.mpr ⟨(List.Mem.head _), (fun _ h => by cases h)⟩)⟩)⟩)⟩) ?_
  exact lp15 ((24 - 0 : Int).toNat + 1)  ((I 202)) (0) ⟨by omega, by omega⟩ ⟨by omega, by omega⟩ (show 0 ≤ (0 : Int) ∧ (0 : Int) ≤ 24 by omega) (show 24 - 0 < (((24 - 0 : Int).toNat + 1 : Nat) : Int) by omega)
def c_lengthOf2_Q (fr : Nat → Bool) (X : Nat → Option (q_C (Nat → Int32))) (u l : Nat) (I : Nat → Int) (A : Nat → Int → Int) (B C : Nat → Nat) (M : w_M) (n : Int) : w_X → w_M → Prop := fun r M' => (∃ v : Int, (r = .inl (some v)) ∧ (w_in v) ∧ (M' = M) ∧ ((0 ≤ n ∧ n < (I 200) ∧ n < 420) ∨ v = 0))
set_option maxHeartbeats 100000000 in
set_option maxRecDepth 100000 in
theorem c_lengthOf2 {L : Nat} {xs : Nat → Int32} {d : Nat} {fr : Nat → Bool} {X : Nat → Option (q_C (Nat → Int32))} {u l : Nat} {I : Nat → Int} {A : Nat → Int → Int} {B C : Nat → Nat} {M : w_M} (n : Int) (hR : w_Rep w_TC fr X u l I A B C M) (r_n : w_in n) : w_W (z_P L xs) d 23 (0, [(0, .ref 3), (1, .int (Int32.ofInt (n)))], [], M) (c_lengthOf2_Q fr X u l I A B C M n) := by
  obtain ⟨ra_n, rb_n⟩ := r_n
  refine w_adv (n := 1) (F' := (1, [(0, .ref 3), (1, .int (Int32.ofInt (n)))], [.int (Int32.ofInt (n))], M)) rfl ?_
  refine w_br1 (a := n) rfl rfl ⟨by omega, by omega⟩ (fun h1 => ?_) (fun h1 => ?_)
  · have h1 : n < 0 := h1
    show w_W _ _ _ (28, [(0, .ref 3), (1, .int (Int32.ofInt (n)))], [], M) _
    refine w_adv (n := 1) (F' := (29, [(0, .ref 3), (1, .int (Int32.ofInt (n)))], [.int (Int32.ofInt (0))], M)) rfl ?_
    refine w_fin (r := .inl (some (0))) (M' := M) rfl ?_
    exact ⟨0, rfl, ⟨by omega, by omega⟩, rfl, (show (0 ≤ n ∧ n < (I 200) ∧ n < 420) ∨ 0 = 0 by first | assumption | omega)⟩
  · have h1 : ¬ (n < 0) := h1
    show w_W _ _ _ (4, [(0, .ref 3), (1, .int (Int32.ofInt (n)))], [], M) _
    refine w_adv (n := 2) (F' := (6, [(0, .ref 3), (1, .int (Int32.ofInt (n)))], [.ref 3, .int (Int32.ofInt (n))], M)) rfl ?_
    refine w_gf (v := .int (Int32.ofInt ((I 200)))) hR rfl rfl rfl rfl ?_
    obtain ⟨r2, r3⟩ : -2147483648 ≤ (I 200) ∧ (I 200) ≤ 2147483647 := hR.ri 200
    refine w_br2 (a := n) (b := (I 200)) rfl rfl ⟨by omega, by omega⟩ ⟨by omega, by omega⟩ (fun h4 => ?_) (fun h4 => ?_)
    · have h4 : n ≥ (I 200) := h4
      show w_W _ _ _ (28, [(0, .ref 3), (1, .int (Int32.ofInt (n)))], [], M) _
      refine w_adv (n := 1) (F' := (29, [(0, .ref 3), (1, .int (Int32.ofInt (n)))], [.int (Int32.ofInt (0))], M)) rfl ?_
      refine w_fin (r := .inl (some (0))) (M' := M) rfl ?_
      exact ⟨0, rfl, ⟨by omega, by omega⟩, rfl, (show (0 ≤ n ∧ n < (I 200) ∧ n < 420) ∨ 0 = 0 by first | assumption | omega)⟩
    · have h4 : ¬ (n ≥ (I 200)) := h4
      show w_W _ _ _ (12, [(0, .ref 3), (1, .int (Int32.ofInt (n)))], [], M) _
      refine w_adv (n := 2) (F' := (16, [(0, .ref 3), (1, .int (Int32.ofInt (n)))], [.int (Int32.ofInt (420)), .int (Int32.ofInt (n))], M)) rfl ?_
      refine w_br2 (a := n) (b := 420) rfl rfl ⟨by omega, by omega⟩ ⟨by omega, by omega⟩ (fun h5 => ?_) (fun h5 => ?_)
      · have h5 : n ≥ 420 := h5
        show w_W _ _ _ (28, [(0, .ref 3), (1, .int (Int32.ofInt (n)))], [], M) _
        refine w_adv (n := 1) (F' := (29, [(0, .ref 3), (1, .int (Int32.ofInt (n)))], [.int (Int32.ofInt (0))], M)) rfl ?_
        refine w_fin (r := .inl (some (0))) (M' := M) rfl ?_
        exact ⟨0, rfl, ⟨by omega, by omega⟩, rfl, (show (0 ≤ n ∧ n < (I 200) ∧ n < 420) ∨ 0 = 0 by first | assumption | omega)⟩
      · have h5 : ¬ (n ≥ 420) := h5
        show w_W _ _ _ (19, [(0, .ref 3), (1, .int (Int32.ofInt (n)))], [], M) _
        refine w_adv (n := 1) (F' := (20, [(0, .ref 3), (1, .int (Int32.ofInt (n)))], [.ref 3], M)) rfl ?_
        refine w_gf (v := .ref 5) hR rfl rfl rfl rfl ?_
        refine w_adv (n := 1) (F' := (24, [(0, .ref 3), (1, .int (Int32.ofInt (n)))], [.int (Int32.ofInt (n)), .ref 5], M)) rfl ?_
        refine w_la (n := 420) hR rfl (Or.inl ⟨rfl, rfl⟩) rfl (show 0 ≤ n by omega) (show n < (420 : Int) by omega) (by decide) ?_
        obtain ⟨r6, r7⟩ : -2147483648 ≤ (A 5) (n) ∧ (A 5) (n) ≤ 2147483647 := hR.ra 5 (n)
        show w_W _ _ _ (25, [(0, .ref 3), (1, .int (Int32.ofInt (n)))], [.int (Int32.ofInt ((A 5) (n)))], M) _
        refine w_adv (n := 1) (F' := (29, [(0, .ref 3), (1, .int (Int32.ofInt (n)))], [.int (Int32.ofInt ((A 5) (n)))], M)) rfl ?_
        refine w_fin (r := .inl (some ((A 5) (n)))) (M' := M) rfl ?_
        exact ⟨(A 5) (n), rfl, ⟨by omega, by omega⟩, rfl, (show (0 ≤ n ∧ n < (I 200) ∧ n < 420) ∨ (A 5) (n) = 0 by first | assumption | omega)⟩
def c_isTried_Q (fr : Nat → Bool) (X : Nat → Option (q_C (Nat → Int32))) (u l : Nat) (I : Nat → Int) (A : Nat → Int → Int) (B C : Nat → Nat) (M : w_M) (n : Int) : w_X → w_M → Prop := fun r M' => ((r = .inl (some 1)) ∧ (M' = M)) ∨ ((r = .inl (some 0)) ∧ (M' = M))
set_option maxHeartbeats 100000000 in
set_option maxRecDepth 100000 in
theorem c_isTried {L : Nat} {xs : Nat → Int32} {d : Nat} {fr : Nat → Bool} {X : Nat → Option (q_C (Nat → Int32))} {u l : Nat} {I : Nat → Int} {A : Nat → Int → Int} {B C : Nat → Nat} {M : w_M} (n : Int) (hR : w_Rep w_TC fr X u l I A B C M) (hd : 1 ≤ d) (r_n : w_in n) (hNM : 36 ≤ (I 200) ∧ (I 200) ≤ 419 ∧ 0 ≤ (I 202) ∧ (I 202) ≤ 24) : w_W (z_P L xs) d 22 (0, [(0, .ref 3), (1, .int (Int32.ofInt (n)))], [], M) (c_isTried_Q fr X u l I A B C M n) := by
  obtain ⟨ra_n, rb_n⟩ := r_n
  obtain ⟨d, rfl⟩ : ∃ d0, d = d0 + 1 := ⟨d - 1, by omega⟩
  refine w_adv (n := 2) (F' := (2, [(0, .ref 3), (1, .int (Int32.ofInt (n)))], [.int (Int32.ofInt (n)), .ref 3], M)) rfl ?_
  refine w_call (cm := 23) (as := [(0, .ref 3), (1, .int (Int32.ofInt (n)))]) (rest := []) (o := some (3, 3)) rfl (w_fitR hR rfl) (c_lengthOf2 (n) hR ⟨by omega, by omega⟩) (fun r1 M2 q3 => ?_)
  rcases q3 with ⟨v4, e5, ⟨r6, r7⟩, e8, f9⟩
  rw [e5, e8]
  replace f9 : (0 ≤ n ∧ n < (I 200) ∧ n < 420) ∨ v4 = 0 := f9
  show w_W _ _ _ (5, [(0, .ref 3), (1, .int (Int32.ofInt (n)))], [.int (Int32.ofInt (v4))], M) _
  refine w_adv (n := 1) (F' := (6, [(0, .ref 3), (1, .int (Int32.ofInt (n)))], [.ref 3, .int (Int32.ofInt (v4))], M)) rfl ?_
  refine w_gf (v := .int (Int32.ofInt ((I 202)))) hR rfl rfl rfl rfl ?_
  obtain ⟨r10, r11⟩ : -2147483648 ≤ (I 202) ∧ (I 202) ≤ 2147483647 := hR.ri 202
  refine w_br2 (a := v4) (b := (I 202)) rfl rfl ⟨by omega, by omega⟩ ⟨by omega, by omega⟩ (fun h12 => ?_) (fun h12 => ?_)
  · have h12 : v4 = (I 202) := h12
    show w_W _ _ _ (14, [(0, .ref 3), (1, .int (Int32.ofInt (n)))], [], M) _
    refine w_adv (n := 2) (F' := (17, [(0, .ref 3), (1, .int (Int32.ofInt (n)))], [.int (Int32.ofInt (24)), .int (Int32.ofInt (n))], M)) rfl ?_
    refine w_mul rfl ?_
    refine w_adv (n := 2) (F' := (20, [(2, .int (Int32.ofInt (n * 24))), (0, .ref 3), (1, .int (Int32.ofInt (n)))], [.ref 3], M)) rfl ?_
    refine w_gf (v := .int (Int32.ofInt ((I 200)))) hR rfl rfl rfl rfl ?_
    obtain ⟨r13, r14⟩ : -2147483648 ≤ (I 200) ∧ (I 200) ≤ 2147483647 := hR.ri 200
    refine w_adv (n := 1) (F' := (25, [(2, .int (Int32.ofInt (n * 24))), (0, .ref 3), (1, .int (Int32.ofInt (n)))], [.int (Int32.ofInt (24)), .int (Int32.ofInt ((I 200)))], M)) rfl ?_
    refine w_mul rfl ?_
    refine w_adv (n := 3) (F' := (30, [(4, .int (Int32.ofInt (0))), (3, .int (Int32.ofInt ((I 200) * 24))), (2, .int (Int32.ofInt (n * 24))), (0, .ref 3), (1, .int (Int32.ofInt (n)))], [], M)) rfl ?_
    have lp30 : ∀ fu30 : Nat, ∀ (y30_4 : Int), w_in y30_4 → 0 ≤ y30_4 ∧ y30_4 ≤ (I 202) → 24 - y30_4 < (fu30 : Int) → w_W (z_P L xs) (d + 1) 22 (30, [(0, .ref 3), (1, .int (Int32.ofInt (n))), (2, .int (Int32.ofInt (n * 24))), (3, .int (Int32.ofInt ((I 200) * 24))), (4, .int (Int32.ofInt (y30_4)))], [], M) (c_isTried_Q fr X u l I A B C M n) := by
      intro fu30
      induction fu30 with
      | zero =>
        intro y30_4 ⟨ra_y30_4, rb_y30_4⟩ hi30_0 hn30
        exfalso
        omega
      | succ fu30 ih30 =>
        intro y30_4 ⟨ra_y30_4, rb_y30_4⟩ hi30_0 hn30
        refine w_adv (n := 2) (F' := (33, [(0, .ref 3), (1, .int (Int32.ofInt (n))), (2, .int (Int32.ofInt (n * 24))), (3, .int (Int32.ofInt ((I 200) * 24))), (4, .int (Int32.ofInt (y30_4)))], [.ref 3, .int (Int32.ofInt (y30_4))], M)) rfl ?_
        refine w_gf (v := .int (Int32.ofInt ((I 202)))) hR rfl rfl rfl rfl ?_
        refine w_br2 (a := y30_4) (b := (I 202)) rfl rfl ⟨by omega, by omega⟩ ⟨by omega, by omega⟩ (fun h15 => ?_) (fun h15 => ?_)
        · have h15 : y30_4 ≥ (I 202) := h15
          show w_W _ _ _ (80, [(0, .ref 3), (1, .int (Int32.ofInt (n))), (2, .int (Int32.ofInt (n * 24))), (3, .int (Int32.ofInt ((I 200) * 24))), (4, .int (Int32.ofInt (y30_4)))], [], M) _
          refine w_adv (n := 1) (F' := (81, [(0, .ref 3), (1, .int (Int32.ofInt (n))), (2, .int (Int32.ofInt (n * 24))), (3, .int (Int32.ofInt ((I 200) * 24))), (4, .int (Int32.ofInt (y30_4)))], [.int (Int32.ofInt (1))], M)) rfl ?_
          refine w_fin (r := .inl (some (1))) (M' := M) rfl ?_
          exact Or.inl ⟨rfl, rfl⟩
        · have h15 : ¬ (y30_4 ≥ (I 202)) := h15
          show w_W _ _ _ (39, [(0, .ref 3), (1, .int (Int32.ofInt (n))), (2, .int (Int32.ofInt (n * 24))), (3, .int (Int32.ofInt ((I 200) * 24))), (4, .int (Int32.ofInt (y30_4)))], [], M) _
          refine w_adv (n := 2) (F' := (42, [(0, .ref 3), (1, .int (Int32.ofInt (n))), (2, .int (Int32.ofInt (n * 24))), (3, .int (Int32.ofInt ((I 200) * 24))), (4, .int (Int32.ofInt (y30_4)))], [.int (Int32.ofInt (y30_4)), .int (Int32.ofInt ((I 200) * 24))], M)) rfl ?_
          refine w_add rfl ?_
          refine w_adv (n := 1) (F' := (44, [(0, .ref 3), (1, .int (Int32.ofInt (n))), (2, .int (Int32.ofInt (n * 24))), (3, .int (Int32.ofInt ((I 200) * 24))), (4, .int (Int32.ofInt (y30_4)))], [.ref 3, .int (Int32.ofInt (((I 200) * 24) + y30_4))], M)) rfl ?_
          refine w_gf (v := .ref 4) hR rfl rfl rfl rfl ?_
          refine w_lena (n := 10080) hR rfl rfl rfl ?_
          show w_W _ _ _ (48, [(0, .ref 3), (1, .int (Int32.ofInt (n))), (2, .int (Int32.ofInt (n * 24))), (3, .int (Int32.ofInt ((I 200) * 24))), (4, .int (Int32.ofInt (y30_4)))], [.int (Int32.ofInt (10080)), .int (Int32.ofInt (((I 200) * 24) + y30_4))], M) _
          refine w_br2 (a := ((I 200) * 24) + y30_4) (b := 10080) rfl rfl ⟨by omega, by omega⟩ ⟨by omega, by omega⟩ (fun h16 => ?_) (fun h16 => ?_)
          · have h16 : ((I 200) * 24) + y30_4 ≥ 10080 := h16
            show w_W _ _ _ (80, [(0, .ref 3), (1, .int (Int32.ofInt (n))), (2, .int (Int32.ofInt (n * 24))), (3, .int (Int32.ofInt ((I 200) * 24))), (4, .int (Int32.ofInt (y30_4)))], [], M) _
            refine w_adv (n := 1) (F' := (81, [(0, .ref 3), (1, .int (Int32.ofInt (n))), (2, .int (Int32.ofInt (n * 24))), (3, .int (Int32.ofInt ((I 200) * 24))), (4, .int (Int32.ofInt (y30_4)))], [.int (Int32.ofInt (1))], M)) rfl ?_
            refine w_fin (r := .inl (some (1))) (M' := M) rfl ?_
            exact Or.inl ⟨rfl, rfl⟩
          · have h16 : ¬ (((I 200) * 24) + y30_4 ≥ 10080) := h16
            show w_W _ _ _ (51, [(0, .ref 3), (1, .int (Int32.ofInt (n))), (2, .int (Int32.ofInt (n * 24))), (3, .int (Int32.ofInt ((I 200) * 24))), (4, .int (Int32.ofInt (y30_4)))], [], M) _
            refine w_adv (n := 1) (F' := (52, [(0, .ref 3), (1, .int (Int32.ofInt (n))), (2, .int (Int32.ofInt (n * 24))), (3, .int (Int32.ofInt ((I 200) * 24))), (4, .int (Int32.ofInt (y30_4)))], [.ref 3], M)) rfl ?_
            refine w_gf (v := .ref 4) hR rfl rfl rfl rfl ?_
            refine w_adv (n := 2) (F' := (58, [(0, .ref 3), (1, .int (Int32.ofInt (n))), (2, .int (Int32.ofInt (n * 24))), (3, .int (Int32.ofInt ((I 200) * 24))), (4, .int (Int32.ofInt (y30_4)))], [.int (Int32.ofInt (y30_4)), .int (Int32.ofInt (n * 24)), .ref 4], M)) rfl ?_
            refine w_add rfl ?_
            refine w_la (n := 10080) hR rfl (Or.inr ⟨rfl, rfl⟩) rfl (show 0 ≤ (n * 24) + y30_4 by omega) (show (n * 24) + y30_4 < (10080 : Int) by omega) (by decide) ?_
            obtain ⟨r17, r18⟩ : -2147483648 ≤ (A 4) ((n * 24) + y30_4) ∧ (A 4) ((n * 24) + y30_4) ≤ 2147483647 := hR.ra 4 ((n * 24) + y30_4)
            show w_W _ _ _ (60, [(0, .ref 3), (1, .int (Int32.ofInt (n))), (2, .int (Int32.ofInt (n * 24))), (3, .int (Int32.ofInt ((I 200) * 24))), (4, .int (Int32.ofInt (y30_4)))], [.int (Int32.ofInt ((A 4) ((n * 24) + y30_4)))], M) _
            refine w_adv (n := 1) (F' := (61, [(0, .ref 3), (1, .int (Int32.ofInt (n))), (2, .int (Int32.ofInt (n * 24))), (3, .int (Int32.ofInt ((I 200) * 24))), (4, .int (Int32.ofInt (y30_4)))], [.ref 3, .int (Int32.ofInt ((A 4) ((n * 24) + y30_4)))], M)) rfl ?_
            refine w_gf (v := .ref 4) hR rfl rfl rfl rfl ?_
            refine w_adv (n := 2) (F' := (67, [(0, .ref 3), (1, .int (Int32.ofInt (n))), (2, .int (Int32.ofInt (n * 24))), (3, .int (Int32.ofInt ((I 200) * 24))), (4, .int (Int32.ofInt (y30_4)))], [.int (Int32.ofInt (y30_4)), .int (Int32.ofInt ((I 200) * 24)), .ref 4, .int (Int32.ofInt ((A 4) ((n * 24) + y30_4)))], M)) rfl ?_
            refine w_add rfl ?_
            refine w_la (n := 10080) hR rfl (Or.inr ⟨rfl, rfl⟩) rfl (show 0 ≤ ((I 200) * 24) + y30_4 by omega) (show ((I 200) * 24) + y30_4 < (10080 : Int) by omega) (by decide) ?_
            obtain ⟨r19, r20⟩ : -2147483648 ≤ (A 4) (((I 200) * 24) + y30_4) ∧ (A 4) (((I 200) * 24) + y30_4) ≤ 2147483647 := hR.ra 4 (((I 200) * 24) + y30_4)
            show w_W _ _ _ (69, [(0, .ref 3), (1, .int (Int32.ofInt (n))), (2, .int (Int32.ofInt (n * 24))), (3, .int (Int32.ofInt ((I 200) * 24))), (4, .int (Int32.ofInt (y30_4)))], [.int (Int32.ofInt ((A 4) (((I 200) * 24) + y30_4))), .int (Int32.ofInt ((A 4) ((n * 24) + y30_4)))], M) _
            refine w_br2 (a := (A 4) ((n * 24) + y30_4)) (b := (A 4) (((I 200) * 24) + y30_4)) rfl rfl ⟨by omega, by omega⟩ ⟨by omega, by omega⟩ (fun h21 => ?_) (fun h21 => ?_)
            · have h21 : (A 4) ((n * 24) + y30_4) = (A 4) (((I 200) * 24) + y30_4) := h21
              show w_W _ _ _ (74, [(0, .ref 3), (1, .int (Int32.ofInt (n))), (2, .int (Int32.ofInt (n * 24))), (3, .int (Int32.ofInt ((I 200) * 24))), (4, .int (Int32.ofInt (y30_4)))], [], M) _
              refine w_inc (nL := 5) (a := y30_4) rfl rfl rfl (by decide) ?_
              refine w_adv (n := 1) (F' := (30, [(4, .int (Int32.ofInt (y30_4 + 1))), (0, .ref 3), (1, .int (Int32.ofInt (n))), (2, .int (Int32.ofInt (n * 24))), (3, .int (Int32.ofInt ((I 200) * 24)))], [], M)) rfl ?_
              refine w_ls (ls := [(0, .ref 3), (1, .int (Int32.ofInt (n))), (2, .int (Int32.ofInt (n * 24))), (3, .int (Int32.ofInt ((I 200) * 24))), (4, .int (Int32.ofInt (y30_4 + 1)))]) (show List.Nodup [0, 1, 2, 3, 4] by decide) (show List.Nodup [4, 0, 1, 2, 3] by decide) (List.forall_mem_cons.mpr ⟨(List.Mem.tail _ (List.Mem.head _)), (List.forall_mem_cons.mpr ⟨(List.Mem.tail _ (List.Mem.tail _ (List.Mem.head _))), (List.forall_mem_cons.mpr ⟨(List.Mem.tail _ (List.Mem.tail _ (List.Mem.tail _ (List.Mem.head _)))), (List.forall_mem_cons.mpr ⟨(List.Mem.tail _ (List.Mem.tail _ (List.Mem.tail _ (List.Mem.tail _ (List.Mem.head _))))), (List.forall_mem_cons.mpr ⟨(List.Mem.head _), (fun _ h => by cases h)⟩)⟩)⟩)⟩)⟩) ?_
              exact ih30  (y30_4 + 1) ⟨by omega, by omega⟩ (show 0 ≤ (y30_4 + 1) ∧ (y30_4 + 1) ≤ (I 202) by omega) (show 24 - (y30_4 + 1) < (fu30 : Int) by omega)
            · have h21 : ¬ ((A 4) ((n * 24) + y30_4) = (A 4) (((I 200) * 24) + y30_4)) := h21
              show w_W _ _ _ (72, [(0, .ref 3), (1, .int (Int32.ofInt (n))), (2, .int (Int32.ofInt (n * 24))), (3, .int (Int32.ofInt ((I 200) * 24))), (4, .int (Int32.ofInt (y30_4)))], [], M) _
              refine w_adv (n := 1) (F' := (73, [(0, .ref 3), (1, .int (Int32.ofInt (n))), (2, .int (Int32.ofInt (n * 24))), (3, .int (Int32.ofInt ((I 200) * 24))), (4, .int (Int32.ofInt (y30_4)))], [.int (Int32.ofInt (0))], M)) rfl ?_
              refine w_fin (r := .inl (some (0))) (M' := M) rfl ?_
              exact Or.inr (⟨rfl, rfl⟩)
    refine w_ls (ls := [(0, .ref 3), (1, .int (Int32.ofInt (n))), (2, .int (Int32.ofInt (n * 24))), (3, .int (Int32.ofInt ((I 200) * 24))), (4, .int (Int32.ofInt (0)))]) (show List.Nodup [0, 1, 2, 3, 4] by decide) (show List.Nodup [4, 3, 2, 0, 1] by decide) (List.forall_mem_cons.mpr ⟨(List.Mem.tail _ (List.Mem.tail _ (List.Mem.tail _ (List.Mem.head _)))), (List.forall_mem_cons.mpr ⟨(List.Mem.tail _ (List.Mem.tail _ (List.Mem.tail _ (List.Mem.tail _ (List.Mem.head _))))), (List.forall_mem_cons.mpr ⟨(List.Mem.tail _ (List.Mem.tail _ (List.Mem.head _))), (List.forall_mem_cons.mpr ⟨(List.Mem.tail _ (List.Mem.head _)), (List.forall_mem_cons.mpr ⟨(List.Mem.head _), (fun _ h => by cases h)⟩)⟩)⟩)⟩)⟩) ?_
    exact lp30 ((24 - 0 : Int).toNat + 1)  (0) ⟨by omega, by omega⟩ (show 0 ≤ (0 : Int) ∧ (0 : Int) ≤ (I 202) by omega) (show 24 - 0 < (((24 - 0 : Int).toNat + 1 : Nat) : Int) by omega)
  · have h12 : ¬ (v4 = (I 202)) := h12
    show w_W _ _ _ (12, [(0, .ref 3), (1, .int (Int32.ofInt (n)))], [], M) _
    refine w_adv (n := 1) (F' := (13, [(0, .ref 3), (1, .int (Int32.ofInt (n)))], [.int (Int32.ofInt (0))], M)) rfl ?_
    refine w_fin (r := .inl (some (0))) (M' := M) rfl ?_
    exact Or.inr (⟨rfl, rfl⟩)
def c_Names_add_Q (fr : Nat → Bool) (X : Nat → Option (q_C (Nat → Int32))) (u l : Nat) (I : Nat → Int) (A : Nat → Int → Int) (B C : Nat → Nat) (M : w_M) (kd : Int) (hs : Int) : w_X → w_M → Prop := fun r M' => (∃ v : Int, ∃ (I' : Nat → Int) (A' : Nat → Int → Int) (B' C' : Nat → Nat), (r = .inl (some v)) ∧ (w_in v) ∧ (w_Rep w_TC fr X u l I' A' B' C' M') ∧ (c_fr c_ts c_ta I A I' A') ∧ (36 ≤ (I' 200) ∧ (I' 200) ≤ 419 ∧ 0 ≤ (I' 202) ∧ (I' 202) ≤ 24) ∧ (∀ i, (A' 5) i ≤ 24) ∧ ((I' 773) = (I 773) ∧ (I' 65) = (I 65)))
set_option maxHeartbeats 100000000 in
set_option maxRecDepth 100000 in
theorem c_Names_add {L : Nat} {xs : Nat → Int32} {d : Nat} {fr : Nat → Bool} {X : Nat → Option (q_C (Nat → Int32))} {u l : Nat} {I : Nat → Int} {A : Nat → Int → Int} {B C : Nat → Nat} {M : w_M} (kd : Int) (hs : Int) (hR : w_Rep w_TC fr X u l I A B C M) (hd : 1 ≤ d) (r_kd : w_in kd) (r_hs : w_in hs) (hNM : 36 ≤ (I 200) ∧ (I 200) ≤ 419 ∧ 0 ≤ (I 202) ∧ (I 202) ≤ 24) (hLN : ∀ i, (A 5) i ≤ 24) (hz : (I 200) ≤ 418) : w_W (z_P L xs) d 24 (0, [(0, .ref 3), (1, .int (Int32.ofInt (kd))), (2, .int (Int32.ofInt (hs)))], [], M) (c_Names_add_Q fr X u l I A B C M kd hs) := by
  obtain ⟨ra_kd, rb_kd⟩ := r_kd
  obtain ⟨ra_hs, rb_hs⟩ := r_hs
  obtain ⟨d, rfl⟩ : ∃ d0, d = d0 + 1 := ⟨d - 1, by omega⟩
  refine w_adv (n := 1) (F' := (1, [(0, .ref 3), (1, .int (Int32.ofInt (kd))), (2, .int (Int32.ofInt (hs)))], [.ref 3], M)) rfl ?_
  refine w_gf (v := .int (Int32.ofInt ((I 200)))) hR rfl rfl rfl rfl ?_
  obtain ⟨r1, r2⟩ : -2147483648 ≤ (I 200) ∧ (I 200) ≤ 2147483647 := hR.ri 200
  refine w_adv (n := 2) (F' := (6, [(3, .int (Int32.ofInt ((I 200)))), (0, .ref 3), (1, .int (Int32.ofInt (kd))), (2, .int (Int32.ofInt (hs)))], [.ref 3], M)) rfl ?_
  refine w_gf (v := .ref 5) hR rfl rfl rfl rfl ?_
  refine w_adv (n := 2) (F' := (11, [(3, .int (Int32.ofInt ((I 200)))), (0, .ref 3), (1, .int (Int32.ofInt (kd))), (2, .int (Int32.ofInt (hs)))], [.ref 3, .int (Int32.ofInt ((I 200))), .ref 5], M)) rfl ?_
  refine w_gf (v := .int (Int32.ofInt ((I 202)))) hR rfl rfl rfl rfl ?_
  obtain ⟨r3, r4⟩ : -2147483648 ≤ (I 202) ∧ (I 202) ≤ 2147483647 := hR.ri 202
  refine w_call (cm := 25) (as := [(0, .ref 5), (1, .int (Int32.ofInt ((I 200)))), (2, .int (Int32.ofInt ((I 202))))]) (rest := []) (o := none) rfl (trivial) (c_set ((I 200)) ((I 202)) 5 420 rfl (by decide) hR ⟨by omega, by omega⟩ ⟨by omega, by omega⟩) (fun r5 M6 q7 => ?_)
  rcases q7 with ⟨e8, hR7a⟩
  rw [e8]
  replace hR7a : w_Rep w_TC fr X u l I (w_upF A 5 (w_upG 420 (A 5) ((I 200)) ((I 202)))) B C M6 := hR7a
  show w_W _ _ _ (17, [(3, .int (Int32.ofInt ((I 200)))), (0, .ref 3), (1, .int (Int32.ofInt (kd))), (2, .int (Int32.ofInt (hs)))], [], M6) _
  refine w_adv (n := 1) (F' := (18, [(3, .int (Int32.ofInt ((I 200)))), (0, .ref 3), (1, .int (Int32.ofInt (kd))), (2, .int (Int32.ofInt (hs)))], [.ref 3], M6)) rfl ?_
  refine w_gf (v := .ref 6) hR7a rfl rfl rfl rfl ?_
  refine w_adv (n := 2) (F' := (23, [(3, .int (Int32.ofInt ((I 200)))), (0, .ref 3), (1, .int (Int32.ofInt (kd))), (2, .int (Int32.ofInt (hs)))], [.int (Int32.ofInt (kd)), .int (Int32.ofInt ((I 200))), .ref 6], M6)) rfl ?_
  refine w_call (cm := 25) (as := [(0, .ref 6), (1, .int (Int32.ofInt ((I 200)))), (2, .int (Int32.ofInt (kd)))]) (rest := []) (o := none) rfl (trivial) (c_set ((I 200)) (kd) 6 420 rfl (by decide) hR7a ⟨by omega, by omega⟩ ⟨by omega, by omega⟩) (fun r9 M10 q11 => ?_)
  rcases q11 with ⟨e12, hR11a⟩
  rw [e12]
  replace hR11a : w_Rep w_TC fr X u l I (w_upF (w_upF A 5 (w_upG 420 (A 5) ((I 200)) ((I 202)))) 6 (w_upG 420 (A 6) ((I 200)) (kd))) B C M10 := hR11a
  show w_W _ _ _ (26, [(3, .int (Int32.ofInt ((I 200)))), (0, .ref 3), (1, .int (Int32.ofInt (kd))), (2, .int (Int32.ofInt (hs)))], [], M10) _
  refine w_adv (n := 1) (F' := (27, [(3, .int (Int32.ofInt ((I 200)))), (0, .ref 3), (1, .int (Int32.ofInt (kd))), (2, .int (Int32.ofInt (hs)))], [.ref 3], M10)) rfl ?_
  refine w_gf (v := .ref 8) hR11a rfl rfl rfl rfl ?_
  refine w_adv (n := 2) (F' := (32, [(3, .int (Int32.ofInt ((I 200)))), (0, .ref 3), (1, .int (Int32.ofInt (kd))), (2, .int (Int32.ofInt (hs)))], [.int (Int32.ofInt (hs)), .int (Int32.ofInt ((I 200))), .ref 8], M10)) rfl ?_
  refine w_call (cm := 25) (as := [(0, .ref 8), (1, .int (Int32.ofInt ((I 200)))), (2, .int (Int32.ofInt (hs)))]) (rest := []) (o := none) rfl (trivial) (c_set ((I 200)) (hs) 8 420 rfl (by decide) hR11a ⟨by omega, by omega⟩ ⟨by omega, by omega⟩) (fun r13 M14 q15 => ?_)
  rcases q15 with ⟨e16, hR15a⟩
  rw [e16]
  replace hR15a : w_Rep w_TC fr X u l I (w_upF (w_upF (w_upF A 5 (w_upG 420 (A 5) ((I 200)) ((I 202)))) 6 (w_upG 420 (A 6) ((I 200)) (kd))) 8 (w_upG 420 (A 8) ((I 200)) (hs))) B C M14 := hR15a
  show w_W _ _ _ (35, [(3, .int (Int32.ofInt ((I 200)))), (0, .ref 3), (1, .int (Int32.ofInt (kd))), (2, .int (Int32.ofInt (hs)))], [], M14) _
  refine w_adv (n := 1) (F' := (36, [(3, .int (Int32.ofInt ((I 200)))), (0, .ref 3), (1, .int (Int32.ofInt (kd))), (2, .int (Int32.ofInt (hs)))], [.ref 3], M14)) rfl ?_
  refine w_gf (v := .ref 9) hR15a rfl rfl rfl rfl ?_
  refine w_adv (n := 2) (F' := (41, [(3, .int (Int32.ofInt ((I 200)))), (0, .ref 3), (1, .int (Int32.ofInt (kd))), (2, .int (Int32.ofInt (hs)))], [.ref 3, .int (Int32.ofInt ((I 200))), .ref 9], M14)) rfl ?_
  refine w_gf (v := .ref 10) hR15a rfl rfl rfl rfl ?_
  refine w_adv (n := 1) (F' := (45, [(3, .int (Int32.ofInt ((I 200)))), (0, .ref 3), (1, .int (Int32.ofInt (kd))), (2, .int (Int32.ofInt (hs)))], [.int (Int32.ofInt (hs)), .ref 10, .int (Int32.ofInt ((I 200))), .ref 9], M14)) rfl ?_
  refine w_call (cm := 21) (as := [(0, .ref 10), (1, .int (Int32.ofInt (hs)))]) (rest := [.int (Int32.ofInt ((I 200))), .ref 9]) (o := none) rfl (trivial) (c_at (hs) 10 256 rfl (by decide) hR15a ⟨by omega, by omega⟩) (fun r17 M18 q19 => ?_)
  rcases q19 with ⟨v20, e21, ⟨r22, r23⟩, e24, f25⟩
  rw [e21, e24]
  replace f25 : ((0 ≤ hs ∧ hs < (256 : Int) ∧ v20 = (A 10) (hs)) ∨ (¬ (0 ≤ hs ∧ hs < (256 : Int)) ∧ v20 = -1)) := f25
  show w_W _ _ _ (48, [(3, .int (Int32.ofInt ((I 200)))), (0, .ref 3), (1, .int (Int32.ofInt (kd))), (2, .int (Int32.ofInt (hs)))], [.int (Int32.ofInt (v20)), .int (Int32.ofInt ((I 200))), .ref 9], M14) _
  refine w_call (cm := 25) (as := [(0, .ref 9), (1, .int (Int32.ofInt ((I 200)))), (2, .int (Int32.ofInt (v20)))]) (rest := []) (o := none) rfl (trivial) (c_set ((I 200)) (v20) 9 420 rfl (by decide) hR15a ⟨by omega, by omega⟩ ⟨by omega, by omega⟩) (fun r26 M27 q28 => ?_)
  rcases q28 with ⟨e29, hR28a⟩
  rw [e29]
  replace hR28a : w_Rep w_TC fr X u l I (w_upF (w_upF (w_upF (w_upF A 5 (w_upG 420 (A 5) ((I 200)) ((I 202)))) 6 (w_upG 420 (A 6) ((I 200)) (kd))) 8 (w_upG 420 (A 8) ((I 200)) (hs))) 9 (w_upG 420 (A 9) ((I 200)) (v20))) B C M27 := hR28a
  show w_W _ _ _ (51, [(3, .int (Int32.ofInt ((I 200)))), (0, .ref 3), (1, .int (Int32.ofInt (kd))), (2, .int (Int32.ofInt (hs)))], [], M27) _
  refine w_adv (n := 1) (F' := (52, [(3, .int (Int32.ofInt ((I 200)))), (0, .ref 3), (1, .int (Int32.ofInt (kd))), (2, .int (Int32.ofInt (hs)))], [.ref 3], M27)) rfl ?_
  refine w_gf (v := .ref 10) hR28a rfl rfl rfl rfl ?_
  refine w_adv (n := 2) (F' := (57, [(3, .int (Int32.ofInt ((I 200)))), (0, .ref 3), (1, .int (Int32.ofInt (kd))), (2, .int (Int32.ofInt (hs)))], [.int (Int32.ofInt ((I 200))), .int (Int32.ofInt (hs)), .ref 10], M27)) rfl ?_
  refine w_call (cm := 25) (as := [(0, .ref 10), (1, .int (Int32.ofInt (hs))), (2, .int (Int32.ofInt ((I 200))))]) (rest := []) (o := none) rfl (trivial) (c_set (hs) ((I 200)) 10 256 rfl (by decide) hR28a ⟨by omega, by omega⟩ ⟨by omega, by omega⟩) (fun r30 M31 q32 => ?_)
  rcases q32 with ⟨e33, hR32a⟩
  rw [e33]
  replace hR32a : w_Rep w_TC fr X u l I (w_upF (w_upF (w_upF (w_upF (w_upF A 5 (w_upG 420 (A 5) ((I 200)) ((I 202)))) 6 (w_upG 420 (A 6) ((I 200)) (kd))) 8 (w_upG 420 (A 8) ((I 200)) (hs))) 9 (w_upG 420 (A 9) ((I 200)) (v20))) 10 (w_upG 256 (A 10) (hs) ((I 200)))) B C M31 := hR32a
  show w_W _ _ _ (60, [(3, .int (Int32.ofInt ((I 200)))), (0, .ref 3), (1, .int (Int32.ofInt (kd))), (2, .int (Int32.ofInt (hs)))], [], M31) _
  refine w_adv (n := 1) (F' := (61, [(3, .int (Int32.ofInt ((I 200)))), (0, .ref 3), (1, .int (Int32.ofInt (kd))), (2, .int (Int32.ofInt (hs)))], [.ref 3], M31)) rfl ?_
  refine w_gf (v := .ref 7) hR32a rfl rfl rfl rfl ?_
  refine w_adv (n := 2) (F' := (66, [(3, .int (Int32.ofInt ((I 200)))), (0, .ref 3), (1, .int (Int32.ofInt (kd))), (2, .int (Int32.ofInt (hs)))], [.int (Int32.ofInt ((-1))), .int (Int32.ofInt ((I 200))), .ref 7], M31)) rfl ?_
  refine w_call (cm := 25) (as := [(0, .ref 7), (1, .int (Int32.ofInt ((I 200)))), (2, .int (Int32.ofInt ((-1))))]) (rest := []) (o := none) rfl (trivial) (c_set ((I 200)) ((-1)) 7 420 rfl (by decide) hR32a ⟨by omega, by omega⟩ ⟨by omega, by omega⟩) (fun r34 M35 q36 => ?_)
  rcases q36 with ⟨e37, hR36a⟩
  rw [e37]
  replace hR36a : w_Rep w_TC fr X u l I (w_upF (w_upF (w_upF (w_upF (w_upF (w_upF A 5 (w_upG 420 (A 5) ((I 200)) ((I 202)))) 6 (w_upG 420 (A 6) ((I 200)) (kd))) 8 (w_upG 420 (A 8) ((I 200)) (hs))) 9 (w_upG 420 (A 9) ((I 200)) (v20))) 10 (w_upG 256 (A 10) (hs) ((I 200)))) 7 (w_upG 420 (A 7) ((I 200)) ((-1)))) B C M35 := hR36a
  show w_W _ _ _ (69, [(3, .int (Int32.ofInt ((I 200)))), (0, .ref 3), (1, .int (Int32.ofInt (kd))), (2, .int (Int32.ofInt (hs)))], [], M35) _
  refine w_adv (n := 2) (F' := (71, [(3, .int (Int32.ofInt ((I 200)))), (0, .ref 3), (1, .int (Int32.ofInt (kd))), (2, .int (Int32.ofInt (hs)))], [.int (Int32.ofInt (1)), .int (Int32.ofInt (kd))], M35)) rfl ?_
  refine w_br2 (a := kd) (b := 1) rfl rfl ⟨by omega, by omega⟩ ⟨by omega, by omega⟩ (fun h38 => ?_) (fun h38 => ?_)
  · have h38 : ¬ kd = 1 := h38
    show w_W _ _ _ (108, [(3, .int (Int32.ofInt ((I 200)))), (0, .ref 3), (1, .int (Int32.ofInt (kd))), (2, .int (Int32.ofInt (hs)))], [], M35) _
    refine w_adv (n := 2) (F' := (110, [(3, .int (Int32.ofInt ((I 200)))), (0, .ref 3), (1, .int (Int32.ofInt (kd))), (2, .int (Int32.ofInt (hs)))], [.ref 3, .ref 3], M35)) rfl ?_
    refine w_gf (v := .int (Int32.ofInt ((I 200)))) hR36a rfl rfl rfl rfl ?_
    refine w_adv (n := 1) (F' := (114, [(3, .int (Int32.ofInt ((I 200)))), (0, .ref 3), (1, .int (Int32.ofInt (kd))), (2, .int (Int32.ofInt (hs)))], [.int (Int32.ofInt (1)), .int (Int32.ofInt ((I 200))), .ref 3], M35)) rfl ?_
    refine w_add rfl ?_
    refine w_pf hR36a rfl rfl rfl rfl (show w_in ((I 200) + 1) from ⟨by omega, by omega⟩) (fun h => absurd h (by decide)) (fun M39 hR40 => ?_)
    replace hR40 : w_Rep w_TC fr X u l (w_up I 200 ((I 200) + 1)) (w_upF (w_upF (w_upF (w_upF (w_upF (w_upF A 5 (w_upG 420 (A 5) ((I 200)) ((I 202)))) 6 (w_upG 420 (A 6) ((I 200)) (kd))) 8 (w_upG 420 (A 8) ((I 200)) (hs))) 9 (w_upG 420 (A 9) ((I 200)) (v20))) 10 (w_upG 256 (A 10) (hs) ((I 200)))) 7 (w_upG 420 (A 7) ((I 200)) ((-1)))) B C M39 := hR40
    refine w_adv (n := 1) (F' := (119, [(3, .int (Int32.ofInt ((I 200)))), (0, .ref 3), (1, .int (Int32.ofInt (kd))), (2, .int (Int32.ofInt (hs)))], [.int (Int32.ofInt ((I 200)))], M39)) rfl ?_
    refine w_fin (r := .inl (some ((I 200)))) (M' := M39) rfl ?_
    exact ⟨(I 200), (w_up I 200 ((I 200) + 1)), (w_upF (w_upF (w_upF (w_upF (w_upF (w_upF A 5 (w_upG 420 (A 5) ((I 200)) ((I 202)))) 6 (w_upG 420 (A 6) ((I 200)) (kd))) 8 (w_upG 420 (A 8) ((I 200)) (hs))) 9 (w_upG 420 (A 9) ((I 200)) (v20))) 10 (w_upG 256 (A 10) (hs) ((I 200)))) 7 (w_upG 420 (A 7) ((I 200)) ((-1)))), B, C, rfl, ⟨by omega, by omega⟩, hR40, (show c_fr c_ts c_ta I A (w_up I 200 ((I 200) + 1)) (w_upF (w_upF (w_upF (w_upF (w_upF (w_upF A 5 (w_upG 420 (A 5) ((I 200)) ((I 202)))) 6 (w_upG 420 (A 6) ((I 200)) (kd))) 8 (w_upG 420 (A 8) ((I 200)) (hs))) 9 (w_upG 420 (A 9) ((I 200)) (v20))) 10 (w_upG 256 (A 10) (hs) ((I 200)))) 7 (w_upG 420 (A 7) ((I 200)) ((-1)))) by exact (c_fr_upF (c_fr_upF (c_fr_upF (c_fr_upF (c_fr_upF (c_fr_upF (c_fr_up c_fr_refl rfl) rfl) rfl) rfl) rfl) rfl) rfl)), (show 36 ≤ (I 200) + 1 ∧ (I 200) + 1 ≤ 419 ∧ 0 ≤ (I 202) ∧ (I 202) ≤ 24 by (repeat' apply And.intro) <;> first | assumption | omega), (show ∀ i, (w_upG 420 (A 5) ((I 200)) ((I 202))) i ≤ 24 by exact c_LN_upG hLN (by omega)), (show (I 773) = (I 773) ∧ (I 65) = (I 65) by (repeat' apply And.intro) <;> first | assumption | omega)⟩
  · have h38 : ¬ (¬ kd = 1) := h38
    show w_W _ _ _ (74, [(3, .int (Int32.ofInt ((I 200)))), (0, .ref 3), (1, .int (Int32.ofInt (kd))), (2, .int (Int32.ofInt (hs)))], [], M35) _
    refine w_adv (n := 1) (F' := (75, [(3, .int (Int32.ofInt ((I 200)))), (0, .ref 3), (1, .int (Int32.ofInt (kd))), (2, .int (Int32.ofInt (hs)))], [.ref 3], M35)) rfl ?_
    refine w_gf (v := .ref 7) hR36a rfl rfl rfl rfl ?_
    refine w_adv (n := 2) (F' := (80, [(3, .int (Int32.ofInt ((I 200)))), (0, .ref 3), (1, .int (Int32.ofInt (kd))), (2, .int (Int32.ofInt (hs)))], [.ref 3, .int (Int32.ofInt ((I 200))), .ref 7], M35)) rfl ?_
    refine w_gf (v := .int (Int32.ofInt ((I 201)))) hR36a rfl rfl rfl rfl ?_
    obtain ⟨r41, r42⟩ : -2147483648 ≤ (I 201) ∧ (I 201) ≤ 2147483647 := hR36a.ri 201
    refine w_call (cm := 25) (as := [(0, .ref 7), (1, .int (Int32.ofInt ((I 200)))), (2, .int (Int32.ofInt ((I 201))))]) (rest := []) (o := none) rfl (trivial) (c_set ((I 200)) ((I 201)) 7 420 rfl (by decide) hR36a ⟨by omega, by omega⟩ ⟨by omega, by omega⟩) (fun r43 M44 q45 => ?_)
    rcases q45 with ⟨e46, hR45a⟩
    rw [e46]
    replace hR45a : w_Rep w_TC fr X u l I (w_upF (w_upF (w_upF (w_upF (w_upF (w_upF (w_upF A 5 (w_upG 420 (A 5) ((I 200)) ((I 202)))) 6 (w_upG 420 (A 6) ((I 200)) (kd))) 8 (w_upG 420 (A 8) ((I 200)) (hs))) 9 (w_upG 420 (A 9) ((I 200)) (v20))) 10 (w_upG 256 (A 10) (hs) ((I 200)))) 7 (w_upG 420 (A 7) ((I 200)) ((-1)))) 7 (w_upG 420 (w_upG 420 (A 7) ((I 200)) ((-1))) ((I 200)) ((I 201)))) B C M44 := hR45a
    show w_W _ _ _ (86, [(3, .int (Int32.ofInt ((I 200)))), (0, .ref 3), (1, .int (Int32.ofInt (kd))), (2, .int (Int32.ofInt (hs)))], [], M44) _
    refine w_adv (n := 1) (F' := (87, [(3, .int (Int32.ofInt ((I 200)))), (0, .ref 3), (1, .int (Int32.ofInt (kd))), (2, .int (Int32.ofInt (hs)))], [.ref 3], M44)) rfl ?_
    refine w_gf (v := .ref 11) hR45a rfl rfl rfl rfl ?_
    refine w_adv (n := 1) (F' := (91, [(3, .int (Int32.ofInt ((I 200)))), (0, .ref 3), (1, .int (Int32.ofInt (kd))), (2, .int (Int32.ofInt (hs)))], [.ref 3, .ref 11], M44)) rfl ?_
    refine w_gf (v := .int (Int32.ofInt ((I 201)))) hR45a rfl rfl rfl rfl ?_
    refine w_adv (n := 1) (F' := (95, [(3, .int (Int32.ofInt ((I 200)))), (0, .ref 3), (1, .int (Int32.ofInt (kd))), (2, .int (Int32.ofInt (hs)))], [.int (Int32.ofInt ((I 200))), .int (Int32.ofInt ((I 201))), .ref 11], M44)) rfl ?_
    refine w_call (cm := 25) (as := [(0, .ref 11), (1, .int (Int32.ofInt ((I 201)))), (2, .int (Int32.ofInt ((I 200))))]) (rest := []) (o := none) rfl (trivial) (c_set ((I 201)) ((I 200)) 11 400 rfl (by decide) hR45a ⟨by omega, by omega⟩ ⟨by omega, by omega⟩) (fun r47 M48 q49 => ?_)
    rcases q49 with ⟨e50, hR49a⟩
    rw [e50]
    replace hR49a : w_Rep w_TC fr X u l I (w_upF (w_upF (w_upF (w_upF (w_upF (w_upF (w_upF (w_upF A 5 (w_upG 420 (A 5) ((I 200)) ((I 202)))) 6 (w_upG 420 (A 6) ((I 200)) (kd))) 8 (w_upG 420 (A 8) ((I 200)) (hs))) 9 (w_upG 420 (A 9) ((I 200)) (v20))) 10 (w_upG 256 (A 10) (hs) ((I 200)))) 7 (w_upG 420 (A 7) ((I 200)) ((-1)))) 7 (w_upG 420 (w_upG 420 (A 7) ((I 200)) ((-1))) ((I 200)) ((I 201)))) 11 (w_upG 400 (A 11) ((I 201)) ((I 200)))) B C M48 := hR49a
    show w_W _ _ _ (98, [(3, .int (Int32.ofInt ((I 200)))), (0, .ref 3), (1, .int (Int32.ofInt (kd))), (2, .int (Int32.ofInt (hs)))], [], M48) _
    refine w_adv (n := 2) (F' := (100, [(3, .int (Int32.ofInt ((I 200)))), (0, .ref 3), (1, .int (Int32.ofInt (kd))), (2, .int (Int32.ofInt (hs)))], [.ref 3, .ref 3], M48)) rfl ?_
    refine w_gf (v := .int (Int32.ofInt ((I 201)))) hR49a rfl rfl rfl rfl ?_
    refine w_adv (n := 1) (F' := (104, [(3, .int (Int32.ofInt ((I 200)))), (0, .ref 3), (1, .int (Int32.ofInt (kd))), (2, .int (Int32.ofInt (hs)))], [.int (Int32.ofInt (1)), .int (Int32.ofInt ((I 201))), .ref 3], M48)) rfl ?_
    refine w_add rfl ?_
    refine w_int (fun x51 r52 e53 => ?_)
    obtain ⟨r52a, r52b⟩ := r52
    clear e53
    refine w_pf hR49a rfl rfl rfl rfl (show w_in (x51) from ⟨by omega, by omega⟩) (fun h => absurd h (by decide)) (fun M54 hR55 => ?_)
    replace hR55 : w_Rep w_TC fr X u l (w_up I 201 (x51)) (w_upF (w_upF (w_upF (w_upF (w_upF (w_upF (w_upF (w_upF A 5 (w_upG 420 (A 5) ((I 200)) ((I 202)))) 6 (w_upG 420 (A 6) ((I 200)) (kd))) 8 (w_upG 420 (A 8) ((I 200)) (hs))) 9 (w_upG 420 (A 9) ((I 200)) (v20))) 10 (w_upG 256 (A 10) (hs) ((I 200)))) 7 (w_upG 420 (A 7) ((I 200)) ((-1)))) 7 (w_upG 420 (w_upG 420 (A 7) ((I 200)) ((-1))) ((I 200)) ((I 201)))) 11 (w_upG 400 (A 11) ((I 201)) ((I 200)))) B C M54 := hR55
    refine w_adv (n := 2) (F' := (110, [(3, .int (Int32.ofInt ((I 200)))), (0, .ref 3), (1, .int (Int32.ofInt (kd))), (2, .int (Int32.ofInt (hs)))], [.ref 3, .ref 3], M54)) rfl ?_
    refine w_gf (v := .int (Int32.ofInt ((I 200)))) hR55 rfl rfl rfl rfl ?_
    refine w_adv (n := 1) (F' := (114, [(3, .int (Int32.ofInt ((I 200)))), (0, .ref 3), (1, .int (Int32.ofInt (kd))), (2, .int (Int32.ofInt (hs)))], [.int (Int32.ofInt (1)), .int (Int32.ofInt ((I 200))), .ref 3], M54)) rfl ?_
    refine w_add rfl ?_
    refine w_pf hR55 rfl rfl rfl rfl (show w_in ((I 200) + 1) from ⟨by omega, by omega⟩) (fun h => absurd h (by decide)) (fun M56 hR57 => ?_)
    replace hR57 : w_Rep w_TC fr X u l (w_up (w_up I 201 (x51)) 200 ((I 200) + 1)) (w_upF (w_upF (w_upF (w_upF (w_upF (w_upF (w_upF (w_upF A 5 (w_upG 420 (A 5) ((I 200)) ((I 202)))) 6 (w_upG 420 (A 6) ((I 200)) (kd))) 8 (w_upG 420 (A 8) ((I 200)) (hs))) 9 (w_upG 420 (A 9) ((I 200)) (v20))) 10 (w_upG 256 (A 10) (hs) ((I 200)))) 7 (w_upG 420 (A 7) ((I 200)) ((-1)))) 7 (w_upG 420 (w_upG 420 (A 7) ((I 200)) ((-1))) ((I 200)) ((I 201)))) 11 (w_upG 400 (A 11) ((I 201)) ((I 200)))) B C M56 := hR57
    refine w_adv (n := 1) (F' := (119, [(3, .int (Int32.ofInt ((I 200)))), (0, .ref 3), (1, .int (Int32.ofInt (kd))), (2, .int (Int32.ofInt (hs)))], [.int (Int32.ofInt ((I 200)))], M56)) rfl ?_
    refine w_fin (r := .inl (some ((I 200)))) (M' := M56) rfl ?_
    exact ⟨(I 200), (w_up (w_up I 201 (x51)) 200 ((I 200) + 1)), (w_upF (w_upF (w_upF (w_upF (w_upF (w_upF (w_upF (w_upF A 5 (w_upG 420 (A 5) ((I 200)) ((I 202)))) 6 (w_upG 420 (A 6) ((I 200)) (kd))) 8 (w_upG 420 (A 8) ((I 200)) (hs))) 9 (w_upG 420 (A 9) ((I 200)) (v20))) 10 (w_upG 256 (A 10) (hs) ((I 200)))) 7 (w_upG 420 (A 7) ((I 200)) ((-1)))) 7 (w_upG 420 (w_upG 420 (A 7) ((I 200)) ((-1))) ((I 200)) ((I 201)))) 11 (w_upG 400 (A 11) ((I 201)) ((I 200)))), B, C, rfl, ⟨by omega, by omega⟩, hR57, (show c_fr c_ts c_ta I A (w_up (w_up I 201 (x51)) 200 ((I 200) + 1)) (w_upF (w_upF (w_upF (w_upF (w_upF (w_upF (w_upF (w_upF A 5 (w_upG 420 (A 5) ((I 200)) ((I 202)))) 6 (w_upG 420 (A 6) ((I 200)) (kd))) 8 (w_upG 420 (A 8) ((I 200)) (hs))) 9 (w_upG 420 (A 9) ((I 200)) (v20))) 10 (w_upG 256 (A 10) (hs) ((I 200)))) 7 (w_upG 420 (A 7) ((I 200)) ((-1)))) 7 (w_upG 420 (w_upG 420 (A 7) ((I 200)) ((-1))) ((I 200)) ((I 201)))) 11 (w_upG 400 (A 11) ((I 201)) ((I 200)))) by exact (c_fr_upF (c_fr_upF (c_fr_upF (c_fr_upF (c_fr_upF (c_fr_upF (c_fr_upF (c_fr_upF (c_fr_up (c_fr_up c_fr_refl rfl) rfl) rfl) rfl) rfl) rfl) rfl) rfl) rfl) rfl)), (show 36 ≤ (I 200) + 1 ∧ (I 200) + 1 ≤ 419 ∧ 0 ≤ (I 202) ∧ (I 202) ≤ 24 by (repeat' apply And.intro) <;> first | assumption | omega), (show ∀ i, (w_upG 420 (A 5) ((I 200)) ((I 202))) i ≤ 24 by exact c_LN_upG hLN (by omega)), (show (I 773) = (I 773) ∧ (I 65) = (I 65) by (repeat' apply And.intro) <;> first | assumption | omega)⟩
def c_settle_Q (fr : Nat → Bool) (X : Nat → Option (q_C (Nat → Int32))) (u l : Nat) (I : Nat → Int) (A : Nat → Int → Int) (B C : Nat → Nat) (M : w_M) (kd : Int) : w_X → w_M → Prop := fun r M' => (∃ v : Int, ∃ (I' : Nat → Int) (A' : Nat → Int → Int) (B' C' : Nat → Nat), (r = .inl (some v)) ∧ (w_in v) ∧ (w_Rep w_TC fr X u l I' A' B' C' M') ∧ (c_fr c_ts c_ta I A I' A') ∧ (36 ≤ (I' 200) ∧ (I' 200) ≤ 419 ∧ 0 ≤ (I' 202) ∧ (I' 202) ≤ 24) ∧ (∀ i, (A' 5) i ≤ 24) ∧ ((I' 773) = (I 773) ∧ (I' 65) = (I 65)))
set_option maxHeartbeats 100000000 in
set_option maxRecDepth 100000 in
theorem c_settle {L : Nat} {xs : Nat → Int32} {d : Nat} {fr : Nat → Bool} {X : Nat → Option (q_C (Nat → Int32))} {u l : Nat} {I : Nat → Int} {A : Nat → Int → Int} {B C : Nat → Nat} {M : w_M} (kd : Int) (hR : w_Rep w_TC fr X u l I A B C M) (hd : 3 ≤ d) (r_kd : w_in kd) (hNM : 36 ≤ (I 200) ∧ (I 200) ≤ 419 ∧ 0 ≤ (I 202) ∧ (I 202) ≤ 24) (hLN : ∀ i, (A 5) i ≤ 24) : w_W (z_P L xs) d 19 (0, [(0, .ref 3), (1, .int (Int32.ofInt (kd)))], [], M) (c_settle_Q fr X u l I A B C M kd) := by
  obtain ⟨ra_kd, rb_kd⟩ := r_kd
  obtain ⟨d, rfl⟩ : ∃ d0, d = d0 + 1 := ⟨d - 1, by omega⟩
  refine w_adv (n := 1) (F' := (1, [(0, .ref 3), (1, .int (Int32.ofInt (kd)))], [.ref 3], M)) rfl ?_
  refine w_call (cm := 20) (as := [(0, .ref 3)]) (rest := []) (o := some (3, 3)) rfl (w_fitR hR rfl) (c_hashOfTried hR (show 36 ≤ (I 200) ∧ (I 200) ≤ 419 ∧ 0 ≤ (I 202) ∧ (I 202) ≤ 24 by (repeat' apply And.intro) <;> first | assumption | omega)) (fun r1 M2 q3 => ?_)
  rcases q3 with ⟨v4, e5, ⟨r6, r7⟩, e8⟩
  rw [e5, e8]
  show w_W _ _ _ (4, [(0, .ref 3), (1, .int (Int32.ofInt (kd)))], [.int (Int32.ofInt (v4))], M) _
  refine w_adv (n := 2) (F' := (6, [(2, .int (Int32.ofInt (v4))), (0, .ref 3), (1, .int (Int32.ofInt (kd)))], [.ref 3], M)) rfl ?_
  refine w_gf (v := .ref 10) hR rfl rfl rfl rfl ?_
  refine w_adv (n := 1) (F' := (10, [(2, .int (Int32.ofInt (v4))), (0, .ref 3), (1, .int (Int32.ofInt (kd)))], [.int (Int32.ofInt (v4)), .ref 10], M)) rfl ?_
  refine w_call (cm := 21) (as := [(0, .ref 10), (1, .int (Int32.ofInt (v4)))]) (rest := []) (o := none) rfl (trivial) (c_at (v4) 10 256 rfl (by decide) hR ⟨by omega, by omega⟩) (fun r9 M10 q11 => ?_)
  rcases q11 with ⟨v12, e13, ⟨r14, r15⟩, e16, f17⟩
  rw [e13, e16]
  replace f17 : ((0 ≤ v4 ∧ v4 < (256 : Int) ∧ v12 = (A 10) (v4)) ∨ (¬ (0 ≤ v4 ∧ v4 < (256 : Int)) ∧ v12 = -1)) := f17
  show w_W _ _ _ (13, [(2, .int (Int32.ofInt (v4))), (0, .ref 3), (1, .int (Int32.ofInt (kd)))], [.int (Int32.ofInt (v12))], M) _
  refine w_adv (n := 3) (F' := (17, [(4, .int (Int32.ofInt (0))), (3, .int (Int32.ofInt (v12))), (2, .int (Int32.ofInt (v4))), (0, .ref 3), (1, .int (Int32.ofInt (kd)))], [], M)) rfl ?_
  have lp17 : ∀ fu17 : Nat, ∀ (y17_3 : Int) (y17_4 : Int), w_in y17_3 → w_in y17_4 → 0 ≤ y17_4 ∧ y17_4 ≤ 420 → 420 - y17_4 < (fu17 : Int) → w_W (z_P L xs) (d + 1) 19 (17, [(0, .ref 3), (1, .int (Int32.ofInt (kd))), (2, .int (Int32.ofInt (v4))), (3, .int (Int32.ofInt (y17_3))), (4, .int (Int32.ofInt (y17_4)))], [], M) (c_settle_Q fr X u l I A B C M kd) := by
    intro fu17
    induction fu17 with
    | zero =>
      intro y17_3 y17_4 ⟨ra_y17_3, rb_y17_3⟩ ⟨ra_y17_4, rb_y17_4⟩ hi17_0 hn17
      exfalso
      omega
    | succ fu17 ih17 =>
      intro y17_3 y17_4 ⟨ra_y17_3, rb_y17_3⟩ ⟨ra_y17_4, rb_y17_4⟩ hi17_0 hn17
      refine w_adv (n := 2) (F' := (22, [(0, .ref 3), (1, .int (Int32.ofInt (kd))), (2, .int (Int32.ofInt (v4))), (3, .int (Int32.ofInt (y17_3))), (4, .int (Int32.ofInt (y17_4)))], [.int (Int32.ofInt (420)), .int (Int32.ofInt (y17_4))], M)) rfl ?_
      refine w_br2 (a := y17_4) (b := 420) rfl rfl ⟨by omega, by omega⟩ ⟨by omega, by omega⟩ (fun h18 => ?_) (fun h18 => ?_)
      · have h18 : y17_4 ≥ 420 := h18
        show w_W _ _ _ (55, [(0, .ref 3), (1, .int (Int32.ofInt (kd))), (2, .int (Int32.ofInt (v4))), (3, .int (Int32.ofInt (y17_3))), (4, .int (Int32.ofInt (y17_4)))], [], M) _
        refine w_adv (n := 1) (F' := (56, [(0, .ref 3), (1, .int (Int32.ofInt (kd))), (2, .int (Int32.ofInt (v4))), (3, .int (Int32.ofInt (y17_3))), (4, .int (Int32.ofInt (y17_4)))], [.ref 3], M)) rfl ?_
        refine w_gf (v := .int (Int32.ofInt ((I 200)))) hR rfl rfl rfl rfl ?_
        obtain ⟨r19, r20⟩ : -2147483648 ≤ (I 200) ∧ (I 200) ≤ 2147483647 := hR.ri 200
        refine w_adv (n := 1) (F' := (61, [(0, .ref 3), (1, .int (Int32.ofInt (kd))), (2, .int (Int32.ofInt (v4))), (3, .int (Int32.ofInt (y17_3))), (4, .int (Int32.ofInt (y17_4)))], [.int (Int32.ofInt (19)), .int (Int32.ofInt ((I 200)))], M)) rfl ?_
        refine w_sub rfl ?_
        refine w_adv (n := 1) (F' := (65, [(0, .ref 3), (1, .int (Int32.ofInt (kd))), (2, .int (Int32.ofInt (v4))), (3, .int (Int32.ofInt (y17_3))), (4, .int (Int32.ofInt (y17_4)))], [.int (Int32.ofInt (400)), .int (Int32.ofInt ((I 200) - 19))], M)) rfl ?_
        refine w_br2 (a := (I 200) - 19) (b := 400) rfl rfl ⟨by omega, by omega⟩ ⟨by omega, by omega⟩ (fun h21 => ?_) (fun h21 => ?_)
        · have h21 : (I 200) - 19 ≥ 400 := h21
          show w_W _ _ _ (77, [(0, .ref 3), (1, .int (Int32.ofInt (kd))), (2, .int (Int32.ofInt (v4))), (3, .int (Int32.ofInt (y17_3))), (4, .int (Int32.ofInt (y17_4)))], [], M) _
          refine w_adv (n := 1) (F' := (78, [(0, .ref 3), (1, .int (Int32.ofInt (kd))), (2, .int (Int32.ofInt (v4))), (3, .int (Int32.ofInt (y17_3))), (4, .int (Int32.ofInt (y17_4)))], [.int (Int32.ofInt ((-1)))], M)) rfl ?_
          refine w_fin (r := .inl (some ((-1)))) (M' := M) rfl ?_
          exact ⟨(-1), I, A, B, C, rfl, ⟨by omega, by omega⟩, hR, (show c_fr c_ts c_ta I A I A by exact c_fr_refl), (show 36 ≤ (I 200) ∧ (I 200) ≤ 419 ∧ 0 ≤ (I 202) ∧ (I 202) ≤ 24 by (repeat' apply And.intro) <;> first | assumption | omega), (show ∀ i, (A 5) i ≤ 24 by exact hLN), (show (I 773) = (I 773) ∧ (I 65) = (I 65) by (repeat' apply And.intro) <;> first | assumption | omega)⟩
        · have h21 : ¬ ((I 200) - 19 ≥ 400) := h21
          show w_W _ _ _ (68, [(0, .ref 3), (1, .int (Int32.ofInt (kd))), (2, .int (Int32.ofInt (v4))), (3, .int (Int32.ofInt (y17_3))), (4, .int (Int32.ofInt (y17_4)))], [], M) _
          refine w_adv (n := 3) (F' := (71, [(0, .ref 3), (1, .int (Int32.ofInt (kd))), (2, .int (Int32.ofInt (v4))), (3, .int (Int32.ofInt (y17_3))), (4, .int (Int32.ofInt (y17_4)))], [.int (Int32.ofInt (v4)), .int (Int32.ofInt (kd)), .ref 3], M)) rfl ?_
          refine w_call (cm := 24) (as := [(0, .ref 3), (1, .int (Int32.ofInt (kd))), (2, .int (Int32.ofInt (v4)))]) (rest := []) (o := some (3, 3)) rfl (w_fitR hR rfl) (c_Names_add (kd) (v4) hR (show 1 ≤ d by omega) ⟨by omega, by omega⟩ ⟨by omega, by omega⟩ (show 36 ≤ (I 200) ∧ (I 200) ≤ 419 ∧ 0 ≤ (I 202) ∧ (I 202) ≤ 24 by (repeat' apply And.intro) <;> first | assumption | omega) (show ∀ i, (A 5) i ≤ 24 by exact hLN) (show (I 200) ≤ 418 by first | assumption | omega)) (fun r22 M23 q24 => ?_)
          rcases q24 with ⟨v25, I24a, A24a, B24a, C24a, e26, ⟨r27, r28⟩, hR24a, f29, f30, f31, f32⟩
          rw [e26]
          replace hR24a : w_Rep w_TC fr X u l I24a A24a B24a C24a M23 := hR24a
          replace f29 : c_fr c_ts c_ta I A I24a A24a := f29
          replace f30 : 36 ≤ (I24a 200) ∧ (I24a 200) ≤ 419 ∧ 0 ≤ (I24a 202) ∧ (I24a 202) ≤ 24 := f30
          obtain ⟨n33, n34, n35, n36⟩ := id f30
          clear f30
          replace f31 : ∀ i, (A24a 5) i ≤ 24 := f31
          replace f32 : (I24a 773) = (I 773) ∧ (I24a 65) = (I 65) := f32
          obtain ⟨n37, n38⟩ := id f32
          clear f32
          show w_W _ _ _ (74, [(0, .ref 3), (1, .int (Int32.ofInt (kd))), (2, .int (Int32.ofInt (v4))), (3, .int (Int32.ofInt (y17_3))), (4, .int (Int32.ofInt (y17_4)))], [.int (Int32.ofInt (v25))], M23) _
          refine w_adv (n := 1) (F' := (78, [(0, .ref 3), (1, .int (Int32.ofInt (kd))), (2, .int (Int32.ofInt (v4))), (3, .int (Int32.ofInt (y17_3))), (4, .int (Int32.ofInt (y17_4)))], [.int (Int32.ofInt (v25))], M23)) rfl ?_
          refine w_fin (r := .inl (some (v25))) (M' := M23) rfl ?_
          exact ⟨v25, I24a, A24a, B24a, C24a, rfl, ⟨by omega, by omega⟩, hR24a, (show c_fr c_ts c_ta I A I24a A24a by exact f29), (show 36 ≤ (I24a 200) ∧ (I24a 200) ≤ 419 ∧ 0 ≤ (I24a 202) ∧ (I24a 202) ≤ 24 by (repeat' apply And.intro) <;> first | assumption | omega), (show ∀ i, (A24a 5) i ≤ 24 by exact f31), (show (I24a 773) = (I 773) ∧ (I24a 65) = (I 65) by (repeat' apply And.intro) <;> first | assumption | omega)⟩
      · have h18 : ¬ (y17_4 ≥ 420) := h18
        show w_W _ _ _ (25, [(0, .ref 3), (1, .int (Int32.ofInt (kd))), (2, .int (Int32.ofInt (v4))), (3, .int (Int32.ofInt (y17_3))), (4, .int (Int32.ofInt (y17_4)))], [], M) _
        refine w_adv (n := 2) (F' := (27, [(0, .ref 3), (1, .int (Int32.ofInt (kd))), (2, .int (Int32.ofInt (v4))), (3, .int (Int32.ofInt (y17_3))), (4, .int (Int32.ofInt (y17_4)))], [.int (Int32.ofInt ((-1))), .int (Int32.ofInt (y17_3))], M)) rfl ?_
        refine w_br2 (a := y17_3) (b := (-1)) rfl rfl ⟨by omega, by omega⟩ ⟨by omega, by omega⟩ (fun h39 => ?_) (fun h39 => ?_)
        · have h39 : y17_3 = (-1) := h39
          show w_W _ _ _ (55, [(0, .ref 3), (1, .int (Int32.ofInt (kd))), (2, .int (Int32.ofInt (v4))), (3, .int (Int32.ofInt (y17_3))), (4, .int (Int32.ofInt (y17_4)))], [], M) _
          refine w_adv (n := 1) (F' := (56, [(0, .ref 3), (1, .int (Int32.ofInt (kd))), (2, .int (Int32.ofInt (v4))), (3, .int (Int32.ofInt (y17_3))), (4, .int (Int32.ofInt (y17_4)))], [.ref 3], M)) rfl ?_
          refine w_gf (v := .int (Int32.ofInt ((I 200)))) hR rfl rfl rfl rfl ?_
          obtain ⟨r40, r41⟩ : -2147483648 ≤ (I 200) ∧ (I 200) ≤ 2147483647 := hR.ri 200
          refine w_adv (n := 1) (F' := (61, [(0, .ref 3), (1, .int (Int32.ofInt (kd))), (2, .int (Int32.ofInt (v4))), (3, .int (Int32.ofInt (y17_3))), (4, .int (Int32.ofInt (y17_4)))], [.int (Int32.ofInt (19)), .int (Int32.ofInt ((I 200)))], M)) rfl ?_
          refine w_sub rfl ?_
          refine w_adv (n := 1) (F' := (65, [(0, .ref 3), (1, .int (Int32.ofInt (kd))), (2, .int (Int32.ofInt (v4))), (3, .int (Int32.ofInt (y17_3))), (4, .int (Int32.ofInt (y17_4)))], [.int (Int32.ofInt (400)), .int (Int32.ofInt ((I 200) - 19))], M)) rfl ?_
          refine w_br2 (a := (I 200) - 19) (b := 400) rfl rfl ⟨by omega, by omega⟩ ⟨by omega, by omega⟩ (fun h42 => ?_) (fun h42 => ?_)
          · have h42 : (I 200) - 19 ≥ 400 := h42
            show w_W _ _ _ (77, [(0, .ref 3), (1, .int (Int32.ofInt (kd))), (2, .int (Int32.ofInt (v4))), (3, .int (Int32.ofInt (y17_3))), (4, .int (Int32.ofInt (y17_4)))], [], M) _
            refine w_adv (n := 1) (F' := (78, [(0, .ref 3), (1, .int (Int32.ofInt (kd))), (2, .int (Int32.ofInt (v4))), (3, .int (Int32.ofInt (y17_3))), (4, .int (Int32.ofInt (y17_4)))], [.int (Int32.ofInt ((-1)))], M)) rfl ?_
            refine w_fin (r := .inl (some ((-1)))) (M' := M) rfl ?_
            exact ⟨(-1), I, A, B, C, rfl, ⟨by omega, by omega⟩, hR, (show c_fr c_ts c_ta I A I A by exact c_fr_refl), (show 36 ≤ (I 200) ∧ (I 200) ≤ 419 ∧ 0 ≤ (I 202) ∧ (I 202) ≤ 24 by (repeat' apply And.intro) <;> first | assumption | omega), (show ∀ i, (A 5) i ≤ 24 by exact hLN), (show (I 773) = (I 773) ∧ (I 65) = (I 65) by (repeat' apply And.intro) <;> first | assumption | omega)⟩
          · have h42 : ¬ ((I 200) - 19 ≥ 400) := h42
            show w_W _ _ _ (68, [(0, .ref 3), (1, .int (Int32.ofInt (kd))), (2, .int (Int32.ofInt (v4))), (3, .int (Int32.ofInt (y17_3))), (4, .int (Int32.ofInt (y17_4)))], [], M) _
            refine w_adv (n := 3) (F' := (71, [(0, .ref 3), (1, .int (Int32.ofInt (kd))), (2, .int (Int32.ofInt (v4))), (3, .int (Int32.ofInt (y17_3))), (4, .int (Int32.ofInt (y17_4)))], [.int (Int32.ofInt (v4)), .int (Int32.ofInt (kd)), .ref 3], M)) rfl ?_
            refine w_call (cm := 24) (as := [(0, .ref 3), (1, .int (Int32.ofInt (kd))), (2, .int (Int32.ofInt (v4)))]) (rest := []) (o := some (3, 3)) rfl (w_fitR hR rfl) (c_Names_add (kd) (v4) hR (show 1 ≤ d by omega) ⟨by omega, by omega⟩ ⟨by omega, by omega⟩ (show 36 ≤ (I 200) ∧ (I 200) ≤ 419 ∧ 0 ≤ (I 202) ∧ (I 202) ≤ 24 by (repeat' apply And.intro) <;> first | assumption | omega) (show ∀ i, (A 5) i ≤ 24 by exact hLN) (show (I 200) ≤ 418 by first | assumption | omega)) (fun r43 M44 q45 => ?_)
            rcases q45 with ⟨v46, I45a, A45a, B45a, C45a, e47, ⟨r48, r49⟩, hR45a, f50, f51, f52, f53⟩
            rw [e47]
            replace hR45a : w_Rep w_TC fr X u l I45a A45a B45a C45a M44 := hR45a
            replace f50 : c_fr c_ts c_ta I A I45a A45a := f50
            replace f51 : 36 ≤ (I45a 200) ∧ (I45a 200) ≤ 419 ∧ 0 ≤ (I45a 202) ∧ (I45a 202) ≤ 24 := f51
            obtain ⟨n54, n55, n56, n57⟩ := id f51
            clear f51
            replace f52 : ∀ i, (A45a 5) i ≤ 24 := f52
            replace f53 : (I45a 773) = (I 773) ∧ (I45a 65) = (I 65) := f53
            obtain ⟨n58, n59⟩ := id f53
            clear f53
            show w_W _ _ _ (74, [(0, .ref 3), (1, .int (Int32.ofInt (kd))), (2, .int (Int32.ofInt (v4))), (3, .int (Int32.ofInt (y17_3))), (4, .int (Int32.ofInt (y17_4)))], [.int (Int32.ofInt (v46))], M44) _
            refine w_adv (n := 1) (F' := (78, [(0, .ref 3), (1, .int (Int32.ofInt (kd))), (2, .int (Int32.ofInt (v4))), (3, .int (Int32.ofInt (y17_3))), (4, .int (Int32.ofInt (y17_4)))], [.int (Int32.ofInt (v46))], M44)) rfl ?_
            refine w_fin (r := .inl (some (v46))) (M' := M44) rfl ?_
            exact ⟨v46, I45a, A45a, B45a, C45a, rfl, ⟨by omega, by omega⟩, hR45a, (show c_fr c_ts c_ta I A I45a A45a by exact f50), (show 36 ≤ (I45a 200) ∧ (I45a 200) ≤ 419 ∧ 0 ≤ (I45a 202) ∧ (I45a 202) ≤ 24 by (repeat' apply And.intro) <;> first | assumption | omega), (show ∀ i, (A45a 5) i ≤ 24 by exact f52), (show (I45a 773) = (I 773) ∧ (I45a 65) = (I 65) by (repeat' apply And.intro) <;> first | assumption | omega)⟩
        · have h39 : ¬ (y17_3 = (-1)) := h39
          show w_W _ _ _ (30, [(0, .ref 3), (1, .int (Int32.ofInt (kd))), (2, .int (Int32.ofInt (v4))), (3, .int (Int32.ofInt (y17_3))), (4, .int (Int32.ofInt (y17_4)))], [], M) _
          refine w_adv (n := 2) (F' := (32, [(0, .ref 3), (1, .int (Int32.ofInt (kd))), (2, .int (Int32.ofInt (v4))), (3, .int (Int32.ofInt (y17_3))), (4, .int (Int32.ofInt (y17_4)))], [.int (Int32.ofInt (y17_3)), .ref 3], M)) rfl ?_
          refine w_call (cm := 22) (as := [(0, .ref 3), (1, .int (Int32.ofInt (y17_3)))]) (rest := []) (o := some (3, 3)) rfl (w_fitR hR rfl) (c_isTried (y17_3) hR (show 1 ≤ d by omega) ⟨by omega, by omega⟩ (show 36 ≤ (I 200) ∧ (I 200) ≤ 419 ∧ 0 ≤ (I 202) ∧ (I 202) ≤ 24 by (repeat' apply And.intro) <;> first | assumption | omega)) (fun r60 M61 q62 => ?_)
          rcases q62 with ⟨e63, e64⟩ | ⟨e65, e66⟩
          · rw [e63, e64]
            show w_W _ _ _ (35, [(0, .ref 3), (1, .int (Int32.ofInt (kd))), (2, .int (Int32.ofInt (v4))), (3, .int (Int32.ofInt (y17_3))), (4, .int (Int32.ofInt (y17_4)))], [.int (Int32.ofInt (1))], M) _
            refine w_adv (n := 2) (F' := (39, [(0, .ref 3), (1, .int (Int32.ofInt (kd))), (2, .int (Int32.ofInt (v4))), (3, .int (Int32.ofInt (y17_3))), (4, .int (Int32.ofInt (y17_4)))], [.int (Int32.ofInt (y17_3))], M)) rfl ?_
            refine w_fin (r := .inl (some (y17_3))) (M' := M) rfl ?_
            exact ⟨y17_3, I, A, B, C, rfl, ⟨by omega, by omega⟩, hR, (show c_fr c_ts c_ta I A I A by exact c_fr_refl), (show 36 ≤ (I 200) ∧ (I 200) ≤ 419 ∧ 0 ≤ (I 202) ∧ (I 202) ≤ 24 by (repeat' apply And.intro) <;> first | assumption | omega), (show ∀ i, (A 5) i ≤ 24 by exact hLN), (show (I 773) = (I 773) ∧ (I 65) = (I 65) by (repeat' apply And.intro) <;> first | assumption | omega)⟩
          · rw [e65, e66]
            show w_W _ _ _ (35, [(0, .ref 3), (1, .int (Int32.ofInt (kd))), (2, .int (Int32.ofInt (v4))), (3, .int (Int32.ofInt (y17_3))), (4, .int (Int32.ofInt (y17_4)))], [.int (Int32.ofInt (0))], M) _
            refine w_adv (n := 2) (F' := (41, [(0, .ref 3), (1, .int (Int32.ofInt (kd))), (2, .int (Int32.ofInt (v4))), (3, .int (Int32.ofInt (y17_3))), (4, .int (Int32.ofInt (y17_4)))], [.ref 3], M)) rfl ?_
            refine w_gf (v := .ref 9) hR rfl rfl rfl rfl ?_
            refine w_adv (n := 1) (F' := (45, [(0, .ref 3), (1, .int (Int32.ofInt (kd))), (2, .int (Int32.ofInt (v4))), (3, .int (Int32.ofInt (y17_3))), (4, .int (Int32.ofInt (y17_4)))], [.int (Int32.ofInt (y17_3)), .ref 9], M)) rfl ?_
            refine w_call (cm := 21) (as := [(0, .ref 9), (1, .int (Int32.ofInt (y17_3)))]) (rest := []) (o := none) rfl (trivial) (c_at (y17_3) 9 420 rfl (by decide) hR ⟨by omega, by omega⟩) (fun r67 M68 q69 => ?_)
            rcases q69 with ⟨v70, e71, ⟨r72, r73⟩, e74, f75⟩
            rw [e71, e74]
            replace f75 : ((0 ≤ y17_3 ∧ y17_3 < (420 : Int) ∧ v70 = (A 9) (y17_3)) ∨ (¬ (0 ≤ y17_3 ∧ y17_3 < (420 : Int)) ∧ v70 = -1)) := f75
            show w_W _ _ _ (48, [(0, .ref 3), (1, .int (Int32.ofInt (kd))), (2, .int (Int32.ofInt (v4))), (3, .int (Int32.ofInt (y17_3))), (4, .int (Int32.ofInt (y17_4)))], [.int (Int32.ofInt (v70))], M) _
            refine w_adv (n := 1) (F' := (49, [(3, .int (Int32.ofInt (v70))), (0, .ref 3), (1, .int (Int32.ofInt (kd))), (2, .int (Int32.ofInt (v4))), (4, .int (Int32.ofInt (y17_4)))], [], M)) rfl ?_
            refine w_inc (nL := 5) (a := y17_4) rfl rfl rfl (by decide) ?_
            refine w_adv (n := 1) (F' := (17, [(4, .int (Int32.ofInt (y17_4 + 1))), (3, .int (Int32.ofInt (v70))), (0, .ref 3), (1, .int (Int32.ofInt (kd))), (2, .int (Int32.ofInt (v4)))], [], M)) rfl ?_
            refine w_ls (ls := [(0, .ref 3), (1, .int (Int32.ofInt (kd))), (2, .int (Int32.ofInt (v4))), (3, .int (Int32.ofInt (v70))), (4, .int (Int32.ofInt (y17_4 + 1)))]) (show List.Nodup [0, 1, 2, 3, 4] by decide) (show List.Nodup [4, 3, 0, 1, 2] by decide) (List.forall_mem_cons.mpr ⟨(List.Mem.tail _ (List.Mem.tail _ (List.Mem.head _))), (List.forall_mem_cons.mpr ⟨(List.Mem.tail _ (List.Mem.tail _ (List.Mem.tail _ (List.Mem.head _)))), (List.forall_mem_cons.mpr ⟨(List.Mem.tail _ (List.Mem.tail _ (List.Mem.tail _ (List.Mem.tail _ (List.Mem.head _))))), (List.forall_mem_cons.mpr ⟨(List.Mem.tail _ (List.Mem.head _)), (List.forall_mem_cons.mpr ⟨(List.Mem.head _), (fun _ h => by cases h)⟩)⟩)⟩)⟩)⟩) ?_
            exact ih17  (v70) (y17_4 + 1) ⟨by omega, by omega⟩ ⟨by omega, by omega⟩ (show 0 ≤ (y17_4 + 1) ∧ (y17_4 + 1) ≤ 420 by omega) (show 420 - (y17_4 + 1) < (fu17 : Int) by omega)
  refine w_ls (ls := [(0, .ref 3), (1, .int (Int32.ofInt (kd))), (2, .int (Int32.ofInt (v4))), (3, .int (Int32.ofInt (v12))), (4, .int (Int32.ofInt (0)))]) (show List.Nodup [0, 1, 2, 3, 4] by decide) (show List.Nodup [4, 3, 2, 0, 1] by decide) (List.forall_mem_cons.mpr ⟨(List.Mem.tail _ (List.Mem.tail _ (List.Mem.tail _ (List.Mem.head _)))), (List.forall_mem_cons.mpr ⟨(List.Mem.tail _ (List.Mem.tail _ (List.Mem.tail _ (List.Mem.tail _ (List.Mem.head _))))), (List.forall_mem_cons.mpr ⟨(List.Mem.tail _ (List.Mem.tail _ (List.Mem.head _))), (List.forall_mem_cons.mpr ⟨(List.Mem.tail _ (List.Mem.head _)), (List.forall_mem_cons.mpr ⟨(List.Mem.head _), (fun _ h => by cases h)⟩)⟩)⟩)⟩)⟩) ?_
  exact lp17 ((420 - 0 : Int).toNat + 1)  (v12) (0) ⟨by omega, by omega⟩ ⟨by omega, by omega⟩ (show 0 ≤ (0 : Int) ∧ (0 : Int) ≤ 420 by omega) (show 420 - 0 < (((420 - 0 : Int).toNat + 1 : Nat) : Int) by omega)
def c_Names_reset_Q (fr : Nat → Bool) (X : Nat → Option (q_C (Nat → Int32))) (u l : Nat) (I : Nat → Int) (A : Nat → Int → Int) (B C : Nat → Nat) (M : w_M) : w_X → w_M → Prop := fun r M' => (∃ (I' : Nat → Int) (A' : Nat → Int → Int) (B' C' : Nat → Nat), (r = .inl none) ∧ (w_Rep w_TC fr X u l I' A' B' C' M') ∧ (c_fr c_ts c_ta I A I' A') ∧ (36 ≤ (I' 200) ∧ (I' 200) ≤ 419 ∧ 0 ≤ (I' 202) ∧ (I' 202) ≤ 24) ∧ (∀ i, (A' 5) i ≤ 24) ∧ ((I' 773) = (I 773) ∧ (I' 65) = (I 65)))
set_option maxHeartbeats 100000000 in
set_option maxRecDepth 100000 in
theorem c_Names_reset {L : Nat} {xs : Nat → Int32} {d : Nat} {fr : Nat → Bool} {X : Nat → Option (q_C (Nat → Int32))} {u l : Nat} {I : Nat → Int} {A : Nat → Int → Int} {B C : Nat → Nat} {M : w_M} (hR : w_Rep w_TC fr X u l I A B C M) (hd : 1 ≤ d) (hNM : 36 ≤ (I 200) ∧ (I 200) ≤ 419 ∧ 0 ≤ (I 202) ∧ (I 202) ≤ 24) (hLN : ∀ i, (A 5) i ≤ 24) : w_W (z_P L xs) d 43 (0, [(0, .ref 3)], [], M) (c_Names_reset_Q fr X u l I A B C M) := by
  obtain ⟨d, rfl⟩ : ∃ d0, d = d0 + 1 := ⟨d - 1, by omega⟩
  refine w_adv (n := 1) (F' := (1, [(0, .ref 3)], [.ref 3], M)) rfl ?_
  refine w_gf (v := .int (Int32.ofInt ((I 200)))) hR rfl rfl rfl rfl ?_
  obtain ⟨r1, r2⟩ : -2147483648 ≤ (I 200) ∧ (I 200) ≤ 2147483647 := hR.ri 200
  refine w_adv (n := 1) (F' := (5, [(0, .ref 3)], [.int (Int32.ofInt (1)), .int (Int32.ofInt ((I 200)))], M)) rfl ?_
  refine w_sub rfl ?_
  refine w_adv (n := 1) (F' := (7, [(1, .int (Int32.ofInt ((I 200) - 1))), (0, .ref 3)], [], M)) rfl ?_
  have lp7 : ∀ fu7 : Nat, ∀ (y7_1 : Int) (ga7_10 : Int → Int) (M_7 : w_M) (hR_7 : w_Rep w_TC fr X u l I (w_upF A 10 ga7_10) B C M_7), w_in y7_1 → 35 ≤ y7_1 ∧ y7_1 ≤ 418 → y7_1 - 35 < (fu7 : Int) → w_W (z_P L xs) (d + 1) 43 (7, [(0, .ref 3), (1, .int (Int32.ofInt (y7_1)))], [], M_7) (c_Names_reset_Q fr X u l I A B C M) := by
    intro fu7
    induction fu7 with
    | zero =>
      intro y7_1 ga7_10 M_7 hR_7 ⟨ra_y7_1, rb_y7_1⟩ hi7_0 hn7
      exfalso
      omega
    | succ fu7 ih7 =>
      intro y7_1 ga7_10 M_7 hR_7 ⟨ra_y7_1, rb_y7_1⟩ hi7_0 hn7
      refine w_adv (n := 2) (F' := (10, [(0, .ref 3), (1, .int (Int32.ofInt (y7_1)))], [.int (Int32.ofInt (36)), .int (Int32.ofInt (y7_1))], M_7)) rfl ?_
      refine w_br2 (a := y7_1) (b := 36) rfl rfl ⟨by omega, by omega⟩ ⟨by omega, by omega⟩ (fun h3 => ?_) (fun h3 => ?_)
      · have h3 : y7_1 < 36 := h3
        show w_W _ _ _ (42, [(0, .ref 3), (1, .int (Int32.ofInt (y7_1)))], [], M_7) _
        refine w_adv (n := 2) (F' := (45, [(0, .ref 3), (1, .int (Int32.ofInt (y7_1)))], [.int (Int32.ofInt (36)), .ref 3], M_7)) rfl ?_
        refine w_pf hR_7 rfl rfl rfl rfl (show w_in (36) from ⟨by omega, by omega⟩) (fun h => absurd h (by decide)) (fun M4 hR5 => ?_)
        replace hR5 : w_Rep w_TC fr X u l (w_up I 200 (36)) (w_upF A 10 ga7_10) B C M4 := hR5
        refine w_adv (n := 2) (F' := (51, [(0, .ref 3), (1, .int (Int32.ofInt (y7_1)))], [.int (Int32.ofInt (10)), .ref 3], M4)) rfl ?_
        refine w_pf hR5 rfl rfl rfl rfl (show w_in (10) from ⟨by omega, by omega⟩) (fun h => absurd h (by decide)) (fun M6 hR7 => ?_)
        replace hR7 : w_Rep w_TC fr X u l (w_up (w_up I 200 (36)) 201 (10)) (w_upF A 10 ga7_10) B C M6 := hR7
        refine w_adv (n := 2) (F' := (56, [(0, .ref 3), (1, .int (Int32.ofInt (y7_1)))], [.int (Int32.ofInt (0)), .ref 3], M6)) rfl ?_
        refine w_pf hR7 rfl rfl rfl rfl (show w_in (0) from ⟨by omega, by omega⟩) (fun h => absurd h (by decide)) (fun M8 hR9 => ?_)
        replace hR9 : w_Rep w_TC fr X u l (w_up (w_up (w_up I 200 (36)) 201 (10)) 202 (0)) (w_upF A 10 ga7_10) B C M8 := hR9
        refine w_fin (r := .inl none) (M' := M8) rfl ?_
        exact ⟨(w_up (w_up (w_up I 200 (36)) 201 (10)) 202 (0)), (w_upF A 10 ga7_10), B, C, rfl, hR9, (show c_fr c_ts c_ta I A (w_up (w_up (w_up I 200 (36)) 201 (10)) 202 (0)) (w_upF A 10 ga7_10) by exact (c_fr_upF (c_fr_up (c_fr_up (c_fr_up c_fr_refl rfl) rfl) rfl) rfl)), (show 36 ≤ 36 ∧ 36 ≤ 419 ∧ 0 ≤ 0 ∧ 0 ≤ 24 by (repeat' apply And.intro) <;> first | assumption | omega), (show ∀ i, (A 5) i ≤ 24 by exact hLN), (show (I 773) = (I 773) ∧ (I 65) = (I 65) by (repeat' apply And.intro) <;> first | assumption | omega)⟩
      · have h3 : ¬ (y7_1 < 36) := h3
        show w_W _ _ _ (13, [(0, .ref 3), (1, .int (Int32.ofInt (y7_1)))], [], M_7) _
        refine w_adv (n := 1) (F' := (14, [(0, .ref 3), (1, .int (Int32.ofInt (y7_1)))], [.ref 3], M_7)) rfl ?_
        refine w_gf (v := .ref 10) hR_7 rfl rfl rfl rfl ?_
        refine w_adv (n := 1) (F' := (18, [(0, .ref 3), (1, .int (Int32.ofInt (y7_1)))], [.ref 3, .ref 10], M_7)) rfl ?_
        refine w_gf (v := .ref 8) hR_7 rfl rfl rfl rfl ?_
        refine w_adv (n := 1) (F' := (22, [(0, .ref 3), (1, .int (Int32.ofInt (y7_1)))], [.int (Int32.ofInt (y7_1)), .ref 8, .ref 10], M_7)) rfl ?_
        refine w_call (cm := 21) (as := [(0, .ref 8), (1, .int (Int32.ofInt (y7_1)))]) (rest := [.ref 10]) (o := none) rfl (trivial) (c_at (y7_1) 8 420 rfl (by decide) hR_7 ⟨by omega, by omega⟩) (fun r10 M11 q12 => ?_)
        rcases q12 with ⟨v13, e14, ⟨r15, r16⟩, e17, f18⟩
        rw [e14, e17]
        replace f18 : ((0 ≤ y7_1 ∧ y7_1 < (420 : Int) ∧ v13 = (A 8) (y7_1)) ∨ (¬ (0 ≤ y7_1 ∧ y7_1 < (420 : Int)) ∧ v13 = -1)) := f18
        show w_W _ _ _ (25, [(0, .ref 3), (1, .int (Int32.ofInt (y7_1)))], [.int (Int32.ofInt (v13)), .ref 10], M_7) _
        refine w_adv (n := 1) (F' := (26, [(0, .ref 3), (1, .int (Int32.ofInt (y7_1)))], [.ref 3, .int (Int32.ofInt (v13)), .ref 10], M_7)) rfl ?_
        refine w_gf (v := .ref 9) hR_7 rfl rfl rfl rfl ?_
        refine w_adv (n := 1) (F' := (30, [(0, .ref 3), (1, .int (Int32.ofInt (y7_1)))], [.int (Int32.ofInt (y7_1)), .ref 9, .int (Int32.ofInt (v13)), .ref 10], M_7)) rfl ?_
        refine w_call (cm := 21) (as := [(0, .ref 9), (1, .int (Int32.ofInt (y7_1)))]) (rest := [.int (Int32.ofInt (v13)), .ref 10]) (o := none) rfl (trivial) (c_at (y7_1) 9 420 rfl (by decide) hR_7 ⟨by omega, by omega⟩) (fun r19 M20 q21 => ?_)
        rcases q21 with ⟨v22, e23, ⟨r24, r25⟩, e26, f27⟩
        rw [e23, e26]
        replace f27 : ((0 ≤ y7_1 ∧ y7_1 < (420 : Int) ∧ v22 = (A 9) (y7_1)) ∨ (¬ (0 ≤ y7_1 ∧ y7_1 < (420 : Int)) ∧ v22 = -1)) := f27
        show w_W _ _ _ (33, [(0, .ref 3), (1, .int (Int32.ofInt (y7_1)))], [.int (Int32.ofInt (v22)), .int (Int32.ofInt (v13)), .ref 10], M_7) _
        refine w_call (cm := 25) (as := [(0, .ref 10), (1, .int (Int32.ofInt (v13))), (2, .int (Int32.ofInt (v22)))]) (rest := []) (o := none) rfl (trivial) (c_set (v13) (v22) 10 256 rfl (by decide) hR_7 ⟨by omega, by omega⟩ ⟨by omega, by omega⟩) (fun r28 M29 q30 => ?_)
        rcases q30 with ⟨e31, hR30a⟩
        rw [e31]
        replace hR30a : w_Rep w_TC fr X u l I (w_upF (w_upF A 10 ga7_10) 10 (w_upG 256 ga7_10 (v13) (v22))) B C M29 := hR30a
        show w_W _ _ _ (36, [(0, .ref 3), (1, .int (Int32.ofInt (y7_1)))], [], M29) _
        refine w_inc (nL := 2) (a := y7_1) rfl rfl rfl (by decide) ?_
        refine w_adv (n := 1) (F' := (7, [(1, .int (Int32.ofInt (y7_1 + (-1)))), (0, .ref 3)], [], M29)) rfl ?_
        refine w_ls (ls := [(0, .ref 3), (1, .int (Int32.ofInt (y7_1 + (-1))))]) (show List.Nodup [0, 1] by decide) (show List.Nodup [1, 0] by decide) (List.forall_mem_cons.mpr ⟨(List.Mem.tail _ (List.Mem.head _)), (List.forall_mem_cons.mpr ⟨(List.Mem.head _), (fun _ h => by cases h)⟩)⟩) ?_
        exact ih7  (y7_1 + (-1)) ((w_upG 256 ga7_10 (v13) (v22))) M29 (w_Rep.up hR30a (show I = I from rfl) (show (w_upF A 10 (w_upG 256 ga7_10 (v13) (v22))) = (w_upF (w_upF A 10 ga7_10) 10 (w_upG 256 ga7_10 (v13) (v22))) from (funext fun s => if e0 : s = 10 then (by subst e0; rfl) else (by simp only [w_upF_ne e0])))) ⟨by omega, by omega⟩ (show 35 ≤ (y7_1 + (-1)) ∧ (y7_1 + (-1)) ≤ 418 by omega) (show (y7_1 + (-1)) - 35 < (fu7 : Int) by omega)
  refine w_ls (ls := [(0, .ref 3), (1, .int (Int32.ofInt ((I 200) - 1)))]) (show List.Nodup [0, 1] by decide) (show List.Nodup [1, 0] by decide) (List.forall_mem_cons.mpr ⟨(List.Mem.tail _ (List.Mem.head _)), (List.forall_mem_cons.mpr ⟨(List.Mem.head _), (fun _ h => by cases h)⟩)⟩) ?_
  exact lp7 ((((I 200) - 1) - 35 : Int).toNat + 1)  ((I 200) - 1) ((A 10)) M (w_Rep.up hR (show I = I from rfl) (show (w_upF A 10 (A 10)) = A from (funext fun s => if e0 : s = 10 then (by subst e0; rfl) else (by simp only [w_upF_ne e0])))) ⟨by omega, by omega⟩ (show 35 ≤ ((I 200) - 1) ∧ ((I 200) - 1) ≤ 418 by omega) (show ((I 200) - 1) - 35 < (((((I 200) - 1) - 35 : Int).toNat + 1 : Nat) : Int) by omega)
def c_byteOf_Q (fr : Nat → Bool) (X : Nat → Option (q_C (Nat → Int32))) (u l : Nat) (I : Nat → Int) (A : Nat → Int → Int) (B C : Nat → Nat) (M : w_M) (n : Int) (k : Int) : w_X → w_M → Prop := fun r M' => (∃ v : Int, (r = .inl (some v)) ∧ (w_in v) ∧ (M' = M))
set_option maxHeartbeats 100000000 in
set_option maxRecDepth 100000 in
theorem c_byteOf {L : Nat} {xs : Nat → Int32} {d : Nat} {fr : Nat → Bool} {X : Nat → Option (q_C (Nat → Int32))} {u l : Nat} {I : Nat → Int} {A : Nat → Int → Int} {B C : Nat → Nat} {M : w_M} (n : Int) (k : Int) (hR : w_Rep w_TC fr X u l I A B C M) (r_n : w_in n) (r_k : w_in k) (hNM : 36 ≤ (I 200) ∧ (I 200) ≤ 419 ∧ 0 ≤ (I 202) ∧ (I 202) ≤ 24) (hLN : ∀ i, (A 5) i ≤ 24) : w_W (z_P L xs) d 168 (0, [(0, .ref 3), (1, .int (Int32.ofInt (n))), (2, .int (Int32.ofInt (k)))], [], M) (c_byteOf_Q fr X u l I A B C M n k) := by
  obtain ⟨ra_n, rb_n⟩ := r_n
  obtain ⟨ra_k, rb_k⟩ := r_k
  have hln := hLN n
  refine w_adv (n := 1) (F' := (1, [(0, .ref 3), (1, .int (Int32.ofInt (n))), (2, .int (Int32.ofInt (k)))], [.int (Int32.ofInt (n))], M)) rfl ?_
  refine w_br1 (a := n) rfl rfl ⟨by omega, by omega⟩ (fun h1 => ?_) (fun h1 => ?_)
  · have h1 : n < 0 := h1
    show w_W _ _ _ (33, [(0, .ref 3), (1, .int (Int32.ofInt (n))), (2, .int (Int32.ofInt (k)))], [], M) _
    refine w_adv (n := 1) (F' := (34, [(0, .ref 3), (1, .int (Int32.ofInt (n))), (2, .int (Int32.ofInt (k)))], [.int (Int32.ofInt ((-1)))], M)) rfl ?_
    refine w_fin (r := .inl (some ((-1)))) (M' := M) rfl ?_
    exact ⟨(-1), rfl, ⟨by omega, by omega⟩, rfl⟩
  · have h1 : ¬ (n < 0) := h1
    show w_W _ _ _ (4, [(0, .ref 3), (1, .int (Int32.ofInt (n))), (2, .int (Int32.ofInt (k)))], [], M) _
    refine w_adv (n := 2) (F' := (6, [(0, .ref 3), (1, .int (Int32.ofInt (n))), (2, .int (Int32.ofInt (k)))], [.ref 3, .int (Int32.ofInt (n))], M)) rfl ?_
    refine w_gf (v := .int (Int32.ofInt ((I 200)))) hR rfl rfl rfl rfl ?_
    obtain ⟨r2, r3⟩ : -2147483648 ≤ (I 200) ∧ (I 200) ≤ 2147483647 := hR.ri 200
    refine w_br2 (a := n) (b := (I 200)) rfl rfl ⟨by omega, by omega⟩ ⟨by omega, by omega⟩ (fun h4 => ?_) (fun h4 => ?_)
    · have h4 : n ≥ (I 200) := h4
      show w_W _ _ _ (33, [(0, .ref 3), (1, .int (Int32.ofInt (n))), (2, .int (Int32.ofInt (k)))], [], M) _
      refine w_adv (n := 1) (F' := (34, [(0, .ref 3), (1, .int (Int32.ofInt (n))), (2, .int (Int32.ofInt (k)))], [.int (Int32.ofInt ((-1)))], M)) rfl ?_
      refine w_fin (r := .inl (some ((-1)))) (M' := M) rfl ?_
      exact ⟨(-1), rfl, ⟨by omega, by omega⟩, rfl⟩
    · have h4 : ¬ (n ≥ (I 200)) := h4
      show w_W _ _ _ (12, [(0, .ref 3), (1, .int (Int32.ofInt (n))), (2, .int (Int32.ofInt (k)))], [], M) _
      refine w_adv (n := 2) (F' := (16, [(0, .ref 3), (1, .int (Int32.ofInt (n))), (2, .int (Int32.ofInt (k)))], [.int (Int32.ofInt (420)), .int (Int32.ofInt (n))], M)) rfl ?_
      refine w_br2 (a := n) (b := 420) rfl rfl ⟨by omega, by omega⟩ ⟨by omega, by omega⟩ (fun h5 => ?_) (fun h5 => ?_)
      · have h5 : n ≥ 420 := h5
        show w_W _ _ _ (33, [(0, .ref 3), (1, .int (Int32.ofInt (n))), (2, .int (Int32.ofInt (k)))], [], M) _
        refine w_adv (n := 1) (F' := (34, [(0, .ref 3), (1, .int (Int32.ofInt (n))), (2, .int (Int32.ofInt (k)))], [.int (Int32.ofInt ((-1)))], M)) rfl ?_
        refine w_fin (r := .inl (some ((-1)))) (M' := M) rfl ?_
        exact ⟨(-1), rfl, ⟨by omega, by omega⟩, rfl⟩
      · have h5 : ¬ (n ≥ 420) := h5
        show w_W _ _ _ (19, [(0, .ref 3), (1, .int (Int32.ofInt (n))), (2, .int (Int32.ofInt (k)))], [], M) _
        refine w_adv (n := 1) (F' := (20, [(0, .ref 3), (1, .int (Int32.ofInt (n))), (2, .int (Int32.ofInt (k)))], [.int (Int32.ofInt (k))], M)) rfl ?_
        refine w_br1 (a := k) rfl rfl ⟨by omega, by omega⟩ (fun h6 => ?_) (fun h6 => ?_)
        · have h6 : k < 0 := h6
          show w_W _ _ _ (33, [(0, .ref 3), (1, .int (Int32.ofInt (n))), (2, .int (Int32.ofInt (k)))], [], M) _
          refine w_adv (n := 1) (F' := (34, [(0, .ref 3), (1, .int (Int32.ofInt (n))), (2, .int (Int32.ofInt (k)))], [.int (Int32.ofInt ((-1)))], M)) rfl ?_
          refine w_fin (r := .inl (some ((-1)))) (M' := M) rfl ?_
          exact ⟨(-1), rfl, ⟨by omega, by omega⟩, rfl⟩
        · have h6 : ¬ (k < 0) := h6
          show w_W _ _ _ (23, [(0, .ref 3), (1, .int (Int32.ofInt (n))), (2, .int (Int32.ofInt (k)))], [], M) _
          refine w_adv (n := 2) (F' := (25, [(0, .ref 3), (1, .int (Int32.ofInt (n))), (2, .int (Int32.ofInt (k)))], [.ref 3, .int (Int32.ofInt (k))], M)) rfl ?_
          refine w_gf (v := .ref 5) hR rfl rfl rfl rfl ?_
          refine w_adv (n := 1) (F' := (29, [(0, .ref 3), (1, .int (Int32.ofInt (n))), (2, .int (Int32.ofInt (k)))], [.int (Int32.ofInt (n)), .ref 5, .int (Int32.ofInt (k))], M)) rfl ?_
          refine w_la (n := 420) hR rfl (Or.inl ⟨rfl, rfl⟩) rfl (show 0 ≤ n by omega) (show n < (420 : Int) by omega) (by decide) ?_
          obtain ⟨r7, r8⟩ : -2147483648 ≤ (A 5) (n) ∧ (A 5) (n) ≤ 2147483647 := hR.ra 5 (n)
          show w_W _ _ _ (30, [(0, .ref 3), (1, .int (Int32.ofInt (n))), (2, .int (Int32.ofInt (k)))], [.int (Int32.ofInt ((A 5) (n))), .int (Int32.ofInt (k))], M) _
          refine w_br2 (a := k) (b := (A 5) (n)) rfl rfl ⟨by omega, by omega⟩ ⟨by omega, by omega⟩ (fun h9 => ?_) (fun h9 => ?_)
          · have h9 : k < (A 5) (n) := h9
            show w_W _ _ _ (35, [(0, .ref 3), (1, .int (Int32.ofInt (n))), (2, .int (Int32.ofInt (k)))], [], M) _
            refine w_adv (n := 2) (F' := (38, [(0, .ref 3), (1, .int (Int32.ofInt (n))), (2, .int (Int32.ofInt (k)))], [.int (Int32.ofInt (24)), .int (Int32.ofInt (n))], M)) rfl ?_
            refine w_mul rfl ?_
            refine w_adv (n := 1) (F' := (40, [(0, .ref 3), (1, .int (Int32.ofInt (n))), (2, .int (Int32.ofInt (k)))], [.int (Int32.ofInt (k)), .int (Int32.ofInt (n * 24))], M)) rfl ?_
            refine w_add rfl ?_
            refine w_adv (n := 3) (F' := (44, [(3, .int (Int32.ofInt ((n * 24) + k))), (0, .ref 3), (1, .int (Int32.ofInt (n))), (2, .int (Int32.ofInt (k)))], [.ref 3, .int (Int32.ofInt ((n * 24) + k))], M)) rfl ?_
            refine w_gf (v := .ref 4) hR rfl rfl rfl rfl ?_
            refine w_lena (n := 10080) hR rfl rfl rfl ?_
            show w_W _ _ _ (48, [(3, .int (Int32.ofInt ((n * 24) + k))), (0, .ref 3), (1, .int (Int32.ofInt (n))), (2, .int (Int32.ofInt (k)))], [.int (Int32.ofInt (10080)), .int (Int32.ofInt ((n * 24) + k))], M) _
            refine w_br2 (a := (n * 24) + k) (b := 10080) rfl rfl ⟨by omega, by omega⟩ ⟨by omega, by omega⟩ (fun h10 => ?_) (fun h10 => ?_)
            · have h10 : (n * 24) + k ≥ 10080 := h10
              show w_W _ _ _ (64, [(3, .int (Int32.ofInt ((n * 24) + k))), (0, .ref 3), (1, .int (Int32.ofInt (n))), (2, .int (Int32.ofInt (k)))], [], M) _
              refine w_adv (n := 1) (F' := (65, [(3, .int (Int32.ofInt ((n * 24) + k))), (0, .ref 3), (1, .int (Int32.ofInt (n))), (2, .int (Int32.ofInt (k)))], [.int (Int32.ofInt ((-1)))], M)) rfl ?_
              refine w_fin (r := .inl (some ((-1)))) (M' := M) rfl ?_
              exact ⟨(-1), rfl, ⟨by omega, by omega⟩, rfl⟩
            · have h10 : ¬ ((n * 24) + k ≥ 10080) := h10
              show w_W _ _ _ (51, [(3, .int (Int32.ofInt ((n * 24) + k))), (0, .ref 3), (1, .int (Int32.ofInt (n))), (2, .int (Int32.ofInt (k)))], [], M) _
              refine w_adv (n := 1) (F' := (52, [(3, .int (Int32.ofInt ((n * 24) + k))), (0, .ref 3), (1, .int (Int32.ofInt (n))), (2, .int (Int32.ofInt (k)))], [.ref 3], M)) rfl ?_
              refine w_gf (v := .ref 4) hR rfl rfl rfl rfl ?_
              refine w_adv (n := 1) (F' := (56, [(3, .int (Int32.ofInt ((n * 24) + k))), (0, .ref 3), (1, .int (Int32.ofInt (n))), (2, .int (Int32.ofInt (k)))], [.int (Int32.ofInt ((n * 24) + k)), .ref 4], M)) rfl ?_
              refine w_la (n := 10080) hR rfl (Or.inr ⟨rfl, rfl⟩) rfl (show 0 ≤ (n * 24) + k by omega) (show (n * 24) + k < (10080 : Int) by omega) (by decide) ?_
              obtain ⟨r11, r12⟩ : -2147483648 ≤ (A 4) ((n * 24) + k) ∧ (A 4) ((n * 24) + k) ≤ 2147483647 := hR.ra 4 ((n * 24) + k)
              show w_W _ _ _ (57, [(3, .int (Int32.ofInt ((n * 24) + k))), (0, .ref 3), (1, .int (Int32.ofInt (n))), (2, .int (Int32.ofInt (k)))], [.int (Int32.ofInt ((A 4) ((n * 24) + k)))], M) _
              refine w_adv (n := 2) (F' := (61, [(3, .int (Int32.ofInt ((n * 24) + k))), (0, .ref 3), (1, .int (Int32.ofInt (n))), (2, .int (Int32.ofInt (k)))], [.int ((Int32.ofInt ((A 4) ((n * 24) + k))) &&& (Int32.ofInt (255)))], M)) rfl ?_
              refine w_int (fun x13 r14 e15 => ?_)
              obtain ⟨r14a, r14b⟩ := r14
              refine w_adv (n := 1) (F' := (65, [(3, .int (Int32.ofInt ((n * 24) + k))), (0, .ref 3), (1, .int (Int32.ofInt (n))), (2, .int (Int32.ofInt (k)))], [.int (Int32.ofInt (x13))], M)) rfl ?_
              refine w_fin (r := .inl (some (x13))) (M' := M) rfl ?_
              exact ⟨x13, rfl, ⟨by omega, by omega⟩, rfl⟩
          · have h9 : ¬ (k < (A 5) (n)) := h9
            show w_W _ _ _ (33, [(0, .ref 3), (1, .int (Int32.ofInt (n))), (2, .int (Int32.ofInt (k)))], [], M) _
            refine w_adv (n := 1) (F' := (34, [(0, .ref 3), (1, .int (Int32.ofInt (n))), (2, .int (Int32.ofInt (k)))], [.int (Int32.ofInt ((-1)))], M)) rfl ?_
            refine w_fin (r := .inl (some ((-1)))) (M' := M) rfl ?_
            exact ⟨(-1), rfl, ⟨by omega, by omega⟩, rfl⟩
def c_compareAtoms_Q (fr : Nat → Bool) (X : Nat → Option (q_C (Nat → Int32))) (u l : Nat) (I : Nat → Int) (A : Nat → Int → Int) (B C : Nat → Nat) (M : w_M) (t : Int) (w : Int) : w_X → w_M → Prop := fun r M' => (∃ v : Int, (r = .inl (some v)) ∧ (w_in v) ∧ (M' = M))
set_option maxHeartbeats 100000000 in
set_option maxRecDepth 100000 in
theorem c_compareAtoms {L : Nat} {xs : Nat → Int32} {d : Nat} {fr : Nat → Bool} {X : Nat → Option (q_C (Nat → Int32))} {u l : Nat} {I : Nat → Int} {A : Nat → Int → Int} {B C : Nat → Nat} {M : w_M} (t : Int) (w : Int) (hR : w_Rep w_TC fr X u l I A B C M) (hd : 2 ≤ d) (r_t : w_in t) (r_w : w_in w) (hNM : 36 ≤ (I 200) ∧ (I 200) ≤ 419 ∧ 0 ≤ (I 202) ∧ (I 202) ≤ 24) (hLN : ∀ i, (A 5) i ≤ 24) : w_W (z_P L xs) d 167 (0, [(0, .ref 3), (1, .int (Int32.ofInt (t))), (2, .int (Int32.ofInt (w)))], [], M) (c_compareAtoms_Q fr X u l I A B C M t w) := by
  obtain ⟨ra_t, rb_t⟩ := r_t
  obtain ⟨ra_w, rb_w⟩ := r_w
  obtain ⟨d, rfl⟩ : ∃ d0, d = d0 + 1 := ⟨d - 1, by omega⟩
  refine w_adv (n := 2) (F' := (2, [(0, .ref 3), (1, .int (Int32.ofInt (t))), (2, .int (Int32.ofInt (w)))], [.int (Int32.ofInt (t)), .ref 3], M)) rfl ?_
  refine w_call (cm := 96) (as := [(0, .ref 3), (1, .int (Int32.ofInt (t)))]) (rest := []) (o := some (3, 3)) rfl (w_fitR hR rfl) (c_entryOfAtom (t) hR (show 1 ≤ d by omega) ⟨by omega, by omega⟩) (fun r1 M2 q3 => ?_)
  rcases q3 with ⟨v4, e5, ⟨r6, r7⟩, e8⟩
  rw [e5, e8]
  show w_W _ _ _ (5, [(0, .ref 3), (1, .int (Int32.ofInt (t))), (2, .int (Int32.ofInt (w)))], [.int (Int32.ofInt (v4))], M) _
  refine w_adv (n := 3) (F' := (8, [(3, .int (Int32.ofInt (v4))), (0, .ref 3), (1, .int (Int32.ofInt (t))), (2, .int (Int32.ofInt (w)))], [.int (Int32.ofInt (w)), .ref 3], M)) rfl ?_
  refine w_call (cm := 96) (as := [(0, .ref 3), (1, .int (Int32.ofInt (w)))]) (rest := []) (o := some (3, 3)) rfl (w_fitR hR rfl) (c_entryOfAtom (w) hR (show 1 ≤ d by omega) ⟨by omega, by omega⟩) (fun r9 M10 q11 => ?_)
  rcases q11 with ⟨v12, e13, ⟨r14, r15⟩, e16⟩
  rw [e13, e16]
  show w_W _ _ _ (11, [(3, .int (Int32.ofInt (v4))), (0, .ref 3), (1, .int (Int32.ofInt (t))), (2, .int (Int32.ofInt (w)))], [.int (Int32.ofInt (v12))], M) _
  refine w_adv (n := 3) (F' := (16, [(5, .int (Int32.ofInt (0))), (4, .int (Int32.ofInt (v12))), (3, .int (Int32.ofInt (v4))), (0, .ref 3), (1, .int (Int32.ofInt (t))), (2, .int (Int32.ofInt (w)))], [], M)) rfl ?_
  have lp16 : ∀ fu16 : Nat, ∀ (y16_5 : Int), w_in y16_5 → 0 ≤ y16_5 ∧ y16_5 ≤ 24 → 24 - y16_5 < (fu16 : Int) → w_W (z_P L xs) (d + 1) 167 (16, [(0, .ref 3), (1, .int (Int32.ofInt (t))), (2, .int (Int32.ofInt (w))), (3, .int (Int32.ofInt (v4))), (4, .int (Int32.ofInt (v12))), (5, .int (Int32.ofInt (y16_5)))], [], M) (c_compareAtoms_Q fr X u l I A B C M t w) := by
    intro fu16
    induction fu16 with
    | zero =>
      intro y16_5 ⟨ra_y16_5, rb_y16_5⟩ hi16_0 hn16
      exfalso
      omega
    | succ fu16 ih16 =>
      intro y16_5 ⟨ra_y16_5, rb_y16_5⟩ hi16_0 hn16
      refine w_adv (n := 2) (F' := (20, [(0, .ref 3), (1, .int (Int32.ofInt (t))), (2, .int (Int32.ofInt (w))), (3, .int (Int32.ofInt (v4))), (4, .int (Int32.ofInt (v12))), (5, .int (Int32.ofInt (y16_5)))], [.int (Int32.ofInt (24)), .int (Int32.ofInt (y16_5))], M)) rfl ?_
      refine w_br2 (a := y16_5) (b := 24) rfl rfl ⟨by omega, by omega⟩ ⟨by omega, by omega⟩ (fun h17 => ?_) (fun h17 => ?_)
      · have h17 : y16_5 ≥ 24 := h17
        show w_W _ _ _ (55, [(0, .ref 3), (1, .int (Int32.ofInt (t))), (2, .int (Int32.ofInt (w))), (3, .int (Int32.ofInt (v4))), (4, .int (Int32.ofInt (v12))), (5, .int (Int32.ofInt (y16_5)))], [], M) _
        refine w_adv (n := 1) (F' := (56, [(0, .ref 3), (1, .int (Int32.ofInt (t))), (2, .int (Int32.ofInt (w))), (3, .int (Int32.ofInt (v4))), (4, .int (Int32.ofInt (v12))), (5, .int (Int32.ofInt (y16_5)))], [.int (Int32.ofInt (0))], M)) rfl ?_
        refine w_fin (r := .inl (some (0))) (M' := M) rfl ?_
        exact ⟨0, rfl, ⟨by omega, by omega⟩, rfl⟩
      · have h17 : ¬ (y16_5 ≥ 24) := h17
        show w_W _ _ _ (23, [(0, .ref 3), (1, .int (Int32.ofInt (t))), (2, .int (Int32.ofInt (w))), (3, .int (Int32.ofInt (v4))), (4, .int (Int32.ofInt (v12))), (5, .int (Int32.ofInt (y16_5)))], [], M) _
        refine w_adv (n := 3) (F' := (27, [(0, .ref 3), (1, .int (Int32.ofInt (t))), (2, .int (Int32.ofInt (w))), (3, .int (Int32.ofInt (v4))), (4, .int (Int32.ofInt (v12))), (5, .int (Int32.ofInt (y16_5)))], [.int (Int32.ofInt (y16_5)), .int (Int32.ofInt (v4)), .ref 3], M)) rfl ?_
        refine w_call (cm := 168) (as := [(0, .ref 3), (1, .int (Int32.ofInt (v4))), (2, .int (Int32.ofInt (y16_5)))]) (rest := []) (o := some (3, 3)) rfl (w_fitR hR rfl) (c_byteOf (v4) (y16_5) hR ⟨by omega, by omega⟩ ⟨by omega, by omega⟩ (show 36 ≤ (I 200) ∧ (I 200) ≤ 419 ∧ 0 ≤ (I 202) ∧ (I 202) ≤ 24 by (repeat' apply And.intro) <;> first | assumption | omega) (show ∀ i, (A 5) i ≤ 24 by exact hLN)) (fun r18 M19 q20 => ?_)
        rcases q20 with ⟨v21, e22, ⟨r23, r24⟩, e25⟩
        rw [e22, e25]
        show w_W _ _ _ (30, [(0, .ref 3), (1, .int (Int32.ofInt (t))), (2, .int (Int32.ofInt (w))), (3, .int (Int32.ofInt (v4))), (4, .int (Int32.ofInt (v12))), (5, .int (Int32.ofInt (y16_5)))], [.int (Int32.ofInt (v21))], M) _
        refine w_adv (n := 3) (F' := (35, [(0, .ref 3), (1, .int (Int32.ofInt (t))), (2, .int (Int32.ofInt (w))), (3, .int (Int32.ofInt (v4))), (4, .int (Int32.ofInt (v12))), (5, .int (Int32.ofInt (y16_5)))], [.int (Int32.ofInt (y16_5)), .int (Int32.ofInt (v12)), .ref 3, .int (Int32.ofInt (v21))], M)) rfl ?_
        refine w_call (cm := 168) (as := [(0, .ref 3), (1, .int (Int32.ofInt (v12))), (2, .int (Int32.ofInt (y16_5)))]) (rest := [.int (Int32.ofInt (v21))]) (o := some (3, 3)) rfl (w_fitR hR rfl) (c_byteOf (v12) (y16_5) hR ⟨by omega, by omega⟩ ⟨by omega, by omega⟩ (show 36 ≤ (I 200) ∧ (I 200) ≤ 419 ∧ 0 ≤ (I 202) ∧ (I 202) ≤ 24 by (repeat' apply And.intro) <;> first | assumption | omega) (show ∀ i, (A 5) i ≤ 24 by exact hLN)) (fun r26 M27 q28 => ?_)
        rcases q28 with ⟨v29, e30, ⟨r31, r32⟩, e33⟩
        rw [e30, e33]
        show w_W _ _ _ (38, [(0, .ref 3), (1, .int (Int32.ofInt (t))), (2, .int (Int32.ofInt (w))), (3, .int (Int32.ofInt (v4))), (4, .int (Int32.ofInt (v12))), (5, .int (Int32.ofInt (y16_5)))], [.int (Int32.ofInt (v29)), .int (Int32.ofInt (v21))], M) _
        refine w_sub rfl ?_
        refine w_int (fun x34 r35 e36 => ?_)
        obtain ⟨r35a, r35b⟩ := r35
        clear e36
        refine w_adv (n := 2) (F' := (43, [(6, .int (Int32.ofInt (x34))), (0, .ref 3), (1, .int (Int32.ofInt (t))), (2, .int (Int32.ofInt (w))), (3, .int (Int32.ofInt (v4))), (4, .int (Int32.ofInt (v12))), (5, .int (Int32.ofInt (y16_5)))], [.int (Int32.ofInt (x34))], M)) rfl ?_
        refine w_br1 (a := x34) rfl rfl ⟨by omega, by omega⟩ (fun h37 => ?_) (fun h37 => ?_)
        · have h37 : x34 = 0 := h37
          show w_W _ _ _ (49, [(6, .int (Int32.ofInt (x34))), (0, .ref 3), (1, .int (Int32.ofInt (t))), (2, .int (Int32.ofInt (w))), (3, .int (Int32.ofInt (v4))), (4, .int (Int32.ofInt (v12))), (5, .int (Int32.ofInt (y16_5)))], [], M) _
          refine w_inc (nL := 7) (a := y16_5) rfl rfl rfl (by decide) ?_
          refine w_adv (n := 1) (F' := (16, [(5, .int (Int32.ofInt (y16_5 + 1))), (6, .int (Int32.ofInt (x34))), (0, .ref 3), (1, .int (Int32.ofInt (t))), (2, .int (Int32.ofInt (w))), (3, .int (Int32.ofInt (v4))), (4, .int (Int32.ofInt (v12)))], [], M)) rfl ?_
          refine w_ls (ls := [(0, .ref 3), (1, .int (Int32.ofInt (t))), (2, .int (Int32.ofInt (w))), (3, .int (Int32.ofInt (v4))), (4, .int (Int32.ofInt (v12))), (5, .int (Int32.ofInt (y16_5 + 1)))]) (show List.Nodup [0, 1, 2, 3, 4, 5] by decide) (show List.Nodup [5, 6, 0, 1, 2, 3, 4] by decide) (List.forall_mem_cons.mpr ⟨(List.Mem.tail _ (List.Mem.tail _ (List.Mem.head _))), (List.forall_mem_cons.mpr ⟨(List.Mem.tail _ (List.Mem.tail _ (List.Mem.tail _ (List.Mem.head _)))), (List.forall_mem_cons.mpr ⟨(List.Mem.tail _ (List.Mem.tail _ (List.Mem.tail _ (List.Mem.tail _ (List.Mem.head _))))), (List.forall_mem_cons.mpr ⟨(List.Mem.tail _ (List.Mem.tail _ (List.Mem.tail _ (List.Mem.tail _ (List.Mem.tail _ (List.Mem.head _)))))), (List.forall_mem_cons.mpr ⟨(List.Mem.tail _ (List.Mem.tail _ (List.Mem.tail _ (List.Mem.tail _ (List.Mem.tail _ (List.Mem.tail _ (List.Mem.head _))))))), (List.forall_mem_cons.mpr ⟨(List.Mem.head _), (fun _ h => by cases h)⟩)⟩)⟩)⟩)⟩)⟩) ?_
          exact ih16  (y16_5 + 1) ⟨by omega, by omega⟩ (show 0 ≤ (y16_5 + 1) ∧ (y16_5 + 1) ≤ 24 by omega) (show 24 - (y16_5 + 1) < (fu16 : Int) by omega)
        · have h37 : ¬ (x34 = 0) := h37
          show w_W _ _ _ (46, [(6, .int (Int32.ofInt (x34))), (0, .ref 3), (1, .int (Int32.ofInt (t))), (2, .int (Int32.ofInt (w))), (3, .int (Int32.ofInt (v4))), (4, .int (Int32.ofInt (v12))), (5, .int (Int32.ofInt (y16_5)))], [], M) _
          refine w_adv (n := 1) (F' := (48, [(6, .int (Int32.ofInt (x34))), (0, .ref 3), (1, .int (Int32.ofInt (t))), (2, .int (Int32.ofInt (w))), (3, .int (Int32.ofInt (v4))), (4, .int (Int32.ofInt (v12))), (5, .int (Int32.ofInt (y16_5)))], [.int (Int32.ofInt (x34))], M)) rfl ?_
          refine w_fin (r := .inl (some (x34))) (M' := M) rfl ?_
          exact ⟨x34, rfl, ⟨by omega, by omega⟩, rfl⟩
  refine w_ls (ls := [(0, .ref 3), (1, .int (Int32.ofInt (t))), (2, .int (Int32.ofInt (w))), (3, .int (Int32.ofInt (v4))), (4, .int (Int32.ofInt (v12))), (5, .int (Int32.ofInt (0)))]) (show List.Nodup [0, 1, 2, 3, 4, 5] by decide) (show List.Nodup [5, 4, 3, 0, 1, 2] by decide) (List.forall_mem_cons.mpr ⟨(List.Mem.tail _ (List.Mem.tail _ (List.Mem.tail _ (List.Mem.head _)))), (List.forall_mem_cons.mpr ⟨(List.Mem.tail _ (List.Mem.tail _ (List.Mem.tail _ (List.Mem.tail _ (List.Mem.head _))))), (List.forall_mem_cons.mpr ⟨(List.Mem.tail _ (List.Mem.tail _ (List.Mem.tail _ (List.Mem.tail _ (List.Mem.tail _ (List.Mem.head _)))))), (List.forall_mem_cons.mpr ⟨(List.Mem.tail _ (List.Mem.tail _ (List.Mem.head _))), (List.forall_mem_cons.mpr ⟨(List.Mem.tail _ (List.Mem.head _)), (List.forall_mem_cons.mpr ⟨(List.Mem.head _), (fun _ h => by cases h)⟩)⟩)⟩)⟩)⟩)⟩) ?_
  exact lp16 ((24 - 0 : Int).toNat + 1)  (0) ⟨by omega, by omega⟩ (show 0 ≤ (0 : Int) ∧ (0 : Int) ≤ 24 by omega) (show 24 - 0 < (((24 - 0 : Int).toNat + 1 : Nat) : Int) by omega)
