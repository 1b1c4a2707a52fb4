/-! BUILDER of the class: operations, the loop. -/
theorem c_Stq_fr {A A' : Nat → Int → Int} {i : Nat} {P Q base w t : Int} (h : c_Stq A i P Q base w t) (ek : c_ke A A') (hf : c_fb A A' 0 0) {w' : Int} (hw : c_wk A A' w') (hm : w ≤ w') : c_Stq A' i P Q base w t := by
  obtain ⟨k, x, y, c, h2, h3, h4⟩ := h
  exact ⟨k, x, y, c, c_Stk_fr2 h2 ek hf hw (by omega) (Or.inl (Int.le_refl _)), h3, h4⟩
def cb_operations_Q (fr : Nat → Bool) (X : Nat → Option (q_C (Nat → Int32))) (u l : Nat) (I : Nat → Int) (A : Nat → Int → Int) (B C : Nat → Nat) (M : w_M) (n : Int) (x : Int) (i : Nat) (p q : Int) : w_X → w_M → Prop := fun r M' => (∃ (I' : Nat → Int) (A' : Nat → Int → Int) (B' C' : Nat → Nat), (r = .inl none) ∧ (w_Rep w_TC fr X u l I' A' B' C' M') ∧ (c_bz I A I' A' p q (I 2503)) ∧ ((I' 2503) = (I 2503) ∧ (0 ≤ (I' 1035) ∧ (I' 1035) ≤ 10000) ∧ (I' 200) = (I 200) ∧ (I' 202) = (I 202)))
set_option maxHeartbeats 100000000 in
set_option maxRecDepth 100000 in
theorem cb_operations {L : Nat} {xs : Nat → Int32} {d : Nat} {fr : Nat → Bool} {X : Nat → Option (q_C (Nat → Int32))} {u l : Nat} {I : Nat → Int} {A : Nat → Int → Int} {B C : Nat → Nat} {M : w_M} (hB0 : c_BALL L xs d) (n : Int) (x : Int) (i : Nat) (p q : Int) (hR : w_Rep w_TC fr X u l I A B C M) (hd : 8 * i + 3 ≤ d) (r_n : w_in n) (r_x : w_in x) (hKI : 0 ≤ (I 1035) ∧ (I 1035) ≤ 10000) (hKS : c_ks A) (hNM : 36 ≤ (I 200) ∧ (I 200) ≤ 419 ∧ 0 ≤ (I 202) ∧ (I 202) ≤ 24) (hLN : ∀ i, (A 5) i ≤ 24) (hW0 : 0 ≤ (I 2503)) (hWB : (I 2503) + 7000 * (i : Int) ≤ 1000000) (hW : c_W A i n p q) (hk : (A 27) n = 8 ∨ (A 27) n = 9) (hpq : 0 ≤ p ∧ q ≤ 3001) : w_W (z_P L xs) d 170 (0, [(0, .ref 39), (1, .int (Int32.ofInt (n))), (2, .int (Int32.ofInt (x)))], [], M) (cb_operations_Q fr X u l I A B C M n x i p q) := by
  obtain ⟨ra_n, rb_n⟩ := r_n
  obtain ⟨ra_x, rb_x⟩ := r_x
  obtain ⟨d, rfl⟩ : ∃ d0, d = d0 + 1 := ⟨d - 1, by omega⟩
  obtain ⟨nb1, nb2⟩ := c_W_in hW
  obtain ⟨j, hj⟩ := c_W_succ hW
  have hW1 : c_W A (j + 1) n p q := by rw [← hj]; exact hW
  have hO : c_OpA A j n p q := hW1.2.2.k8 hk
  refine w_adv (n := 1) (F' := (1, [(0, .ref 39), (1, .int (Int32.ofInt (n))), (2, .int (Int32.ofInt (x)))], [.ref 39], M)) rfl ?_
  refine w_gf (v := .int (Int32.ofInt ((I 2503)))) hR rfl rfl rfl rfl ?_
  obtain ⟨r1, r2⟩ : -2147483648 ≤ (I 2503) ∧ (I 2503) ≤ 2147483647 := hR.ri 2503
  refine w_adv (n := 2) (F' := (6, [(3, .int (Int32.ofInt ((I 2503)))), (0, .ref 39), (1, .int (Int32.ofInt (n))), (2, .int (Int32.ofInt (x)))], [.ref 39], M)) rfl ?_
  refine w_gf (v := .ref 26) hR rfl rfl rfl rfl ?_
  refine w_adv (n := 2) (F' := (11, [(3, .int (Int32.ofInt ((I 2503)))), (0, .ref 39), (1, .int (Int32.ofInt (n))), (2, .int (Int32.ofInt (x)))], [.int (Int32.ofInt (x)), .int (Int32.ofInt (n)), .ref 26], M)) rfl ?_
  refine w_call (cm := 160) (as := [(0, .ref 26), (1, .int (Int32.ofInt (n))), (2, .int (Int32.ofInt (x)))]) (rest := []) (o := some (8, 26)) rfl (w_fitR hR rfl) (c_tsv (n) (x) hR (show 2 ≤ d by omega) ⟨by omega, by omega⟩ ⟨by omega, by omega⟩ (show 0 ≤ (I 1035) ∧ (I 1035) ≤ 10000 by (repeat' apply And.intro) <;> first | assumption | omega) (show 0 ≤ (I 2503) by omega)) (fun r3 M4 q5 => ?_)
  rcases q5 with ⟨I5a, A5a, B5a, C5a, e6, hR5a, f7, f8, f9⟩
  rw [e6]
  replace hR5a : w_Rep w_TC fr X u l I5a A5a B5a C5a M4 := hR5a
  replace f7 : c_bz I A I5a A5a 0 0 (I 2503) := f7
  replace f8 : (I5a 2503) = (I 2503) ∧ (0 ≤ (I5a 1035) ∧ (I5a 1035) ≤ 10000) ∧ (I5a 200) = (I 200) ∧ (I5a 202) = (I 202) := f8
  obtain ⟨n10, ⟨n11, n12⟩, n13, n14⟩ := id f8
  clear f8
  replace f9 : (I5a 2502) = (I 2502) := f9
  have bx15 : c_bz I A I5a A5a p q (I 2503) := c_bz_trans (show c_bz I A I A p q (I 2503) from c_bz_refl) f7 (Int.le_refl _) (Int.le_refl _) (show p ≤ 0 ∨ 0 ≤ 0 by omega) (show 0 ≤ q ∨ 0 ≤ 0 by omega) (Int.le_refl _) (show (I 2503) ≤ (I 2503) by omega)
  have k16 : c_OpA A5a j n p q := c_OpA_agr hO (c_bz_r f7 (show q ≤ 0 ∨ 0 ≤ p ∨ 0 ≤ 0 by omega))
  show w_W _ _ _ (14, [(3, .int (Int32.ofInt ((I 2503)))), (0, .ref 39), (1, .int (Int32.ofInt (n))), (2, .int (Int32.ofInt (x)))], [], M4) _
  refine w_adv (n := 2) (F' := (16, [(3, .int (Int32.ofInt ((I 2503)))), (0, .ref 39), (1, .int (Int32.ofInt (n))), (2, .int (Int32.ofInt (x)))], [.int (Int32.ofInt (n)), .ref 39], M4)) rfl ?_
  refine w_call (cm := 171) (as := [(0, .ref 39), (1, .int (Int32.ofInt (n)))]) (rest := []) (o := some (1, 39)) rfl (w_fitR hR5a rfl) (c_await (n) hR5a (show 1 ≤ d by omega) ⟨by omega, by omega⟩ (show 0 ≤ (I5a 1035) ∧ (I5a 1035) ≤ 10000 by (repeat' apply And.intro) <;> first | assumption | omega) (show 0 ≤ (I5a 2503) ∧ (I5a 2503) ≤ 2000000 by omega)) (fun r17 M18 q19 => ?_)
  rcases q19 with ⟨I19a, A19a, B19a, C19a, e20, hR19a, f21, f22, f23⟩
  rw [e20]
  replace hR19a : w_Rep w_TC fr X u l I19a A19a B19a C19a M18 := hR19a
  replace f21 : c_bz I5a A5a I19a A19a 0 0 (I5a 2503) := f21
  replace f22 : (I19a 2503) = (I5a 2503) + 1 ∧ (0 ≤ (I19a 1035) ∧ (I19a 1035) ≤ 10000) ∧ (I19a 200) = (I5a 200) ∧ (I19a 202) = (I5a 202) := f22
  obtain ⟨n24, ⟨n25, n26⟩, n27, n28⟩ := id f22
  clear f22
  replace f23 : c_awt A5a A19a (I5a 2503) n := f23
  have bx29 : c_bz I A I19a A19a p q (I 2503) := c_bz_trans (show c_bz I A I5a A5a p q (I 2503) from bx15) f21 (Int.le_refl _) (Int.le_refl _) (Or.inr (Int.le_refl _)) (Or.inr (Int.le_refl _)) (Int.le_refl _) (show (I 2503) ≤ (I5a 2503) by omega)
  have k30 : c_OpA A19a j n p q := c_OpA_agr k16 (c_bz_r f21 (show q ≤ 0 ∨ 0 ≤ p ∨ 0 ≤ 0 by omega))
  have s16 : c_Stq A19a j p q (I 2503) (I19a 2503) 0 := by rw [show (I19a 2503) = (I 2503) + 1 by omega]; exact c_Stq_one k16 (by rw [(c_bz_ke (show c_bz I A I5a A5a p q (I 2503) from bx15)).1]; exact hk) (by omega) (by omega) (by omega) (by rw [show (I 2503) = (I5a 2503) by omega]; exact f23)
  show w_W _ _ _ (19, [(3, .int (Int32.ofInt ((I 2503)))), (0, .ref 39), (1, .int (Int32.ofInt (n))), (2, .int (Int32.ofInt (x)))], [], M18) _
  refine w_adv (n := 2) (F' := (22, [(4, .int (Int32.ofInt (0))), (3, .int (Int32.ofInt ((I 2503)))), (0, .ref 39), (1, .int (Int32.ofInt (n))), (2, .int (Int32.ofInt (x)))], [], M18)) rfl ?_
  have lp22 : ∀ fu22 : Nat, ∀ (y22_4 : Int) (I_22 : Nat → Int) (A_22 : Nat → Int → Int) (B_22 C_22 : Nat → Nat) (M_22 : w_M) (hR_22 : w_Rep w_TC fr X u l I_22 A_22 B_22 C_22 M_22), w_in y22_4 → c_bz I A I_22 A_22 p q (I 2503) → (0 ≤ (I_22 1035) ∧ (I_22 1035) ≤ 10000) ∧ (I_22 200) = (I 200) ∧ (I_22 202) = (I 202) → c_Stq A_22 j p q (I 2503) (I_22 2503) y22_4 → 0 ≤ y22_4 ∧ y22_4 ≤ 6000 ∧ (I 2503) ≤ (I_22 2503) ∧ (I_22 2503) ≤ (I 2503) + 1 + y22_4 → 6000 - y22_4 < (fu22 : Int) → w_W (z_P L xs) (d + 1) 170 (22, [(0, .ref 39), (1, .int (Int32.ofInt (n))), (2, .int (Int32.ofInt (x))), (3, .int (Int32.ofInt ((I 2503)))), (4, .int (Int32.ofInt (y22_4)))], [], M_22) (cb_operations_Q fr X u l I A B C M n x i p q) := by
    intro fu22
    induction fu22 with
    | zero =>
      intro y22_4 I_22 A_22 B_22 C_22 M_22 hR_22 ⟨ra_y22_4, rb_y22_4⟩ hi22_0 hi22_1 hi22_2 hi22_3 hn22
      exfalso
      omega
    | succ fu22 ih22 =>
      intro y22_4 I_22 A_22 B_22 C_22 M_22 hR_22 ⟨ra_y22_4, rb_y22_4⟩ hi22_0 hi22_1 hi22_2 hi22_3 hn22
      refine w_adv (n := 2) (F' := (27, [(0, .ref 39), (1, .int (Int32.ofInt (n))), (2, .int (Int32.ofInt (x))), (3, .int (Int32.ofInt ((I 2503)))), (4, .int (Int32.ofInt (y22_4)))], [.int (Int32.ofInt (6000)), .int (Int32.ofInt (y22_4))], M_22)) rfl ?_
      refine w_br2 (a := y22_4) (b := 6000) rfl rfl ⟨by omega, by omega⟩ ⟨by omega, by omega⟩ (fun h31 => ?_) (fun h31 => ?_)
      · have h31 : y22_4 ≥ 6000 := h31
        show w_W _ _ _ (135, [(0, .ref 39), (1, .int (Int32.ofInt (n))), (2, .int (Int32.ofInt (x))), (3, .int (Int32.ofInt ((I 2503)))), (4, .int (Int32.ofInt (y22_4)))], [], M_22) _
        have hbw : (I_22 2503) = (I 2503) := c_Stq_end hi22_2 (by omega)
        refine w_fin (r := .inl none) (M' := M_22) rfl ?_
        exact ⟨I_22, A_22, B_22, C_22, rfl, hR_22, (show c_bz I A I_22 A_22 p q (I 2503) by exact hi22_0), (show (I_22 2503) = (I 2503) ∧ (0 ≤ (I_22 1035) ∧ (I_22 1035) ≤ 10000) ∧ (I_22 200) = (I 200) ∧ (I_22 202) = (I 202) by (repeat' apply And.intro) <;> first | assumption | omega)⟩
      · have h31 : ¬ (y22_4 ≥ 6000) := h31
        show w_W _ _ _ (30, [(0, .ref 39), (1, .int (Int32.ofInt (n))), (2, .int (Int32.ofInt (x))), (3, .int (Int32.ofInt ((I 2503)))), (4, .int (Int32.ofInt (y22_4)))], [], M_22) _
        refine w_adv (n := 1) (F' := (31, [(0, .ref 39), (1, .int (Int32.ofInt (n))), (2, .int (Int32.ofInt (x))), (3, .int (Int32.ofInt ((I 2503)))), (4, .int (Int32.ofInt (y22_4)))], [.ref 39], M_22)) rfl ?_
        refine w_gf (v := .int (Int32.ofInt ((I_22 2503)))) hR_22 rfl rfl rfl rfl ?_
        obtain ⟨r32, r33⟩ : -2147483648 ≤ (I_22 2503) ∧ (I_22 2503) ≤ 2147483647 := hR_22.ri 2503
        refine w_adv (n := 1) (F' := (35, [(0, .ref 39), (1, .int (Int32.ofInt (n))), (2, .int (Int32.ofInt (x))), (3, .int (Int32.ofInt ((I 2503)))), (4, .int (Int32.ofInt (y22_4)))], [.int (Int32.ofInt ((I 2503))), .int (Int32.ofInt ((I_22 2503)))], M_22)) rfl ?_
        refine w_br2 (a := (I_22 2503)) (b := (I 2503)) rfl rfl ⟨by omega, by omega⟩ ⟨by omega, by omega⟩ (fun h34 => ?_) (fun h34 => ?_)
        · have h34 : (I_22 2503) ≤ (I 2503) := h34
          show w_W _ _ _ (135, [(0, .ref 39), (1, .int (Int32.ofInt (n))), (2, .int (Int32.ofInt (x))), (3, .int (Int32.ofInt ((I 2503)))), (4, .int (Int32.ofInt (y22_4)))], [], M_22) _
          have hbw : (I_22 2503) = (I 2503) := c_Stq_end hi22_2 (by omega)
          refine w_fin (r := .inl none) (M' := M_22) rfl ?_
          exact ⟨I_22, A_22, B_22, C_22, rfl, hR_22, (show c_bz I A I_22 A_22 p q (I 2503) by exact hi22_0), (show (I_22 2503) = (I 2503) ∧ (0 ≤ (I_22 1035) ∧ (I_22 1035) ≤ 10000) ∧ (I_22 200) = (I 200) ∧ (I_22 202) = (I 202) by (repeat' apply And.intro) <;> first | assumption | omega)⟩
        · have h34 : ¬ ((I_22 2503) ≤ (I 2503)) := h34
          show w_W _ _ _ (38, [(0, .ref 39), (1, .int (Int32.ofInt (n))), (2, .int (Int32.ofInt (x))), (3, .int (Int32.ofInt ((I 2503)))), (4, .int (Int32.ofInt (y22_4)))], [], M_22) _
          refine w_adv (n := 1) (F' := (39, [(0, .ref 39), (1, .int (Int32.ofInt (n))), (2, .int (Int32.ofInt (x))), (3, .int (Int32.ofInt ((I 2503)))), (4, .int (Int32.ofInt (y22_4)))], [.ref 39], M_22)) rfl ?_
          refine w_gf (v := .ref 41) hR_22 rfl rfl rfl rfl ?_
          refine w_adv (n := 1) (F' := (43, [(0, .ref 39), (1, .int (Int32.ofInt (n))), (2, .int (Int32.ofInt (x))), (3, .int (Int32.ofInt ((I 2503)))), (4, .int (Int32.ofInt (y22_4)))], [.ref 39, .ref 41], M_22)) rfl ?_
          refine w_gf (v := .int (Int32.ofInt ((I_22 2503)))) hR_22 rfl rfl rfl rfl ?_
          refine w_adv (n := 1) (F' := (47, [(0, .ref 39), (1, .int (Int32.ofInt (n))), (2, .int (Int32.ofInt (x))), (3, .int (Int32.ofInt ((I 2503)))), (4, .int (Int32.ofInt (y22_4)))], [.int (Int32.ofInt (1)), .int (Int32.ofInt ((I_22 2503))), .ref 41], M_22)) rfl ?_
          refine w_sub rfl ?_
          refine w_call (cm := 21) (as := [(0, .ref 41), (1, .int (Int32.ofInt ((I_22 2503) - 1)))]) (rest := []) (o := none) rfl (trivial) (c_at ((I_22 2503) - 1) 41 1500 rfl (by decide) hR_22 ⟨by omega, by omega⟩) (fun r35 M36 q37 => ?_)
          rcases q37 with ⟨v38, e39, ⟨r40, r41⟩, e42, f43⟩
          rw [e39, e42]
          replace f43 : ((0 ≤ (I_22 2503) - 1 ∧ (I_22 2503) - 1 < (1500 : Int) ∧ v38 = (A_22 41) ((I_22 2503) - 1)) ∨ (¬ (0 ≤ (I_22 2503) - 1 ∧ (I_22 2503) - 1 < (1500 : Int)) ∧ v38 = -1)) := f43
          show w_W _ _ _ (51, [(0, .ref 39), (1, .int (Int32.ofInt (n))), (2, .int (Int32.ofInt (x))), (3, .int (Int32.ofInt ((I 2503)))), (4, .int (Int32.ofInt (y22_4)))], [.int (Int32.ofInt (v38))], M_22) _
          refine w_adv (n := 3) (F' := (56, [(5, .int (Int32.ofInt (v38))), (0, .ref 39), (1, .int (Int32.ofInt (n))), (2, .int (Int32.ofInt (x))), (3, .int (Int32.ofInt ((I 2503)))), (4, .int (Int32.ofInt (y22_4)))], [.int (Int32.ofInt (v38)), .ref 39], M_22)) rfl ?_
          refine w_call (cm := 172) (as := [(0, .ref 39), (1, .int (Int32.ofInt (v38)))]) (rest := []) (o := some (1, 39)) rfl (w_fitR hR_22 rfl) (c_nextOperand (v38) hR_22 (show 2 ≤ d by omega) ⟨by omega, by omega⟩ (show 0 ≤ (I_22 1035) ∧ (I_22 1035) ≤ 10000 by (repeat' apply And.intro) <;> first | assumption | omega) (show 1 ≤ (I_22 2503) ∧ (I_22 2503) ≤ 2000000 by omega)) (fun r44 M45 q46 => ?_)
          rcases q46 with ⟨v47, I46a, A46a, B46a, C46a, e48, ⟨r49, r50⟩, hR46a, f51, f52, f53⟩
          rw [e48]
          replace hR46a : w_Rep w_TC fr X u l I46a A46a B46a C46a M45 := hR46a
          replace f51 : c_bz I_22 A_22 I46a A46a 0 0 ((I_22 2503) - 1) := f51
          replace f52 : (I46a 2503) = (I_22 2503) ∧ (0 ≤ (I46a 1035) ∧ (I46a 1035) ≤ 10000) ∧ (I46a 200) = (I_22 200) ∧ (I46a 202) = (I_22 202) := f52
          obtain ⟨n54, ⟨n55, n56⟩, n57, n58⟩ := id f52
          clear f52
          replace f53 : c_nop A_22 A46a ((I_22 2503) - 1) v38 v47 := f53
          have bx59 : c_bz I A I46a A46a p q (I 2503) := c_bz_trans (show c_bz I A I_22 A_22 p q (I 2503) from hi22_0) f51 (Int.le_refl _) (Int.le_refl _) (Or.inr (Int.le_refl _)) (Or.inr (Int.le_refl _)) (Int.le_refl _) (show (I 2503) ≤ (I_22 2503) - 1 by omega)
          have sn := c_Stq_next hi22_2 (show (I 2503) < (I_22 2503) by omega) (show 0 ≤ p by omega) (show q ≤ 3016 by omega) (fun hx => by omega) f53
          show w_W _ _ _ (59, [(5, .int (Int32.ofInt (v38))), (0, .ref 39), (1, .int (Int32.ofInt (n))), (2, .int (Int32.ofInt (x))), (3, .int (Int32.ofInt ((I 2503)))), (4, .int (Int32.ofInt (y22_4)))], [.int (Int32.ofInt (v47))], M45) _
          refine w_adv (n := 3) (F' := (64, [(6, .int (Int32.ofInt (v47))), (5, .int (Int32.ofInt (v38))), (0, .ref 39), (1, .int (Int32.ofInt (n))), (2, .int (Int32.ofInt (x))), (3, .int (Int32.ofInt ((I 2503)))), (4, .int (Int32.ofInt (y22_4)))], [.int (Int32.ofInt ((-1))), .int (Int32.ofInt (v47))], M45)) rfl ?_
          refine w_br2 (a := v47) (b := (-1)) rfl rfl ⟨by omega, by omega⟩ ⟨by omega, by omega⟩ (fun h60 => ?_) (fun h60 => ?_)
          · have h60 : ¬ v47 = (-1) := h60
            show w_W _ _ _ (86, [(6, .int (Int32.ofInt (v47))), (5, .int (Int32.ofInt (v38))), (0, .ref 39), (1, .int (Int32.ofInt (n))), (2, .int (Int32.ofInt (x))), (3, .int (Int32.ofInt ((I 2503)))), (4, .int (Int32.ofInt (y22_4)))], [], M45) _
            obtain ⟨k0, x0, y0, c0, so1, so2, so3, so4, so5, so6, so7⟩ := (sn.resolve_left (fun hx => by have := hx.1; omega)).2
            obtain ⟨so8, so9⟩ := c_OpA_in so3
            refine w_adv (n := 2) (F' := (89, [(6, .int (Int32.ofInt (v47))), (5, .int (Int32.ofInt (v38))), (0, .ref 39), (1, .int (Int32.ofInt (n))), (2, .int (Int32.ofInt (x))), (3, .int (Int32.ofInt ((I 2503)))), (4, .int (Int32.ofInt (y22_4)))], [.int (Int32.ofInt (v47)), .ref 39], M45)) rfl ?_
            refine w_call (cm := 158) (as := [(0, .ref 39), (1, .int (Int32.ofInt (v47)))]) (rest := []) (o := some (1, 39)) rfl (w_fitR hR46a rfl) (c_target (v47) hR46a (show 4 ≤ d by omega) ⟨by omega, by omega⟩ (show 0 ≤ (I46a 1035) ∧ (I46a 1035) ≤ 10000 by (repeat' apply And.intro) <;> first | assumption | omega) (show 0 ≤ (I46a 2503) by omega)) (fun r61 M62 q63 => ?_)
            rcases q63 with ⟨v64, I63a, A63a, B63a, C63a, e65, ⟨r66, r67⟩, hR63a, f68, f69⟩
            rw [e65]
            replace hR63a : w_Rep w_TC fr X u l I63a A63a B63a C63a M62 := hR63a
            replace f68 : c_bz I46a A46a I63a A63a 0 0 (I46a 2503) := f68
            replace f69 : (I63a 2503) = (I46a 2503) ∧ (0 ≤ (I63a 1035) ∧ (I63a 1035) ≤ 10000) ∧ (I63a 200) = (I46a 200) ∧ (I63a 202) = (I46a 202) := f69
            obtain ⟨n70, ⟨n71, n72⟩, n73, n74⟩ := id f69
            clear f69
            have bx75 : c_bz I A I63a A63a p q (I 2503) := c_bz_trans (show c_bz I A I46a A46a p q (I 2503) from bx59) f68 (Int.le_refl _) (Int.le_refl _) (show p ≤ 0 ∨ 0 ≤ 0 by omega) (show 0 ≤ q ∨ 0 ≤ 0 by omega) (Int.le_refl _) (show (I 2503) ≤ (I46a 2503) by omega)
            have k76 : c_OpA A63a j v47 x0 y0 := c_OpA_agr so3 (c_bz_r f68 (show y0 ≤ 0 ∨ 0 ≤ x0 ∨ 0 ≤ 0 by omega))
            have s77 : c_Stk A63a j p q k0 ((I_22 2503) - 1) x0 y0 c0 := c_Stk_fr2 so4 (c_bz_ke f68) f68.2.2.1 f68.2.2.2.1 (by omega) (by omega)
            show w_W _ _ _ (92, [(6, .int (Int32.ofInt (v47))), (5, .int (Int32.ofInt (v38))), (0, .ref 39), (1, .int (Int32.ofInt (n))), (2, .int (Int32.ofInt (x))), (3, .int (Int32.ofInt ((I 2503)))), (4, .int (Int32.ofInt (y22_4)))], [.int (Int32.ofInt (v64))], M62) _
            refine w_adv (n := 3) (F' := (97, [(7, .int (Int32.ofInt (v64))), (6, .int (Int32.ofInt (v47))), (5, .int (Int32.ofInt (v38))), (0, .ref 39), (1, .int (Int32.ofInt (n))), (2, .int (Int32.ofInt (x))), (3, .int (Int32.ofInt ((I 2503)))), (4, .int (Int32.ofInt (y22_4)))], [.int (Int32.ofInt (v47)), .ref 39], M62)) rfl ?_
            refine w_call (cm := 175) (as := [(0, .ref 39), (1, .int (Int32.ofInt (v47)))]) (rest := []) (o := some (1, 39)) rfl (w_fitR hR63a rfl) (c_isOperation (v47) hR63a (show 2 ≤ d by omega) ⟨by omega, by omega⟩) (fun r78 M79 q80 => ?_)
            rcases q80 with ⟨e81, e82, f83⟩ | ⟨e84, e85, f86⟩
            · rw [e81, e82]
              replace f83 : c_is8 A63a v47 := f83
              skip
              show w_W _ _ _ (100, [(7, .int (Int32.ofInt (v64))), (6, .int (Int32.ofInt (v47))), (5, .int (Int32.ofInt (v38))), (0, .ref 39), (1, .int (Int32.ofInt (n))), (2, .int (Int32.ofInt (x))), (3, .int (Int32.ofInt ((I 2503)))), (4, .int (Int32.ofInt (y22_4)))], [.int (Int32.ofInt (1))], M62) _
              refine w_adv (n := 3) (F' := (106, [(7, .int (Int32.ofInt (v64))), (6, .int (Int32.ofInt (v47))), (5, .int (Int32.ofInt (v38))), (0, .ref 39), (1, .int (Int32.ofInt (n))), (2, .int (Int32.ofInt (x))), (3, .int (Int32.ofInt ((I 2503)))), (4, .int (Int32.ofInt (y22_4)))], [.int (Int32.ofInt (v47)), .ref 39], M62)) rfl ?_
              refine w_call (cm := 171) (as := [(0, .ref 39), (1, .int (Int32.ofInt (v47)))]) (rest := []) (o := some (1, 39)) rfl (w_fitR hR63a rfl) (c_await (v47) hR63a (show 1 ≤ d by omega) ⟨by omega, by omega⟩ (show 0 ≤ (I63a 1035) ∧ (I63a 1035) ≤ 10000 by (repeat' apply And.intro) <;> first | assumption | omega) (show 0 ≤ (I63a 2503) ∧ (I63a 2503) ≤ 2000000 by omega)) (fun r87 M88 q89 => ?_)
              rcases q89 with ⟨I89a, A89a, B89a, C89a, e90, hR89a, f91, f92, f93⟩
              rw [e90]
              replace hR89a : w_Rep w_TC fr X u l I89a A89a B89a C89a M88 := hR89a
              replace f91 : c_bz I63a A63a I89a A89a 0 0 (I63a 2503) := f91
              replace f92 : (I89a 2503) = (I63a 2503) + 1 ∧ (0 ≤ (I89a 1035) ∧ (I89a 1035) ≤ 10000) ∧ (I89a 200) = (I63a 200) ∧ (I89a 202) = (I63a 202) := f92
              obtain ⟨n94, ⟨n95, n96⟩, n97, n98⟩ := id f92
              clear f92
              replace f93 : c_awt A63a A89a (I63a 2503) v47 := f93
              have bx99 : c_bz I A I89a A89a p q (I 2503) := c_bz_trans (show c_bz I A I63a A63a p q (I 2503) from bx75) f91 (Int.le_refl _) (Int.le_refl _) (Or.inr (Int.le_refl _)) (Or.inr (Int.le_refl _)) (Int.le_refl _) (show (I 2503) ≤ (I63a 2503) by omega)
              have k100 : c_OpA A89a j v47 x0 y0 := c_OpA_agr k76 (c_bz_r f91 (show y0 ≤ 0 ∨ 0 ≤ x0 ∨ 0 ≤ 0 by omega))
              have s101 : c_Stk A89a j p q k0 ((I_22 2503) - 1) x0 y0 c0 := c_Stk_fr2 s77 (c_bz_ke f91) f91.2.2.1 f91.2.2.2.1 (by omega) (by omega)
              have s106 : c_Stq A89a j p q (I 2503) (I89a 2503) (y22_4 + 1) := by rw [show (I89a 2503) = (I63a 2503) + 1 by omega]; exact c_Stq_push (by rw [show (I63a 2503) - 1 = ((I_22 2503) - 1) by omega]; exact s77) k76 (f83 ⟨by omega, by omega⟩) (by omega) (by omega) (by omega) f93
              show w_W _ _ _ (109, [(7, .int (Int32.ofInt (v64))), (6, .int (Int32.ofInt (v47))), (5, .int (Int32.ofInt (v38))), (0, .ref 39), (1, .int (Int32.ofInt (n))), (2, .int (Int32.ofInt (x))), (3, .int (Int32.ofInt ((I 2503)))), (4, .int (Int32.ofInt (y22_4)))], [], M88) _
              refine w_adv (n := 1) (F' := (129, [(7, .int (Int32.ofInt (v64))), (6, .int (Int32.ofInt (v47))), (5, .int (Int32.ofInt (v38))), (0, .ref 39), (1, .int (Int32.ofInt (n))), (2, .int (Int32.ofInt (x))), (3, .int (Int32.ofInt ((I 2503)))), (4, .int (Int32.ofInt (y22_4)))], [], M88)) rfl ?_
              refine w_inc (nL := 8) (a := y22_4) rfl rfl rfl (by decide) ?_
              refine w_adv (n := 1) (F' := (22, [(4, .int (Int32.ofInt (y22_4 + 1))), (7, .int (Int32.ofInt (v64))), (6, .int (Int32.ofInt (v47))), (5, .int (Int32.ofInt (v38))), (0, .ref 39), (1, .int (Int32.ofInt (n))), (2, .int (Int32.ofInt (x))), (3, .int (Int32.ofInt ((I 2503))))], [], M88)) rfl ?_
              refine w_ls (ls := [(0, .ref 39), (1, .int (Int32.ofInt (n))), (2, .int (Int32.ofInt (x))), (3, .int (Int32.ofInt ((I 2503)))), (4, .int (Int32.ofInt (y22_4 + 1)))]) (show List.Nodup [0, 1, 2, 3, 4] by decide) (show List.Nodup [4, 7, 6, 5, 0, 1, 2, 3] by decide) (List.forall_mem_cons.mpr ⟨(List.Mem.tail _ (List.Mem.tail _ (List.Mem.tail _ (List.Mem.tail _ (List.Mem.head _))))), (List.forall_mem_cons.mpr ⟨(List.Mem.tail _ (List.Mem.tail _ (List.Mem.tail _ (List.Mem.tail _ (List.Mem.tail _ (List.Mem.head _)))))), (List.forall_mem_cons.mpr ⟨(List.Mem.tail _ (List.Mem.tail _ (List.Mem.tail _ (List.Mem.tail _ (List.Mem.tail _ (List.Mem.tail _ (List.Mem.head _))))))), (List.forall_mem_cons.mpr ⟨(List.Mem.tail _ (List.Mem.tail _ (List.Mem.tail _ (List.Mem.tail _ (List.Mem.tail _ (List.Mem.tail _ (List.Mem.tail _ (List.Mem.head _)))))))), (List.forall_mem_cons.mpr ⟨(List.Mem.head _), (fun _ h => by cases h)⟩)⟩)⟩)⟩)⟩) ?_
              exact ih22  (y22_4 + 1) I89a A89a B89a C89a M88 hR89a ⟨by omega, by omega⟩ (show c_bz I A I89a A89a p q (I 2503) by exact bx99) (show (0 ≤ (I89a 1035) ∧ (I89a 1035) ≤ 10000) ∧ (I89a 200) = (I 200) ∧ (I89a 202) = (I 202) by (repeat' apply And.intro) <;> first | assumption | omega) (show c_Stq A89a j p q (I 2503) (I89a 2503) (y22_4 + 1) by first | exact s106 | (have sx := s106; rw [show (I89a 2503) = (I89a 2503) by omega] at sx; exact sx)) (show 0 ≤ (y22_4 + 1) ∧ (y22_4 + 1) ≤ 6000 ∧ (I 2503) ≤ (I89a 2503) ∧ (I89a 2503) ≤ (I 2503) + 1 + (y22_4 + 1) by omega) (show 6000 - (y22_4 + 1) < (fu22 : Int) by omega)
            · rw [e84, e85]
              replace f86 : c_no8 A63a v47 := f86
              skip
              show w_W _ _ _ (100, [(7, .int (Int32.ofInt (v64))), (6, .int (Int32.ofInt (v47))), (5, .int (Int32.ofInt (v38))), (0, .ref 39), (1, .int (Int32.ofInt (n))), (2, .int (Int32.ofInt (x))), (3, .int (Int32.ofInt ((I 2503)))), (4, .int (Int32.ofInt (y22_4)))], [.int (Int32.ofInt (0))], M62) _
              refine w_adv (n := 1) (F' := (112, [(7, .int (Int32.ofInt (v64))), (6, .int (Int32.ofInt (v47))), (5, .int (Int32.ofInt (v38))), (0, .ref 39), (1, .int (Int32.ofInt (n))), (2, .int (Int32.ofInt (x))), (3, .int (Int32.ofInt ((I 2503)))), (4, .int (Int32.ofInt (y22_4)))], [], M62)) rfl ?_
              have ow : c_W A63a j v47 x0 y0 := c_OpA_no k76 (f86 ⟨by omega, by omega⟩)
              refine w_adv (n := 2) (F' := (115, [(7, .int (Int32.ofInt (v64))), (6, .int (Int32.ofInt (v47))), (5, .int (Int32.ofInt (v38))), (0, .ref 39), (1, .int (Int32.ofInt (n))), (2, .int (Int32.ofInt (x))), (3, .int (Int32.ofInt ((I 2503)))), (4, .int (Int32.ofInt (y22_4)))], [.int (Int32.ofInt (v47)), .ref 39], M62)) rfl ?_
              refine w_call (cm := 154) (as := [(0, .ref 39), (1, .int (Int32.ofInt (v47)))]) (rest := []) (o := some (1, 39)) rfl (w_fitR hR63a rfl) (c_isVariable (v47) hR63a (show 2 ≤ d by omega) ⟨by omega, by omega⟩) (fun r102 M103 q104 => ?_)
              rcases q104 with ⟨e105, e106⟩ | ⟨e107, e108⟩
              · rw [e105, e106]
                show w_W _ _ _ (118, [(7, .int (Int32.ofInt (v64))), (6, .int (Int32.ofInt (v47))), (5, .int (Int32.ofInt (v38))), (0, .ref 39), (1, .int (Int32.ofInt (n))), (2, .int (Int32.ofInt (x))), (3, .int (Int32.ofInt ((I 2503)))), (4, .int (Int32.ofInt (y22_4)))], [.int (Int32.ofInt (1))], M62) _
                refine w_adv (n := 1) (F' := (129, [(7, .int (Int32.ofInt (v64))), (6, .int (Int32.ofInt (v47))), (5, .int (Int32.ofInt (v38))), (0, .ref 39), (1, .int (Int32.ofInt (n))), (2, .int (Int32.ofInt (x))), (3, .int (Int32.ofInt ((I 2503)))), (4, .int (Int32.ofInt (y22_4)))], [], M62)) rfl ?_
                refine w_inc (nL := 8) (a := y22_4) rfl rfl rfl (by decide) ?_
                refine w_adv (n := 1) (F' := (22, [(4, .int (Int32.ofInt (y22_4 + 1))), (7, .int (Int32.ofInt (v64))), (6, .int (Int32.ofInt (v47))), (5, .int (Int32.ofInt (v38))), (0, .ref 39), (1, .int (Int32.ofInt (n))), (2, .int (Int32.ofInt (x))), (3, .int (Int32.ofInt ((I 2503))))], [], M62)) rfl ?_
                refine w_ls (ls := [(0, .ref 39), (1, .int (Int32.ofInt (n))), (2, .int (Int32.ofInt (x))), (3, .int (Int32.ofInt ((I 2503)))), (4, .int (Int32.ofInt (y22_4 + 1)))]) (show List.Nodup [0, 1, 2, 3, 4] by decide) (show List.Nodup [4, 7, 6, 5, 0, 1, 2, 3] by decide) (List.forall_mem_cons.mpr ⟨(List.Mem.tail _ (List.Mem.tail _ (List.Mem.tail _ (List.Mem.tail _ (List.Mem.head _))))), (List.forall_mem_cons.mpr ⟨(List.Mem.tail _ (List.Mem.tail _ (List.Mem.tail _ (List.Mem.tail _ (List.Mem.tail _ (List.Mem.head _)))))), (List.forall_mem_cons.mpr ⟨(List.Mem.tail _ (List.Mem.tail _ (List.Mem.tail _ (List.Mem.tail _ (List.Mem.tail _ (List.Mem.tail _ (List.Mem.head _))))))), (List.forall_mem_cons.mpr ⟨(List.Mem.tail _ (List.Mem.tail _ (List.Mem.tail _ (List.Mem.tail _ (List.Mem.tail _ (List.Mem.tail _ (List.Mem.tail _ (List.Mem.head _)))))))), (List.forall_mem_cons.mpr ⟨(List.Mem.head _), (fun _ h => by cases h)⟩)⟩)⟩)⟩)⟩) ?_
                exact ih22  (y22_4 + 1) I63a A63a B63a C63a M62 hR63a ⟨by omega, by omega⟩ (show c_bz I A I63a A63a p q (I 2503) by exact bx75) (show (0 ≤ (I63a 1035) ∧ (I63a 1035) ≤ 10000) ∧ (I63a 200) = (I 200) ∧ (I63a 202) = (I 202) by (repeat' apply And.intro) <;> first | assumption | omega) (show c_Stq A63a j p q (I 2503) (I63a 2503) (y22_4 + 1) by exact ⟨k0, x0, y0, c0, by rw [show (I63a 2503) - 1 = ((I_22 2503) - 1) by omega]; exact s77, by omega, by omega⟩) (show 0 ≤ (y22_4 + 1) ∧ (y22_4 + 1) ≤ 6000 ∧ (I 2503) ≤ (I63a 2503) ∧ (I63a 2503) ≤ (I 2503) + 1 + (y22_4 + 1) by omega) (show 6000 - (y22_4 + 1) < (fu22 : Int) by omega)
              · rw [e107, e108]
                show w_W _ _ _ (118, [(7, .int (Int32.ofInt (v64))), (6, .int (Int32.ofInt (v47))), (5, .int (Int32.ofInt (v38))), (0, .ref 39), (1, .int (Int32.ofInt (n))), (2, .int (Int32.ofInt (x))), (3, .int (Int32.ofInt ((I 2503)))), (4, .int (Int32.ofInt (y22_4)))], [.int (Int32.ofInt (0))], M62) _
                refine w_adv (n := 4) (F' := (126, [(7, .int (Int32.ofInt (v64))), (6, .int (Int32.ofInt (v47))), (5, .int (Int32.ofInt (v38))), (0, .ref 39), (1, .int (Int32.ofInt (n))), (2, .int (Int32.ofInt (x))), (3, .int (Int32.ofInt ((I 2503)))), (4, .int (Int32.ofInt (y22_4)))], [.int (Int32.ofInt (v64)), .int (Int32.ofInt (v47)), .ref 39], M62)) rfl ?_
                refine w_call (cm := 156) (as := [(0, .ref 39), (1, .int (Int32.ofInt (v47))), (2, .int (Int32.ofInt (v64)))]) (rest := []) (o := some (1, 39)) rfl (w_fitR hR63a rfl) ((hB0 d (Nat.lt_succ_self d)).1 (v47) (v64) (j) (x0) (y0) hR63a (show 8 * j + 4 ≤ d by omega) ⟨by omega, by omega⟩ ⟨by omega, by omega⟩ (show 0 ≤ (I63a 1035) ∧ (I63a 1035) ≤ 10000 by (repeat' apply And.intro) <;> first | assumption | omega) (show c_ks A63a by exact (show c_bz I A I63a A63a p q (I 2503) from bx75).2.2.2.2 hKS) (show 36 ≤ (I63a 200) ∧ (I63a 200) ≤ 419 ∧ 0 ≤ (I63a 202) ∧ (I63a 202) ≤ 24 by (repeat' apply And.intro) <;> first | assumption | omega) (show ∀ i, (A63a 5) i ≤ 24 by rw [show (A63a 5) = (A 5) from (show c_bz I A I63a A63a p q (I 2503) from bx75).2.1 5 rfl]; exact hLN) (show 0 ≤ (I63a 2503) by omega) (show (I63a 2503) + 7000 * (j : Int) ≤ 1000000 by first | assumption | omega) (show c_W A63a j v47 x0 y0 by exact ow) (show 0 ≤ x0 ∧ y0 ≤ 3001 by first | assumption | omega)) (fun r109 M110 q111 => ?_)
                rcases q111 with ⟨I111a, A111a, B111a, C111a, e112, hR111a, f113, f114⟩
                rw [e112]
                replace hR111a : w_Rep w_TC fr X u l I111a A111a B111a C111a M110 := hR111a
                replace f113 : c_bz I63a A63a I111a A111a x0 y0 (I63a 2503) := f113
                replace f114 : (I111a 2503) = (I63a 2503) ∧ (0 ≤ (I111a 1035) ∧ (I111a 1035) ≤ 10000) ∧ (I111a 200) = (I63a 200) ∧ (I111a 202) = (I63a 202) := f114
                obtain ⟨n115, ⟨n116, n117⟩, n118, n119⟩ := id f114
                clear f114
                have bx120 : c_bz I A I111a A111a p q (I 2503) := c_bz_trans (show c_bz I A I63a A63a p q (I 2503) from bx75) f113 (Int.le_refl _) (Int.le_refl _) (show p ≤ x0 ∨ y0 ≤ x0 by omega) (show y0 ≤ q ∨ y0 ≤ x0 by omega) (Int.le_refl _) (show (I 2503) ≤ (I63a 2503) by omega)
                have s121 : c_Stk A111a j p q k0 ((I_22 2503) - 1) x0 y0 c0 := c_Stk_fr2 s77 (c_bz_ke f113) f113.2.2.1 f113.2.2.2.1 (by omega) (by omega)
                show w_W _ _ _ (129, [(7, .int (Int32.ofInt (v64))), (6, .int (Int32.ofInt (v47))), (5, .int (Int32.ofInt (v38))), (0, .ref 39), (1, .int (Int32.ofInt (n))), (2, .int (Int32.ofInt (x))), (3, .int (Int32.ofInt ((I 2503)))), (4, .int (Int32.ofInt (y22_4)))], [], M110) _
                refine w_inc (nL := 8) (a := y22_4) rfl rfl rfl (by decide) ?_
                refine w_adv (n := 1) (F' := (22, [(4, .int (Int32.ofInt (y22_4 + 1))), (7, .int (Int32.ofInt (v64))), (6, .int (Int32.ofInt (v47))), (5, .int (Int32.ofInt (v38))), (0, .ref 39), (1, .int (Int32.ofInt (n))), (2, .int (Int32.ofInt (x))), (3, .int (Int32.ofInt ((I 2503))))], [], M110)) rfl ?_
                refine w_ls (ls := [(0, .ref 39), (1, .int (Int32.ofInt (n))), (2, .int (Int32.ofInt (x))), (3, .int (Int32.ofInt ((I 2503)))), (4, .int (Int32.ofInt (y22_4 + 1)))]) (show List.Nodup [0, 1, 2, 3, 4] by decide) (show List.Nodup [4, 7, 6, 5, 0, 1, 2, 3] by decide) (List.forall_mem_cons.mpr ⟨(List.Mem.tail _ (List.Mem.tail _ (List.Mem.tail _ (List.Mem.tail _ (List.Mem.head _))))), (List.forall_mem_cons.mpr ⟨(List.Mem.tail _ (List.Mem.tail _ (List.Mem.tail _ (List.Mem.tail _ (List.Mem.tail _ (List.Mem.head _)))))), (List.forall_mem_cons.mpr ⟨(List.Mem.tail _ (List.Mem.tail _ (List.Mem.tail _ (List.Mem.tail _ (List.Mem.tail _ (List.Mem.tail _ (List.Mem.head _))))))), (List.forall_mem_cons.mpr ⟨(List.Mem.tail _ (List.Mem.tail _ (List.Mem.tail _ (List.Mem.tail _ (List.Mem.tail _ (List.Mem.tail _ (List.Mem.tail _ (List.Mem.head _)))))))), (List.forall_mem_cons.mpr ⟨(List.Mem.head _), (fun _ h => by cases h)⟩)⟩)⟩)⟩)⟩) ?_
                exact ih22  (y22_4 + 1) I111a A111a B111a C111a M110 hR111a ⟨by omega, by omega⟩ (show c_bz I A I111a A111a p q (I 2503) by exact bx120) (show (0 ≤ (I111a 1035) ∧ (I111a 1035) ≤ 10000) ∧ (I111a 200) = (I 200) ∧ (I111a 202) = (I 202) by (repeat' apply And.intro) <;> first | assumption | omega) (show c_Stq A111a j p q (I 2503) (I111a 2503) (y22_4 + 1) by exact ⟨k0, x0, y0, c0, by rw [show (I111a 2503) - 1 = ((I_22 2503) - 1) by omega]; exact s121, by omega, by omega⟩) (show 0 ≤ (y22_4 + 1) ∧ (y22_4 + 1) ≤ 6000 ∧ (I 2503) ≤ (I111a 2503) ∧ (I111a 2503) ≤ (I 2503) + 1 + (y22_4 + 1) by omega) (show 6000 - (y22_4 + 1) < (fu22 : Int) by omega)
          · have h60 : ¬ (¬ v47 = (-1)) := h60
            show w_W _ _ _ (67, [(6, .int (Int32.ofInt (v47))), (5, .int (Int32.ofInt (v38))), (0, .ref 39), (1, .int (Int32.ofInt (n))), (2, .int (Int32.ofInt (x))), (3, .int (Int32.ofInt ((I 2503)))), (4, .int (Int32.ofInt (y22_4)))], [], M45) _
            have s67 : c_Stq A46a j p q (I 2503) ((I_22 2503) - 1) (y22_4 + 1) := (sn.resolve_right (fun hx => hx.1 (by omega))).2
            refine w_adv (n := 2) (F' := (69, [(6, .int (Int32.ofInt (v47))), (5, .int (Int32.ofInt (v38))), (0, .ref 39), (1, .int (Int32.ofInt (n))), (2, .int (Int32.ofInt (x))), (3, .int (Int32.ofInt ((I 2503)))), (4, .int (Int32.ofInt (y22_4)))], [.ref 39, .ref 39], M45)) rfl ?_
            refine w_gf (v := .int (Int32.ofInt ((I46a 2503)))) hR46a rfl rfl rfl rfl ?_
            obtain ⟨r122, r123⟩ : -2147483648 ≤ (I46a 2503) ∧ (I46a 2503) ≤ 2147483647 := hR46a.ri 2503
            refine w_adv (n := 1) (F' := (73, [(6, .int (Int32.ofInt (v47))), (5, .int (Int32.ofInt (v38))), (0, .ref 39), (1, .int (Int32.ofInt (n))), (2, .int (Int32.ofInt (x))), (3, .int (Int32.ofInt ((I 2503)))), (4, .int (Int32.ofInt (y22_4)))], [.int (Int32.ofInt (1)), .int (Int32.ofInt ((I46a 2503))), .ref 39], M45)) rfl ?_
            refine w_sub rfl ?_
            refine w_pf hR46a rfl rfl rfl rfl (show w_in ((I46a 2503) - 1) from ⟨by omega, by omega⟩) (fun h => absurd h (by decide)) (fun M124 hR125 => ?_)
            replace hR125 : w_Rep w_TC fr X u l (w_up I46a 2503 ((I46a 2503) - 1)) A46a B46a C46a M124 := hR125
            refine w_adv (n := 2) (F' := (80, [(6, .int (Int32.ofInt (v47))), (5, .int (Int32.ofInt (v38))), (0, .ref 39), (1, .int (Int32.ofInt (n))), (2, .int (Int32.ofInt (x))), (3, .int (Int32.ofInt ((I 2503)))), (4, .int (Int32.ofInt (y22_4)))], [.int (Int32.ofInt (v38)), .ref 39], M124)) rfl ?_
            refine w_call (cm := 173) (as := [(0, .ref 39), (1, .int (Int32.ofInt (v38)))]) (rest := []) (o := some (1, 39)) rfl (w_fitR hR125 rfl) (c_operate (v38) hR125 (show 5 ≤ d by omega) ⟨by omega, by omega⟩ (show 0 ≤ (I46a 1035) ∧ (I46a 1035) ≤ 10000 by (repeat' apply And.intro) <;> first | assumption | omega) (show 0 ≤ (I46a 2503) - 1 by omega)) (fun r126 M127 q128 => ?_)
            rcases q128 with ⟨I128a, A128a, B128a, C128a, e129, hR128a, f130, f131⟩
            rw [e129]
            replace hR128a : w_Rep w_TC fr X u l I128a A128a B128a C128a M127 := hR128a
            replace f130 : c_bz (w_up I46a 2503 ((I46a 2503) - 1)) A46a I128a A128a 0 0 ((I46a 2503) - 1) := f130
            replace f131 : (I128a 2503) = (I46a 2503) - 1 ∧ (0 ≤ (I128a 1035) ∧ (I128a 1035) ≤ 10000) ∧ (I128a 200) = (I46a 200) ∧ (I128a 202) = (I46a 202) := f131
            obtain ⟨n132, ⟨n133, n134⟩, n135, n136⟩ := id f131
            clear f131
            have bx137 : c_bz I A I128a A128a p q (I 2503) := c_bz_trans (show c_bz I A (w_up I46a 2503 ((I46a 2503) - 1)) A46a p q (I 2503) from (c_bz_up bx59 rfl)) f130 (Int.le_refl _) (Int.le_refl _) (show p ≤ 0 ∨ 0 ≤ 0 by omega) (show 0 ≤ q ∨ 0 ≤ 0 by omega) (Int.le_refl _) (show (I 2503) ≤ (I46a 2503) - 1 by omega)
            have s138 : c_Stq A128a j p q (I 2503) ((I_22 2503) - 1) (y22_4 + 1) := c_Stq_fr s67 (c_bz_ke f130) f130.2.2.1 f130.2.2.2.1 (by omega)
            show w_W _ _ _ (83, [(6, .int (Int32.ofInt (v47))), (5, .int (Int32.ofInt (v38))), (0, .ref 39), (1, .int (Int32.ofInt (n))), (2, .int (Int32.ofInt (x))), (3, .int (Int32.ofInt ((I 2503)))), (4, .int (Int32.ofInt (y22_4)))], [], M127) _
            refine w_adv (n := 1) (F' := (129, [(6, .int (Int32.ofInt (v47))), (5, .int (Int32.ofInt (v38))), (0, .ref 39), (1, .int (Int32.ofInt (n))), (2, .int (Int32.ofInt (x))), (3, .int (Int32.ofInt ((I 2503)))), (4, .int (Int32.ofInt (y22_4)))], [], M127)) rfl ?_
            refine w_inc (nL := 8) (a := y22_4) rfl rfl rfl (by decide) ?_
            refine w_adv (n := 1) (F' := (22, [(4, .int (Int32.ofInt (y22_4 + 1))), (6, .int (Int32.ofInt (v47))), (5, .int (Int32.ofInt (v38))), (0, .ref 39), (1, .int (Int32.ofInt (n))), (2, .int (Int32.ofInt (x))), (3, .int (Int32.ofInt ((I 2503))))], [], M127)) rfl ?_
            refine w_ls (ls := [(0, .ref 39), (1, .int (Int32.ofInt (n))), (2, .int (Int32.ofInt (x))), (3, .int (Int32.ofInt ((I 2503)))), (4, .int (Int32.ofInt (y22_4 + 1)))]) (show List.Nodup [0, 1, 2, 3, 4] by decide) (show List.Nodup [4, 6, 5, 0, 1, 2, 3] by decide) (List.forall_mem_cons.mpr ⟨(List.Mem.tail _ (List.Mem.tail _ (List.Mem.tail _ (List.Mem.head _)))), (List.forall_mem_cons.mpr ⟨(List.Mem.tail _ (List.Mem.tail _ (List.Mem.tail _ (List.Mem.tail _ (List.Mem.head _))))), (List.forall_mem_cons.mpr ⟨(List.Mem.tail _ (List.Mem.tail _ (List.Mem.tail _ (List.Mem.tail _ (List.Mem.tail _ (List.Mem.head _)))))), (List.forall_mem_cons.mpr ⟨(List.Mem.tail _ (List.Mem.tail _ (List.Mem.tail _ (List.Mem.tail _ (List.Mem.tail _ (List.Mem.tail _ (List.Mem.head _))))))), (List.forall_mem_cons.mpr ⟨(List.Mem.head _), (fun _ h => by cases h)⟩)⟩)⟩)⟩)⟩) ?_
            exact ih22  (y22_4 + 1) I128a A128a B128a C128a M127 hR128a ⟨by omega, by omega⟩ (show c_bz I A I128a A128a p q (I 2503) by exact bx137) (show (0 ≤ (I128a 1035) ∧ (I128a 1035) ≤ 10000) ∧ (I128a 200) = (I 200) ∧ (I128a 202) = (I 202) by (repeat' apply And.intro) <;> first | assumption | omega) (show c_Stq A128a j p q (I 2503) (I128a 2503) (y22_4 + 1) by first | exact s138 | (have sx := s138; rw [show ((I_22 2503) - 1) = (I128a 2503) by omega] at sx; exact sx)) (show 0 ≤ (y22_4 + 1) ∧ (y22_4 + 1) ≤ 6000 ∧ (I 2503) ≤ (I128a 2503) ∧ (I128a 2503) ≤ (I 2503) + 1 + (y22_4 + 1) by omega) (show 6000 - (y22_4 + 1) < (fu22 : Int) by omega)
  refine w_ls (ls := [(0, .ref 39), (1, .int (Int32.ofInt (n))), (2, .int (Int32.ofInt (x))), (3, .int (Int32.ofInt ((I 2503)))), (4, .int (Int32.ofInt (0)))]) (show List.Nodup [0, 1, 2, 3, 4] by decide) (show List.Nodup [4, 3, 0, 1, 2] by decide) (List.forall_mem_cons.mpr ⟨(List.Mem.tail _ (List.Mem.tail _ (List.Mem.head _))), (List.forall_mem_cons.mpr ⟨(List.Mem.tail _ (List.Mem.tail _ (List.Mem.tail _ (List.Mem.head _)))), (List.forall_mem_cons.mpr ⟨(List.Mem.tail _ (List.Mem.tail _ (List.Mem.tail _ (List.Mem.tail _ (List.Mem.head _))))), (List.forall_mem_cons.mpr ⟨(List.Mem.tail _ (List.Mem.head _)), (List.forall_mem_cons.mpr ⟨(List.Mem.head _), (fun _ h => by cases h)⟩)⟩)⟩)⟩)⟩) ?_
  exact lp22 ((6000 - 0 : Int).toNat + 1)  (0) I19a A19a B19a C19a M18 hR19a ⟨by omega, by omega⟩ (show c_bz I A I19a A19a p q (I 2503) by exact bx29) (show (0 ≤ (I19a 1035) ∧ (I19a 1035) ≤ 10000) ∧ (I19a 200) = (I 200) ∧ (I19a 202) = (I 202) by (repeat' apply And.intro) <;> first | assumption | omega) (show c_Stq A19a j p q (I 2503) (I19a 2503) (0 : Int) by first | exact s16 | (have sx := s16; rw [show (I19a 2503) = (I19a 2503) by omega] at sx; exact sx)) (show 0 ≤ (0 : Int) ∧ (0 : Int) ≤ 6000 ∧ (I 2503) ≤ (I19a 2503) ∧ (I19a 2503) ≤ (I 2503) + 1 + (0 : Int) by omega) (show 6000 - 0 < (((6000 - 0 : Int).toNat + 1 : Nat) : Int) by omega)
