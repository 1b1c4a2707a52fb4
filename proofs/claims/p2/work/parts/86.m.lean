/-! BUILDER of the class: operations, the loop. -/
theorem c_Stq_fr {A A' : Nat → Int → Int} {i : Nat} {P Q base w t : Int} (h : c_Stq A i P Q base w t) (ek : c_ke A A') (hf : c_fb A A' 0 0) {w' : Int} (hw : c_wk A A' w') (hm : w ≤ w') : c_Stq A' i P Q base w t := by
  obtain ⟨k, x, y, c, h2, h3, h4⟩ := h
  exact ⟨k, x, y, c, c_Stk_fr2 h2 ek hf hw (by omega) (Or.inl (Int.le_refl _)), h3, h4⟩
def cb_operations_Q (fr : Nat → Bool) (X : Nat → Option (q_C (Nat → Int32))) (u l : Nat) (I : Nat → Int) (A : Nat → Int → Int) (B C : Nat → Nat) (M : w_M) (n : Int) (x : Int) (i : Nat) (p q : Int) : w_X → w_M → Prop := fun r M' => (∃ (I' : Nat → Int) (A' : Nat → Int → Int) (B' C' : Nat → Nat), (r = .inl none) ∧ (w_Rep w_TC fr X u l I' A' B' C' M') ∧ (c_bz I A I' A' p q (I 2503)) ∧ ((I' 2503) = (I 2503) ∧ (0 ≤ (I' 1035) ∧ (I' 1035) ≤ 10000) ∧ (I' 200) = (I 200) ∧ (I' 202) = (I 202)))
set_option maxHeartbeats 100000000 in
set_option maxRecDepth 100000 in
theorem cb_operations {L : Nat} {xs : Nat → Int32} {d : Nat} {fr : Nat → Bool} {X : Nat → Option (q_C (Nat → Int32))} {u l : Nat} {I : Nat → Int} {A : Nat → Int → Int} {B C : Nat → Nat} {M : w_M} (hB0 : c_BALL L xs d) (n : Int) (x : Int) (i : Nat) (p q : Int) (hR : w_Rep w_TC fr X u l I A B C M) (hd : 8 * i + 3 ≤ d) (r_n : w_in n) (r_x : w_in x) (hKI : 0 ≤ (I 1035) ∧ (I 1035) ≤ 10000) (hKS : c_ks A) (hNM : 36 ≤ (I 200) ∧ (I 200) ≤ 419 ∧ 0 ≤ (I 202) ∧ (I 202) ≤ 24) (hLN : ∀ i, (A 5) i ≤ 24) (hW0 : 0 ≤ (I 2503)) (hWB : (I 2503) + 7000 * (i : Int) ≤ 1000000) (hW : c_W A i n p q) (hk : (A 27) n = 8 ∨ (A 27) n = 9) (hpq : 0 ≤ p ∧ q ≤ 3001) : w_W (z_P L xs) d 170 (0, [(0, .ref 39), (1, .int (Int32.ofInt (n))), (2, .int (Int32.ofInt (x)))], [], M) (cb_operations_Q fr X u l I A B C M n x i p q) := by
  obtain ⟨ra_n, rb_n⟩ := r_n
  obtain ⟨ra_x, rb_x⟩ := r_x
  obtain ⟨d, rfl⟩ : ∃ d0, d = d0 + 1 := ⟨d - 1, by omega⟩
  obtain ⟨nb1, nb2⟩ := c_W_in hW
  obtain ⟨j, hj⟩ := c_W_succ hW
  have hW1 : c_W A (j + 1) n p q := by rw [← hj]; exact hW
  have hO : c_OpA A j n p q := hW1.2.2.k8 hk
  refine w_adv (n := 1) (F' := (1, [(0, .ref 39), (1, .int (Int32.ofInt (n))), (2, .int (Int32.ofInt (x)))], [.ref 39], M)) rfl ?_
  refine w_gf (v := .int (Int32.ofInt ((I 2503)))) hR rfl rfl rfl rfl ?_
  obtain ⟨r1, r2⟩ : -2147483648 ≤ (I 2503) ∧ (I 2503) ≤ 2147483647 := hR.ri 2503
  refine w_adv (n := 2) (F' := (6, [(3, .int (Int32.ofInt ((I 2503)))), (0, .ref 39), (1, .int (Int32.ofInt (n))), (2, .int (Int32.ofInt (x)))], [.ref 39], M)) rfl ?_
  refine w_gf (v := .ref 26) hR rfl rfl rfl rfl ?_
  refine w_adv (n := 2) (F' := (11, [(3, .int (Int32.ofInt ((I 2503)))), (0, .ref 39), (1, .int (Int32.ofInt (n))), (2, .int (Int32.ofInt (x)))], [.int (Int32.ofInt (x)), .int (Int32.ofInt (n)), .ref 26], M)) rfl ?_
  refine w_call (cm := 160) (as := [(0, .ref 26), (1, .int (Int32.ofInt (n))), (2, .int (Int32.ofInt (x)))]) (rest := []) (o := some (8, 26)) rfl (w_fitR hR rfl) (c_tsv (n) (x) hR (show 2 ≤ d by omega) ⟨by omega, by omega⟩ ⟨by omega, by omega⟩ (show 0 ≤ (I 1035) ∧ (I 1035) ≤ 10000 by (repeat' apply And.intro) <;> first | assumption | omega) (show 0 ≤ (I 2503) by omega)) (fun r3 M4 q5 => ?_)
  rcases q5 with ⟨I5a, A5a, B5a, C5a, e6, hR5a, f7, f8⟩
  rw [e6]
  replace hR5a : w_Rep w_TC fr X u l I5a A5a B5a C5a M4 := hR5a
  replace f7 : c_bz I A I5a A5a 0 0 (I 2503) := f7
  replace f8 : (I5a 2503) = (I 2503) ∧ (0 ≤ (I5a 1035) ∧ (I5a 1035) ≤ 10000) ∧ (I5a 200) = (I 200) ∧ (I5a 202) = (I 202) := f8
  obtain ⟨n9, ⟨n10, n11⟩, n12, n13⟩ := id f8
  clear f8
  have bx14 : c_bz I A I5a A5a p q (I 2503) := c_bz_trans (show c_bz I A I A p q (I 2503) from c_bz_refl) f7 (Int.le_refl _) (Int.le_refl _) (show p ≤ 0 ∨ 0 ≤ 0 by omega) (show 0 ≤ q ∨ 0 ≤ 0 by omega) (Int.le_refl _) (show (I 2503) ≤ (I 2503) by omega)
  have k15 : c_OpA A5a j n p q := c_OpA_agr hO (c_bz_r f7 (show q ≤ 0 ∨ 0 ≤ p ∨ 0 ≤ 0 by omega))
  show w_W _ _ _ (14, [(3, .int (Int32.ofInt ((I 2503)))), (0, .ref 39), (1, .int (Int32.ofInt (n))), (2, .int (Int32.ofInt (x)))], [], M4) _
  refine w_adv (n := 2) (F' := (16, [(3, .int (Int32.ofInt ((I 2503)))), (0, .ref 39), (1, .int (Int32.ofInt (n))), (2, .int (Int32.ofInt (x)))], [.int (Int32.ofInt (n)), .ref 39], M4)) rfl ?_
  refine w_call (cm := 171) (as := [(0, .ref 39), (1, .int (Int32.ofInt (n)))]) (rest := []) (o := some (1, 39)) rfl (w_fitR hR5a rfl) (c_await (n) hR5a (show 1 ≤ d by omega) ⟨by omega, by omega⟩ (show 0 ≤ (I5a 1035) ∧ (I5a 1035) ≤ 10000 by (repeat' apply And.intro) <;> first | assumption | omega) (show 0 ≤ (I5a 2503) ∧ (I5a 2503) ≤ 2000000 by omega)) (fun r16 M17 q18 => ?_)
  rcases q18 with ⟨I18a, A18a, B18a, C18a, e19, hR18a, f20, f21, f22⟩
  rw [e19]
  replace hR18a : w_Rep w_TC fr X u l I18a A18a B18a C18a M17 := hR18a
  replace f20 : c_bz I5a A5a I18a A18a 0 0 (I5a 2503) := f20
  replace f21 : (I18a 2503) = (I5a 2503) + 1 ∧ (0 ≤ (I18a 1035) ∧ (I18a 1035) ≤ 10000) ∧ (I18a 200) = (I5a 200) ∧ (I18a 202) = (I5a 202) := f21
  obtain ⟨n23, ⟨n24, n25⟩, n26, n27⟩ := id f21
  clear f21
  replace f22 : c_awt A5a A18a (I5a 2503) n := f22
  have bx28 : c_bz I A I18a A18a p q (I 2503) := c_bz_trans (show c_bz I A I5a A5a p q (I 2503) from bx14) f20 (Int.le_refl _) (Int.le_refl _) (Or.inr (Int.le_refl _)) (Or.inr (Int.le_refl _)) (Int.le_refl _) (show (I 2503) ≤ (I5a 2503) by omega)
  have k29 : c_OpA A18a j n p q := c_OpA_agr k15 (c_bz_r f20 (show q ≤ 0 ∨ 0 ≤ p ∨ 0 ≤ 0 by omega))
  have s16 : c_Stq A18a j p q (I 2503) (I18a 2503) 0 := by rw [show (I18a 2503) = (I 2503) + 1 by omega]; exact c_Stq_one k15 (by rw [(c_bz_ke (show c_bz I A I5a A5a p q (I 2503) from bx14)).1]; exact hk) (by omega) (by omega) (by omega) (by rw [show (I 2503) = (I5a 2503) by omega]; exact f22)
  show w_W _ _ _ (19, [(3, .int (Int32.ofInt ((I 2503)))), (0, .ref 39), (1, .int (Int32.ofInt (n))), (2, .int (Int32.ofInt (x)))], [], M17) _
  refine w_adv (n := 2) (F' := (22, [(4, .int (Int32.ofInt (0))), (3, .int (Int32.ofInt ((I 2503)))), (0, .ref 39), (1, .int (Int32.ofInt (n))), (2, .int (Int32.ofInt (x)))], [], M17)) rfl ?_
  have lp22 : ∀ fu22 : Nat, ∀ (y22_4 : Int) (I_22 : Nat → Int) (A_22 : Nat → Int → Int) (B_22 C_22 : Nat → Nat) (M_22 : w_M) (hR_22 : w_Rep w_TC fr X u l I_22 A_22 B_22 C_22 M_22), w_in y22_4 → c_bz I A I_22 A_22 p q (I 2503) → (0 ≤ (I_22 1035) ∧ (I_22 1035) ≤ 10000) ∧ (I_22 200) = (I 200) ∧ (I_22 202) = (I 202) → c_Stq A_22 j p q (I 2503) (I_22 2503) y22_4 → 0 ≤ y22_4 ∧ y22_4 ≤ 6000 ∧ (I 2503) ≤ (I_22 2503) ∧ (I_22 2503) ≤ (I 2503) + 1 + y22_4 → 6000 - y22_4 < (fu22 : Int) → w_W (z_P L xs) (d + 1) 170 (22, [(0, .ref 39), (1, .int (Int32.ofInt (n))), (2, .int (Int32.ofInt (x))), (3, .int (Int32.ofInt ((I 2503)))), (4, .int (Int32.ofInt (y22_4)))], [], M_22) (cb_operations_Q fr X u l I A B C M n x i p q) := by
    intro fu22
    induction fu22 with
    | zero =>
      intro y22_4 I_22 A_22 B_22 C_22 M_22 hR_22 ⟨ra_y22_4, rb_y22_4⟩ hi22_0 hi22_1 hi22_2 hi22_3 hn22
      exfalso
      omega
    | succ fu22 ih22 =>
      intro y22_4 I_22 A_22 B_22 C_22 M_22 hR_22 ⟨ra_y22_4, rb_y22_4⟩ hi22_0 hi22_1 hi22_2 hi22_3 hn22
      refine w_adv (n := 2) (F' := (27, [(0, .ref 39), (1, .int (Int32.ofInt (n))), (2, .int (Int32.ofInt (x))), (3, .int (Int32.ofInt ((I 2503)))), (4, .int (Int32.ofInt (y22_4)))], [.int (Int32.ofInt (6000)), .int (Int32.ofInt (y22_4))], M_22)) rfl ?_
      refine w_br2 (a := y22_4) (b := 6000) rfl rfl ⟨by omega, by omega⟩ ⟨by omega, by omega⟩ (fun h30 => ?_) (fun h30 => ?_)
      · have h30 : y22_4 ≥ 6000 := h30
        show w_W _ _ _ (135, [(0, .ref 39), (1, .int (Int32.ofInt (n))), (2, .int (Int32.ofInt (x))), (3, .int (Int32.ofInt ((I 2503)))), (4, .int (Int32.ofInt (y22_4)))], [], M_22) _
        have hbw : (I_22 2503) = (I 2503) := c_Stq_end hi22_2 (by omega)
        refine w_fin (r := .inl none) (M' := M_22) rfl ?_
        exact ⟨I_22, A_22, B_22, C_22, rfl, hR_22, (show c_bz I A I_22 A_22 p q (I 2503) by exact hi22_0), (show (I_22 2503) = (I 2503) ∧ (0 ≤ (I_22 1035) ∧ (I_22 1035) ≤ 10000) ∧ (I_22 200) = (I 200) ∧ (I_22 202) = (I 202) by (repeat' apply And.intro) <;> first | assumption | omega)⟩
      · have h30 : ¬ (y22_4 ≥ 6000) := h30
        show w_W _ _ _ (30, [(0, .ref 39), (1, .int (Int32.ofInt (n))), (2, .int (Int32.ofInt (x))), (3, .int (Int32.ofInt ((I 2503)))), (4, .int (Int32.ofInt (y22_4)))], [], M_22) _
        refine w_adv (n := 1) (F' := (31, [(0, .ref 39), (1, .int (Int32.ofInt (n))), (2, .int (Int32.ofInt (x))), (3, .int (Int32.ofInt ((I 2503)))), (4, .int (Int32.ofInt (y22_4)))], [.ref 39], M_22)) rfl ?_
        refine w_gf (v := .int (Int32.ofInt ((I_22 2503)))) hR_22 rfl rfl rfl rfl ?_
        obtain ⟨r31, r32⟩ : -2147483648 ≤ (I_22 2503) ∧ (I_22 2503) ≤ 2147483647 := hR_22.ri 2503
        refine w_adv (n := 1) (F' := (35, [(0, .ref 39), (1, .int (Int32.ofInt (n))), (2, .int (Int32.ofInt (x))), (3, .int (Int32.ofInt ((I 2503)))), (4, .int (Int32.ofInt (y22_4)))], [.int (Int32.ofInt ((I 2503))), .int (Int32.ofInt ((I_22 2503)))], M_22)) rfl ?_
        refine w_br2 (a := (I_22 2503)) (b := (I 2503)) rfl rfl ⟨by omega, by omega⟩ ⟨by omega, by omega⟩ (fun h33 => ?_) (fun h33 => ?_)
        · have h33 : (I_22 2503) ≤ (I 2503) := h33
          show w_W _ _ _ (135, [(0, .ref 39), (1, .int (Int32.ofInt (n))), (2, .int (Int32.ofInt (x))), (3, .int (Int32.ofInt ((I 2503)))), (4, .int (Int32.ofInt (y22_4)))], [], M_22) _
          have hbw : (I_22 2503) = (I 2503) := c_Stq_end hi22_2 (by omega)
          refine w_fin (r := .inl none) (M' := M_22) rfl ?_
          exact ⟨I_22, A_22, B_22, C_22, rfl, hR_22, (show c_bz I A I_22 A_22 p q (I 2503) by exact hi22_0), (show (I_22 2503) = (I 2503) ∧ (0 ≤ (I_22 1035) ∧ (I_22 1035) ≤ 10000) ∧ (I_22 200) = (I 200) ∧ (I_22 202) = (I 202) by (repeat' apply And.intro) <;> first | assumption | omega)⟩
        · have h33 : ¬ ((I_22 2503) ≤ (I 2503)) := h33
          show w_W _ _ _ (38, [(0, .ref 39), (1, .int (Int32.ofInt (n))), (2, .int (Int32.ofInt (x))), (3, .int (Int32.ofInt ((I 2503)))), (4, .int (Int32.ofInt (y22_4)))], [], M_22) _
          refine w_adv (n := 1) (F' := (39, [(0, .ref 39), (1, .int (Int32.ofInt (n))), (2, .int (Int32.ofInt (x))), (3, .int (Int32.ofInt ((I 2503)))), (4, .int (Int32.ofInt (y22_4)))], [.ref 39], M_22)) rfl ?_
          refine w_gf (v := .ref 41) hR_22 rfl rfl rfl rfl ?_
          refine w_adv (n := 1) (F' := (43, [(0, .ref 39), (1, .int (Int32.ofInt (n))), (2, .int (Int32.ofInt (x))), (3, .int (Int32.ofInt ((I 2503)))), (4, .int (Int32.ofInt (y22_4)))], [.ref 39, .ref 41], M_22)) rfl ?_
          refine w_gf (v := .int (Int32.ofInt ((I_22 2503)))) hR_22 rfl rfl rfl rfl ?_
          refine w_adv (n := 1) (F' := (47, [(0, .ref 39), (1, .int (Int32.ofInt (n))), (2, .int (Int32.ofInt (x))), (3, .int (Int32.ofInt ((I 2503)))), (4, .int (Int32.ofInt (y22_4)))], [.int (Int32.ofInt (1)), .int (Int32.ofInt ((I_22 2503))), .ref 41], M_22)) rfl ?_
          refine w_sub rfl ?_
          refine w_call (cm := 21) (as := [(0, .ref 41), (1, .int (Int32.ofInt ((I_22 2503) - 1)))]) (rest := []) (o := none) rfl (trivial) (c_at ((I_22 2503) - 1) 41 1500 rfl (by decide) hR_22 ⟨by omega, by omega⟩) (fun r34 M35 q36 => ?_)
          rcases q36 with ⟨v37, e38, ⟨r39, r40⟩, e41, f42⟩
          rw [e38, e41]
          replace f42 : ((0 ≤ (I_22 2503) - 1 ∧ (I_22 2503) - 1 < (1500 : Int) ∧ v37 = (A_22 41) ((I_22 2503) - 1)) ∨ (¬ (0 ≤ (I_22 2503) - 1 ∧ (I_22 2503) - 1 < (1500 : Int)) ∧ v37 = -1)) := f42
          show w_W _ _ _ (51, [(0, .ref 39), (1, .int (Int32.ofInt (n))), (2, .int (Int32.ofInt (x))), (3, .int (Int32.ofInt ((I 2503)))), (4, .int (Int32.ofInt (y22_4)))], [.int (Int32.ofInt (v37))], M_22) _
          refine w_adv (n := 3) (F' := (56, [(5, .int (Int32.ofInt (v37))), (0, .ref 39), (1, .int (Int32.ofInt (n))), (2, .int (Int32.ofInt (x))), (3, .int (Int32.ofInt ((I 2503)))), (4, .int (Int32.ofInt (y22_4)))], [.int (Int32.ofInt (v37)), .ref 39], M_22)) rfl ?_
          refine w_call (cm := 172) (as := [(0, .ref 39), (1, .int (Int32.ofInt (v37)))]) (rest := []) (o := some (1, 39)) rfl (w_fitR hR_22 rfl) (c_nextOperand (v37) hR_22 (show 2 ≤ d by omega) ⟨by omega, by omega⟩ (show 0 ≤ (I_22 1035) ∧ (I_22 1035) ≤ 10000 by (repeat' apply And.intro) <;> first | assumption | omega) (show 1 ≤ (I_22 2503) ∧ (I_22 2503) ≤ 2000000 by omega)) (fun r43 M44 q45 => ?_)
          rcases q45 with ⟨v46, I45a, A45a, B45a, C45a, e47, ⟨r48, r49⟩, hR45a, f50, f51, f52⟩
          rw [e47]
          replace hR45a : w_Rep w_TC fr X u l I45a A45a B45a C45a M44 := hR45a
          replace f50 : c_bz I_22 A_22 I45a A45a 0 0 ((I_22 2503) - 1) := f50
          replace f51 : (I45a 2503) = (I_22 2503) ∧ (0 ≤ (I45a 1035) ∧ (I45a 1035) ≤ 10000) ∧ (I45a 200) = (I_22 200) ∧ (I45a 202) = (I_22 202) := f51
          obtain ⟨n53, ⟨n54, n55⟩, n56, n57⟩ := id f51
          clear f51
          replace f52 : c_nop A_22 A45a ((I_22 2503) - 1) v37 v46 := f52
          have bx58 : c_bz I A I45a A45a p q (I 2503) := c_bz_trans (show c_bz I A I_22 A_22 p q (I 2503) from hi22_0) f50 (Int.le_refl _) (Int.le_refl _) (Or.inr (Int.le_refl _)) (Or.inr (Int.le_refl _)) (Int.le_refl _) (show (I 2503) ≤ (I_22 2503) - 1 by omega)
          have sn := c_Stq_next hi22_2 (show (I 2503) < (I_22 2503) by omega) (show 0 ≤ p by omega) (show q ≤ 3016 by omega) (fun hx => by omega) f52
          show w_W _ _ _ (59, [(5, .int (Int32.ofInt (v37))), (0, .ref 39), (1, .int (Int32.ofInt (n))), (2, .int (Int32.ofInt (x))), (3, .int (Int32.ofInt ((I 2503)))), (4, .int (Int32.ofInt (y22_4)))], [.int (Int32.ofInt (v46))], M44) _
          refine w_adv (n := 3) (F' := (64, [(6, .int (Int32.ofInt (v46))), (5, .int (Int32.ofInt (v37))), (0, .ref 39), (1, .int (Int32.ofInt (n))), (2, .int (Int32.ofInt (x))), (3, .int (Int32.ofInt ((I 2503)))), (4, .int (Int32.ofInt (y22_4)))], [.int (Int32.ofInt ((-1))), .int (Int32.ofInt (v46))], M44)) rfl ?_
          refine w_br2 (a := v46) (b := (-1)) rfl rfl ⟨by omega, by omega⟩ ⟨by omega, by omega⟩ (fun h59 => ?_) (fun h59 => ?_)
          · have h59 : ¬ v46 = (-1) := h59
            show w_W _ _ _ (86, [(6, .int (Int32.ofInt (v46))), (5, .int (Int32.ofInt (v37))), (0, .ref 39), (1, .int (Int32.ofInt (n))), (2, .int (Int32.ofInt (x))), (3, .int (Int32.ofInt ((I 2503)))), (4, .int (Int32.ofInt (y22_4)))], [], M44) _
            obtain ⟨k0, x0, y0, c0, so1, so2, so3, so4, so5, so6, so7⟩ := (sn.resolve_left (fun hx => by have := hx.1; omega)).2
            obtain ⟨so8, so9⟩ := c_OpA_in so3
            refine w_adv (n := 2) (F' := (89, [(6, .int (Int32.ofInt (v46))), (5, .int (Int32.ofInt (v37))), (0, .ref 39), (1, .int (Int32.ofInt (n))), (2, .int (Int32.ofInt (x))), (3, .int (Int32.ofInt ((I 2503)))), (4, .int (Int32.ofInt (y22_4)))], [.int (Int32.ofInt (v46)), .ref 39], M44)) rfl ?_
            refine w_call (cm := 158) (as := [(0, .ref 39), (1, .int (Int32.ofInt (v46)))]) (rest := []) (o := some (1, 39)) rfl (w_fitR hR45a rfl) (c_target (v46) hR45a (show 4 ≤ d by omega) ⟨by omega, by omega⟩ (show 0 ≤ (I45a 1035) ∧ (I45a 1035) ≤ 10000 by (repeat' apply And.intro) <;> first | assumption | omega) (show 0 ≤ (I45a 2503) by omega)) (fun r60 M61 q62 => ?_)
            rcases q62 with ⟨v63, I62a, A62a, B62a, C62a, e64, ⟨r65, r66⟩, hR62a, f67, f68⟩
            rw [e64]
            replace hR62a : w_Rep w_TC fr X u l I62a A62a B62a C62a M61 := hR62a
            replace f67 : c_bz I45a A45a I62a A62a 0 0 (I45a 2503) := f67
            replace f68 : (I62a 2503) = (I45a 2503) ∧ (0 ≤ (I62a 1035) ∧ (I62a 1035) ≤ 10000) ∧ (I62a 200) = (I45a 200) ∧ (I62a 202) = (I45a 202) := f68
            obtain ⟨n69, ⟨n70, n71⟩, n72, n73⟩ := id f68
            clear f68
            have bx74 : c_bz I A I62a A62a p q (I 2503) := c_bz_trans (show c_bz I A I45a A45a p q (I 2503) from bx58) f67 (Int.le_refl _) (Int.le_refl _) (show p ≤ 0 ∨ 0 ≤ 0 by omega) (show 0 ≤ q ∨ 0 ≤ 0 by omega) (Int.le_refl _) (show (I 2503) ≤ (I45a 2503) by omega)
            have k75 : c_OpA A62a j v46 x0 y0 := c_OpA_agr so3 (c_bz_r f67 (show y0 ≤ 0 ∨ 0 ≤ x0 ∨ 0 ≤ 0 by omega))
            have s76 : c_Stk A62a j p q k0 ((I_22 2503) - 1) x0 y0 c0 := c_Stk_fr2 so4 (c_bz_ke f67) f67.2.2.1 f67.2.2.2.1 (by omega) (by omega)
            show w_W _ _ _ (92, [(6, .int (Int32.ofInt (v46))), (5, .int (Int32.ofInt (v37))), (0, .ref 39), (1, .int (Int32.ofInt (n))), (2, .int (Int32.ofInt (x))), (3, .int (Int32.ofInt ((I 2503)))), (4, .int (Int32.ofInt (y22_4)))], [.int (Int32.ofInt (v63))], M61) _
            refine w_adv (n := 3) (F' := (97, [(7, .int (Int32.ofInt (v63))), (6, .int (Int32.ofInt (v46))), (5, .int (Int32.ofInt (v37))), (0, .ref 39), (1, .int (Int32.ofInt (n))), (2, .int (Int32.ofInt (x))), (3, .int (Int32.ofInt ((I 2503)))), (4, .int (Int32.ofInt (y22_4)))], [.int (Int32.ofInt (v46)), .ref 39], M61)) rfl ?_
            refine w_call (cm := 175) (as := [(0, .ref 39), (1, .int (Int32.ofInt (v46)))]) (rest := []) (o := some (1, 39)) rfl (w_fitR hR62a rfl) (c_isOperation (v46) hR62a (show 2 ≤ d by omega) ⟨by omega, by omega⟩) (fun r77 M78 q79 => ?_)
            rcases q79 with ⟨e80, e81, f82⟩ | ⟨e83, e84, f85⟩
            · rw [e80, e81]
              replace f82 : c_is8 A62a v46 := f82
              skip
              show w_W _ _ _ (100, [(7, .int (Int32.ofInt (v63))), (6, .int (Int32.ofInt (v46))), (5, .int (Int32.ofInt (v37))), (0, .ref 39), (1, .int (Int32.ofInt (n))), (2, .int (Int32.ofInt (x))), (3, .int (Int32.ofInt ((I 2503)))), (4, .int (Int32.ofInt (y22_4)))], [.int (Int32.ofInt (1))], M61) _
              refine w_adv (n := 3) (F' := (106, [(7, .int (Int32.ofInt (v63))), (6, .int (Int32.ofInt (v46))), (5, .int (Int32.ofInt (v37))), (0, .ref 39), (1, .int (Int32.ofInt (n))), (2, .int (Int32.ofInt (x))), (3, .int (Int32.ofInt ((I 2503)))), (4, .int (Int32.ofInt (y22_4)))], [.int (Int32.ofInt (v46)), .ref 39], M61)) rfl ?_
              refine w_call (cm := 171) (as := [(0, .ref 39), (1, .int (Int32.ofInt (v46)))]) (rest := []) (o := some (1, 39)) rfl (w_fitR hR62a rfl) (c_await (v46) hR62a (show 1 ≤ d by omega) ⟨by omega, by omega⟩ (show 0 ≤ (I62a 1035) ∧ (I62a 1035) ≤ 10000 by (repeat' apply And.intro) <;> first | assumption | omega) (show 0 ≤ (I62a 2503) ∧ (I62a 2503) ≤ 2000000 by omega)) (fun r86 M87 q88 => ?_)
              rcases q88 with ⟨I88a, A88a, B88a, C88a, e89, hR88a, f90, f91, f92⟩
              rw [e89]
              replace hR88a : w_Rep w_TC fr X u l I88a A88a B88a C88a M87 := hR88a
              replace f90 : c_bz I62a A62a I88a A88a 0 0 (I62a 2503) := f90
              replace f91 : (I88a 2503) = (I62a 2503) + 1 ∧ (0 ≤ (I88a 1035) ∧ (I88a 1035) ≤ 10000) ∧ (I88a 200) = (I62a 200) ∧ (I88a 202) = (I62a 202) := f91
              obtain ⟨n93, ⟨n94, n95⟩, n96, n97⟩ := id f91
              clear f91
              replace f92 : c_awt A62a A88a (I62a 2503) v46 := f92
              have bx98 : c_bz I A I88a A88a p q (I 2503) := c_bz_trans (show c_bz I A I62a A62a p q (I 2503) from bx74) f90 (Int.le_refl _) (Int.le_refl _) (Or.inr (Int.le_refl _)) (Or.inr (Int.le_refl _)) (Int.le_refl _) (show (I 2503) ≤ (I62a 2503) by omega)
              have k99 : c_OpA A88a j v46 x0 y0 := c_OpA_agr k75 (c_bz_r f90 (show y0 ≤ 0 ∨ 0 ≤ x0 ∨ 0 ≤ 0 by omega))
              have s100 : c_Stk A88a j p q k0 ((I_22 2503) - 1) x0 y0 c0 := c_Stk_fr2 s76 (c_bz_ke f90) f90.2.2.1 f90.2.2.2.1 (by omega) (by omega)
              have s106 : c_Stq A88a j p q (I 2503) (I88a 2503) (y22_4 + 1) := by rw [show (I88a 2503) = (I62a 2503) + 1 by omega]; exact c_Stq_push (by rw [show (I62a 2503) - 1 = ((I_22 2503) - 1) by omega]; exact s76) k75 (f82 ⟨by omega, by omega⟩) (by omega) (by omega) (by omega) f92
              show w_W _ _ _ (109, [(7, .int (Int32.ofInt (v63))), (6, .int (Int32.ofInt (v46))), (5, .int (Int32.ofInt (v37))), (0, .ref 39), (1, .int (Int32.ofInt (n))), (2, .int (Int32.ofInt (x))), (3, .int (Int32.ofInt ((I 2503)))), (4, .int (Int32.ofInt (y22_4)))], [], M87) _
              refine w_adv (n := 1) (F' := (129, [(7, .int (Int32.ofInt (v63))), (6, .int (Int32.ofInt (v46))), (5, .int (Int32.ofInt (v37))), (0, .ref 39), (1, .int (Int32.ofInt (n))), (2, .int (Int32.ofInt (x))), (3, .int (Int32.ofInt ((I 2503)))), (4, .int (Int32.ofInt (y22_4)))], [], M87)) rfl ?_
              refine w_inc (nL := 8) (a := y22_4) rfl rfl rfl (by decide) ?_
              refine w_adv (n := 1) (F' := (22, [(4, .int (Int32.ofInt (y22_4 + 1))), (7, .int (Int32.ofInt (v63))), (6, .int (Int32.ofInt (v46))), (5, .int (Int32.ofInt (v37))), (0, .ref 39), (1, .int (Int32.ofInt (n))), (2, .int (Int32.ofInt (x))), (3, .int (Int32.ofInt ((I 2503))))], [], M87)) rfl ?_
              refine w_ls (ls := [(0, .ref 39), (1, .int (Int32.ofInt (n))), (2, .int (Int32.ofInt (x))), (3, .int (Int32.ofInt ((I 2503)))), (4, .int (Int32.ofInt (y22_4 + 1)))]) (show List.Nodup [0, 1, 2, 3, 4] by decide) (show List.Nodup [4, 7, 6, 5, 0, 1, 2, 3] by decide) (List.forall_mem_cons.mpr ⟨(List.Mem.tail _ (List.Mem.tail _ (List.Mem.tail _ (List.Mem.tail _ (List.Mem.head _))))), (List.forall_mem_cons.mpr ⟨(List.Mem.tail _ (List.Mem.tail _ (List.Mem.tail _ (List.Mem.tail _ (List.Mem.tail _ (List.Mem.head _)))))), (List.forall_mem_cons.mpr ⟨(List.Mem.tail _ (List.Mem.tail _ (List.Mem.tail _ (List.Mem.tail _ (List.Mem.tail _ (List.Mem.tail _ (List.Mem.head _))))))), (List.forall_mem_cons.mpr ⟨(List.Mem.tail _ (List.Mem.tail _ (List.Mem.tail _ (List.Mem.tail _ (List.Mem.tail _ (List.Mem.tail _ (List.Mem.tail _ (List.Mem.head _)))))))), (List.forall_mem_cons.mpr ⟨(List.Mem.head _), (fun _ h => by cases h)⟩)⟩)⟩)⟩)⟩) ?_
              exact ih22  (y22_4 + 1) I88a A88a B88a C88a M87 hR88a ⟨by omega, by omega⟩ (show c_bz I A I88a A88a p q (I 2503) by exact bx98) (show (0 ≤ (I88a 1035) ∧ (I88a 1035) ≤ 10000) ∧ (I88a 200) = (I 200) ∧ (I88a 202) = (I 202) by (repeat' apply And.intro) <;> first | assumption | omega) (show c_Stq A88a j p q (I 2503) (I88a 2503) (y22_4 + 1) by first | exact s106 | (have sx := s106; rw [show (I88a 2503) = (I88a 2503) by omega] at sx; exact sx)) (show 0 ≤ (y22_4 + 1) ∧ (y22_4 + 1) ≤ 6000 ∧ (I 2503) ≤ (I88a 2503) ∧ (I88a 2503) ≤ (I 2503) + 1 + (y22_4 + 1) by omega) (show 6000 - (y22_4 + 1) < (fu22 : Int) by omega)
            · rw [e83, e84]
              replace f85 : c_no8 A62a v46 := f85
              skip
              show w_W _ _ _ (100, [(7, .int (Int32.ofInt (v63))), (6, .int (Int32.ofInt (v46))), (5, .int (Int32.ofInt (v37))), (0, .ref 39), (1, .int (Int32.ofInt (n))), (2, .int (Int32.ofInt (x))), (3, .int (Int32.ofInt ((I 2503)))), (4, .int (Int32.ofInt (y22_4)))], [.int (Int32.ofInt (0))], M61) _
              refine w_adv (n := 1) (F' := (112, [(7, .int (Int32.ofInt (v63))), (6, .int (Int32.ofInt (v46))), (5, .int (Int32.ofInt (v37))), (0, .ref 39), (1, .int (Int32.ofInt (n))), (2, .int (Int32.ofInt (x))), (3, .int (Int32.ofInt ((I 2503)))), (4, .int (Int32.ofInt (y22_4)))], [], M61)) rfl ?_
              have ow : c_W A62a j v46 x0 y0 := c_OpA_no k75 (f85 ⟨by omega, by omega⟩)
              refine w_adv (n := 2) (F' := (115, [(7, .int (Int32.ofInt (v63))), (6, .int (Int32.ofInt (v46))), (5, .int (Int32.ofInt (v37))), (0, .ref 39), (1, .int (Int32.ofInt (n))), (2, .int (Int32.ofInt (x))), (3, .int (Int32.ofInt ((I 2503)))), (4, .int (Int32.ofInt (y22_4)))], [.int (Int32.ofInt (v46)), .ref 39], M61)) rfl ?_
              refine w_call (cm := 154) (as := [(0, .ref 39), (1, .int (Int32.ofInt (v46)))]) (rest := []) (o := some (1, 39)) rfl (w_fitR hR62a rfl) (c_isVariable (v46) hR62a (show 2 ≤ d by omega) ⟨by omega, by omega⟩) (fun r101 M102 q103 => ?_)
              rcases q103 with ⟨e104, e105⟩ | ⟨e106, e107⟩
              · rw [e104, e105]
                show w_W _ _ _ (118, [(7, .int (Int32.ofInt (v63))), (6, .int (Int32.ofInt (v46))), (5, .int (Int32.ofInt (v37))), (0, .ref 39), (1, .int (Int32.ofInt (n))), (2, .int (Int32.ofInt (x))), (3, .int (Int32.ofInt ((I 2503)))), (4, .int (Int32.ofInt (y22_4)))], [.int (Int32.ofInt (1))], M61) _
                refine w_adv (n := 1) (F' := (129, [(7, .int (Int32.ofInt (v63))), (6, .int (Int32.ofInt (v46))), (5, .int (Int32.ofInt (v37))), (0, .ref 39), (1, .int (Int32.ofInt (n))), (2, .int (Int32.ofInt (x))), (3, .int (Int32.ofInt ((I 2503)))), (4, .int (Int32.ofInt (y22_4)))], [], M61)) rfl ?_
                refine w_inc (nL := 8) (a := y22_4) rfl rfl rfl (by decide) ?_
                refine w_adv (n := 1) (F' := (22, [(4, .int (Int32.ofInt (y22_4 + 1))), (7, .int (Int32.ofInt (v63))), (6, .int (Int32.ofInt (v46))), (5, .int (Int32.ofInt (v37))), (0, .ref 39), (1, .int (Int32.ofInt (n))), (2, .int (Int32.ofInt (x))), (3, .int (Int32.ofInt ((I 2503))))], [], M61)) rfl ?_
                refine w_ls (ls := [(0, .ref 39), (1, .int (Int32.ofInt (n))), (2, .int (Int32.ofInt (x))), (3, .int (Int32.ofInt ((I 2503)))), (4, .int (Int32.ofInt (y22_4 + 1)))]) (show List.Nodup [0, 1, 2, 3, 4] by decide) (show List.Nodup [4, 7, 6, 5, 0, 1, 2, 3] by decide) (List.forall_mem_cons.mpr ⟨(List.Mem.tail _ (List.Mem.tail _ (List.Mem.tail _ (List.Mem.tail _ (List.Mem.head _))))), (List.forall_mem_cons.mpr ⟨(List.Mem.tail _ (List.Mem.tail _ (List.Mem.tail _ (List.Mem.tail _ (List.Mem.tail _ (List.Mem.head _)))))), (List.forall_mem_cons.mpr ⟨(List.Mem.tail _ (List.Mem.tail _ (List.Mem.tail _ (List.Mem.tail _ (List.Mem.tail _ (List.Mem.tail _ (List.Mem.head _))))))), (List.forall_mem_cons.mpr ⟨(List.Mem.tail _ (List.Mem.tail _ (List.Mem.tail _ (List.Mem.tail _ (List.Mem.tail _ (List.Mem.tail _ (List.Mem.tail _ (List.Mem.head _)))))))), (List.forall_mem_cons.mpr ⟨(List.Mem.head _), (fun _ h => by cases h)⟩)⟩)⟩)⟩)⟩) ?_
                exact ih22  (y22_4 + 1) I62a A62a B62a C62a M61 hR62a ⟨by omega, by omega⟩ (show c_bz I A I62a A62a p q (I 2503) by exact bx74) (show (0 ≤ (I62a 1035) ∧ (I62a 1035) ≤ 10000) ∧ (I62a 200) = (I 200) ∧ (I62a 202) = (I 202) by (repeat' apply And.intro) <;> first | assumption | omega) (show c_Stq A62a j p q (I 2503) (I62a 2503) (y22_4 + 1) by exact ⟨k0, x0, y0, c0, by rw [show (I62a 2503) - 1 = ((I_22 2503) - 1) by omega]; exact s76, by omega, by omega⟩) (show 0 ≤ (y22_4 + 1) ∧ (y22_4 + 1) ≤ 6000 ∧ (I 2503) ≤ (I62a 2503) ∧ (I62a 2503) ≤ (I 2503) + 1 + (y22_4 + 1) by omega) (show 6000 - (y22_4 + 1) < (fu22 : Int) by omega)
              · rw [e106, e107]
                show w_W _ _ _ (118, [(7, .int (Int32.ofInt (v63))), (6, .int (Int32.ofInt (v46))), (5, .int (Int32.ofInt (v37))), (0, .ref 39), (1, .int (Int32.ofInt (n))), (2, .int (Int32.ofInt (x))), (3, .int (Int32.ofInt ((I 2503)))), (4, .int (Int32.ofInt (y22_4)))], [.int (Int32.ofInt (0))], M61) _
                refine w_adv (n := 4) (F' := (126, [(7, .int (Int32.ofInt (v63))), (6, .int (Int32.ofInt (v46))), (5, .int (Int32.ofInt (v37))), (0, .ref 39), (1, .int (Int32.ofInt (n))), (2, .int (Int32.ofInt (x))), (3, .int (Int32.ofInt ((I 2503)))), (4, .int (Int32.ofInt (y22_4)))], [.int (Int32.ofInt (v63)), .int (Int32.ofInt (v46)), .ref 39], M61)) rfl ?_
                refine w_call (cm := 156) (as := [(0, .ref 39), (1, .int (Int32.ofInt (v46))), (2, .int (Int32.ofInt (v63)))]) (rest := []) (o := some (1, 39)) rfl (w_fitR hR62a rfl) ((hB0 d (Nat.lt_succ_self d)).1 (v46) (v63) (j) (x0) (y0) hR62a (show 8 * j + 4 ≤ d by omega) ⟨by omega, by omega⟩ ⟨by omega, by omega⟩ (show 0 ≤ (I62a 1035) ∧ (I62a 1035) ≤ 10000 by (repeat' apply And.intro) <;> first | assumption | omega) (show c_ks A62a by exact (show c_bz I A I62a A62a p q (I 2503) from bx74).2.2.2.2 hKS) (show 36 ≤ (I62a 200) ∧ (I62a 200) ≤ 419 ∧ 0 ≤ (I62a 202) ∧ (I62a 202) ≤ 24 by (repeat' apply And.intro) <;> first | assumption | omega) (show ∀ i, (A62a 5) i ≤ 24 by rw [show (A62a 5) = (A 5) from (show c_bz I A I62a A62a p q (I 2503) from bx74).2.1 5 rfl]; exact hLN) (show 0 ≤ (I62a 2503) by omega) (show (I62a 2503) + 7000 * (j : Int) ≤ 1000000 by first | assumption | omega) (show c_W A62a j v46 x0 y0 by exact ow) (show 0 ≤ x0 ∧ y0 ≤ 3001 by first | assumption | omega)) (fun r108 M109 q110 => ?_)
                rcases q110 with ⟨I110a, A110a, B110a, C110a, e111, hR110a, f112, f113⟩
                rw [e111]
                replace hR110a : w_Rep w_TC fr X u l I110a A110a B110a C110a M109 := hR110a
                replace f112 : c_bz I62a A62a I110a A110a x0 y0 (I62a 2503) := f112
                replace f113 : (I110a 2503) = (I62a 2503) ∧ (0 ≤ (I110a 1035) ∧ (I110a 1035) ≤ 10000) ∧ (I110a 200) = (I62a 200) ∧ (I110a 202) = (I62a 202) := f113
                obtain ⟨n114, ⟨n115, n116⟩, n117, n118⟩ := id f113
                clear f113
                have bx119 : c_bz I A I110a A110a p q (I 2503) := c_bz_trans (show c_bz I A I62a A62a p q (I 2503) from bx74) f112 (Int.le_refl _) (Int.le_refl _) (show p ≤ x0 ∨ y0 ≤ x0 by omega) (show y0 ≤ q ∨ y0 ≤ x0 by omega) (Int.le_refl _) (show (I 2503) ≤ (I62a 2503) by omega)
                have s120 : c_Stk A110a j p q k0 ((I_22 2503) - 1) x0 y0 c0 := c_Stk_fr2 s76 (c_bz_ke f112) f112.2.2.1 f112.2.2.2.1 (by omega) (by omega)
                show w_W _ _ _ (129, [(7, .int (Int32.ofInt (v63))), (6, .int (Int32.ofInt (v46))), (5, .int (Int32.ofInt (v37))), (0, .ref 39), (1, .int (Int32.ofInt (n))), (2, .int (Int32.ofInt (x))), (3, .int (Int32.ofInt ((I 2503)))), (4, .int (Int32.ofInt (y22_4)))], [], M109) _
                refine w_inc (nL := 8) (a := y22_4) rfl rfl rfl (by decide) ?_
                refine w_adv (n := 1) (F' := (22, [(4, .int (Int32.ofInt (y22_4 + 1))), (7, .int (Int32.ofInt (v63))), (6, .int (Int32.ofInt (v46))), (5, .int (Int32.ofInt (v37))), (0, .ref 39), (1, .int (Int32.ofInt (n))), (2, .int (Int32.ofInt (x))), (3, .int (Int32.ofInt ((I 2503))))], [], M109)) rfl ?_
                refine w_ls (ls := [(0, .ref 39), (1, .int (Int32.ofInt (n))), (2, .int (Int32.ofInt (x))), (3, .int (Int32.ofInt ((I 2503)))), (4, .int (Int32.ofInt (y22_4 + 1)))]) (show List.Nodup [0, 1, 2, 3, 4] by decide) (show List.Nodup [4, 7, 6, 5, 0, 1, 2, 3] by decide) (List.forall_mem_cons.mpr ⟨(List.Mem.tail _ (List.Mem.tail _ (List.Mem.tail _ (List.Mem.tail _ (List.Mem.head _))))), (List.forall_mem_cons.mpr ⟨(List.Mem.tail _ (List.Mem.tail _ (List.Mem.tail _ (List.Mem.tail _ (List.Mem.tail _ (List.Mem.head _)))))), (List.forall_mem_cons.mpr ⟨(List.Mem.tail _ (List.Mem.tail _ (List.Mem.tail _ (List.Mem.tail _ (List.Mem.tail _ (List.Mem.tail _ (List.Mem.head _))))))), (List.forall_mem_cons.mpr ⟨(List.Mem.tail _ (List.Mem.tail _ (List.Mem.tail _ (List.Mem.tail _ (List.Mem.tail _ (List.Mem.tail _ (List.Mem.tail _ (List.Mem.head _)))))))), (List.forall_mem_cons.mpr ⟨(List.Mem.head _), (fun _ h => by cases h)⟩)⟩)⟩)⟩)⟩) ?_
                exact ih22  (y22_4 + 1) I110a A110a B110a C110a M109 hR110a ⟨by omega, by omega⟩ (show c_bz I A I110a A110a p q (I 2503) by exact bx119) (show (0 ≤ (I110a 1035) ∧ (I110a 1035) ≤ 10000) ∧ (I110a 200) = (I 200) ∧ (I110a 202) = (I 202) by (repeat' apply And.intro) <;> first | assumption | omega) (show c_Stq A110a j p q (I 2503) (I110a 2503) (y22_4 + 1) by exact ⟨k0, x0, y0, c0, by rw [show (I110a 2503) - 1 = ((I_22 2503) - 1) by omega]; exact s120, by omega, by omega⟩) (show 0 ≤ (y22_4 + 1) ∧ (y22_4 + 1) ≤ 6000 ∧ (I 2503) ≤ (I110a 2503) ∧ (I110a 2503) ≤ (I 2503) + 1 + (y22_4 + 1) by omega) (show 6000 - (y22_4 + 1) < (fu22 : Int) by omega)
          · have h59 : ¬ (¬ v46 = (-1)) := h59
            show w_W _ _ _ (67, [(6, .int (Int32.ofInt (v46))), (5, .int (Int32.ofInt (v37))), (0, .ref 39), (1, .int (Int32.ofInt (n))), (2, .int (Int32.ofInt (x))), (3, .int (Int32.ofInt ((I 2503)))), (4, .int (Int32.ofInt (y22_4)))], [], M44) _
            have s67 : c_Stq A45a j p q (I 2503) ((I_22 2503) - 1) (y22_4 + 1) := (sn.resolve_right (fun hx => hx.1 (by omega))).2
            refine w_adv (n := 2) (F' := (69, [(6, .int (Int32.ofInt (v46))), (5, .int (Int32.ofInt (v37))), (0, .ref 39), (1, .int (Int32.ofInt (n))), (2, .int (Int32.ofInt (x))), (3, .int (Int32.ofInt ((I 2503)))), (4, .int (Int32.ofInt (y22_4)))], [.ref 39, .ref 39], M44)) rfl ?_
            refine w_gf (v := .int (Int32.ofInt ((I45a 2503)))) hR45a rfl rfl rfl rfl ?_
            obtain ⟨r121, r122⟩ : -2147483648 ≤ (I45a 2503) ∧ (I45a 2503) ≤ 2147483647 := hR45a.ri 2503
            refine w_adv (n := 1) (F' := (73, [(6, .int (Int32.ofInt (v46))), (5, .int (Int32.ofInt (v37))), (0, .ref 39), (1, .int (Int32.ofInt (n))), (2, .int (Int32.ofInt (x))), (3, .int (Int32.ofInt ((I 2503)))), (4, .int (Int32.ofInt (y22_4)))], [.int (Int32.ofInt (1)), .int (Int32.ofInt ((I45a 2503))), .ref 39], M44)) rfl ?_
            refine w_sub rfl ?_
            refine w_pf hR45a rfl rfl rfl rfl (show w_in ((I45a 2503) - 1) from ⟨by omega, by omega⟩) (fun h => absurd h (by decide)) (fun M123 hR124 => ?_)
            replace hR124 : w_Rep w_TC fr X u l (w_up I45a 2503 ((I45a 2503) - 1)) A45a B45a C45a M123 := hR124
            refine w_adv (n := 2) (F' := (80, [(6, .int (Int32.ofInt (v46))), (5, .int (Int32.ofInt (v37))), (0, .ref 39), (1, .int (Int32.ofInt (n))), (2, .int (Int32.ofInt (x))), (3, .int (Int32.ofInt ((I 2503)))), (4, .int (Int32.ofInt (y22_4)))], [.int (Int32.ofInt (v37)), .ref 39], M123)) rfl ?_
            refine w_call (cm := 173) (as := [(0, .ref 39), (1, .int (Int32.ofInt (v37)))]) (rest := []) (o := some (1, 39)) rfl (w_fitR hR124 rfl) (c_operate (v37) hR124 (show 5 ≤ d by omega) ⟨by omega, by omega⟩ (show 0 ≤ (I45a 1035) ∧ (I45a 1035) ≤ 10000 by (repeat' apply And.intro) <;> first | assumption | omega) (show 0 ≤ (I45a 2503) - 1 by omega)) (fun r125 M126 q127 => ?_)
            rcases q127 with ⟨I127a, A127a, B127a, C127a, e128, hR127a, f129, f130⟩
            rw [e128]
            replace hR127a : w_Rep w_TC fr X u l I127a A127a B127a C127a M126 := hR127a
            replace f129 : c_bz (w_up I45a 2503 ((I45a 2503) - 1)) A45a I127a A127a 0 0 ((I45a 2503) - 1) := f129
            replace f130 : (I127a 2503) = (I45a 2503) - 1 ∧ (0 ≤ (I127a 1035) ∧ (I127a 1035) ≤ 10000) ∧ (I127a 200) = (I45a 200) ∧ (I127a 202) = (I45a 202) := f130
            obtain ⟨n131, ⟨n132, n133⟩, n134, n135⟩ := id f130
            clear f130
            have bx136 : c_bz I A I127a A127a p q (I 2503) := c_bz_trans (show c_bz I A (w_up I45a 2503 ((I45a 2503) - 1)) A45a p q (I 2503) from (c_bz_up bx58 rfl)) f129 (Int.le_refl _) (Int.le_refl _) (show p ≤ 0 ∨ 0 ≤ 0 by omega) (show 0 ≤ q ∨ 0 ≤ 0 by omega) (Int.le_refl _) (show (I 2503) ≤ (I45a 2503) - 1 by omega)
            have s137 : c_Stq A127a j p q (I 2503) ((I_22 2503) - 1) (y22_4 + 1) := c_Stq_fr s67 (c_bz_ke f129) f129.2.2.1 f129.2.2.2.1 (by omega)
            show w_W _ _ _ (83, [(6, .int (Int32.ofInt (v46))), (5, .int (Int32.ofInt (v37))), (0, .ref 39), (1, .int (Int32.ofInt (n))), (2, .int (Int32.ofInt (x))), (3, .int (Int32.ofInt ((I 2503)))), (4, .int (Int32.ofInt (y22_4)))], [], M126) _
            refine w_adv (n := 1) (F' := (129, [(6, .int (Int32.ofInt (v46))), (5, .int (Int32.ofInt (v37))), (0, .ref 39), (1, .int (Int32.ofInt (n))), (2, .int (Int32.ofInt (x))), (3, .int (Int32.ofInt ((I 2503)))), (4, .int (Int32.ofInt (y22_4)))], [], M126)) rfl ?_
            refine w_inc (nL := 8) (a := y22_4) rfl rfl rfl (by decide) ?_
            refine w_adv (n := 1) (F' := (22, [(4, .int (Int32.ofInt (y22_4 + 1))), (6, .int (Int32.ofInt (v46))), (5, .int (Int32.ofInt (v37))), (0, .ref 39), (1, .int (Int32.ofInt (n))), (2, .int (Int32.ofInt (x))), (3, .int (Int32.ofInt ((I 2503))))], [], M126)) rfl ?_
            refine w_ls (ls := [(0, .ref 39), (1, .int (Int32.ofInt (n))), (2, .int (Int32.ofInt (x))), (3, .int (Int32.ofInt ((I 2503)))), (4, .int (Int32.ofInt (y22_4 + 1)))]) (show List.Nodup [0, 1, 2, 3, 4] by decide) (show List.Nodup [4, 6, 5, 0, 1, 2, 3] by decide) (List.forall_mem_cons.mpr ⟨(List.Mem.tail _ (List.Mem.tail _ (List.Mem.tail _ (List.Mem.head _)))), (List.forall_mem_cons.mpr ⟨(List.Mem.tail _ (List.Mem.tail _ (List.Mem.tail _ (List.Mem.tail _ (List.Mem.head _))))), (List.forall_mem_cons.mpr ⟨(List.Mem.tail _ (List.Mem.tail _ (List.Mem.tail _ (List.Mem.tail _ (List.Mem.tail _ (List.Mem.head _)))))), (List.forall_mem_cons.mpr ⟨(List.Mem.tail _ (List.Mem.tail _ (List.Mem.tail _ (List.Mem.tail _ (List.Mem.tail _ (List.Mem.tail _ (List.Mem.head _))))))), (List.forall_mem_cons.mpr ⟨(List.Mem.head _), (fun _ h => by cases h)⟩)⟩)⟩)⟩)⟩) ?_
            exact ih22  (y22_4 + 1) I127a A127a B127a C127a M126 hR127a ⟨by omega, by omega⟩ (show c_bz I A I127a A127a p q (I 2503) by exact bx136) (show (0 ≤ (I127a 1035) ∧ (I127a 1035) ≤ 10000) ∧ (I127a 200) = (I 200) ∧ (I127a 202) = (I 202) by (repeat' apply And.intro) <;> first | assumption | omega) (show c_Stq A127a j p q (I 2503) (I127a 2503) (y22_4 + 1) by first | exact s137 | (have sx := s137; rw [show ((I_22 2503) - 1) = (I127a 2503) by omega] at sx; exact sx)) (show 0 ≤ (y22_4 + 1) ∧ (y22_4 + 1) ≤ 6000 ∧ (I 2503) ≤ (I127a 2503) ∧ (I127a 2503) ≤ (I 2503) + 1 + (y22_4 + 1) by omega) (show 6000 - (y22_4 + 1) < (fu22 : Int) by omega)
  refine w_ls (ls := [(0, .ref 39), (1, .int (Int32.ofInt (n))), (2, .int (Int32.ofInt (x))), (3, .int (Int32.ofInt ((I 2503)))), (4, .int (Int32.ofInt (0)))]) (show List.Nodup [0, 1, 2, 3, 4] by decide) (show List.Nodup [4, 3, 0, 1, 2] by decide) (List.forall_mem_cons.mpr ⟨(List.Mem.tail _ (List.Mem.tail _ (List.Mem.head _))), (List.forall_mem_cons.mpr ⟨(List.Mem.tail _ (List.Mem.tail _ (List.Mem.tail _ (List.Mem.head _)))), (List.forall_mem_cons.mpr ⟨(List.Mem.tail _ (List.Mem.tail _ (List.Mem.tail _ (List.Mem.tail _ (List.Mem.head _))))), (List.forall_mem_cons.mpr ⟨(List.Mem.tail _ (List.Mem.head _)), (List.forall_mem_cons.mpr ⟨(List.Mem.head _), (fun _ h => by cases h)⟩)⟩)⟩)⟩)⟩) ?_
  exact lp22 ((6000 - 0 : Int).toNat + 1)  (0) I18a A18a B18a C18a M17 hR18a ⟨by omega, by omega⟩ (show c_bz I A I18a A18a p q (I 2503) by exact bx28) (show (0 ≤ (I18a 1035) ∧ (I18a 1035) ≤ 10000) ∧ (I18a 200) = (I 200) ∧ (I18a 202) = (I 202) by (repeat' apply And.intro) <;> first | assumption | omega) (show c_Stq A18a j p q (I 2503) (I18a 2503) (0 : Int) by first | exact s16 | (have sx := s16; rw [show (I18a 2503) = (I18a 2503) by omega] at sx; exact sx)) (show 0 ≤ (0 : Int) ∧ (0 : Int) ≤ 6000 ∧ (I 2503) ≤ (I18a 2503) ∧ (I18a 2503) ≤ (I 2503) + 1 + (0 : Int) by omega) (show 6000 - 0 < (((6000 - 0 : Int).toNat + 1 : Nat) : Int) by omega)
