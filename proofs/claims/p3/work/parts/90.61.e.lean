def m_integer_Q (fr : Nat → Bool) (X : Nat → Option (q_C (Nat → Int32))) (u l : Nat) (I : Nat → Int) (A : Nat → Int → Int) (B C : Nat → Nat) (M : w_M) (fm : Int) : w_X → w_M → Prop := fun r M' => (∃ v : Int, ∃ z45 : Int, ∃ z46 : Int, ∃ z47 : Int, ∃ z48 : Int, ∃ zb : Int, (r = .inl (some v)) ∧ (w_in v) ∧ (w_Rep w_TM fr X u l (w_up (w_up I 2759 (zb)) 2754 ((I 2754) + 1)) (w_upF (w_upF (w_upF (w_upF A 45 (w_upA (A 45) ((I 2754)) (z45))) 46 (w_upA (A 46) ((I 2754)) (z46))) 47 (w_upA (A 47) ((I 2754)) (z47))) 48 (w_upA (A 48) ((I 2754)) (z48))) B C M') ∧ ((zb = 0 ∧ 1 ≤ z45 ∧ z45 ≤ 6 ∧ (z45 = 2 → 0 ≤ z46 ∧ z46 < 400)) ∨ (0 < zb ∧ z45 = 7)) ∧ (fm < v ∧ v ≤ (I 2753)))
set_option maxHeartbeats 100000000 in
set_option maxRecDepth 100000 in
theorem m_integer {L : Nat} {xs : Nat → Int32} {d : Nat} {fr : Nat → Bool} {X : Nat → Option (q_C (Nat → Int32))} {u l : Nat} {I : Nat → Int} {A : Nat → Int → Int} {B C : Nat → Nat} {M : w_M} (fm : Int) (hR : w_Rep w_TM fr X u l I A B C M) (hd : 2 ≤ d) (r_fm : w_in fm) (hsz : 0 ≤ (I 2753) ∧ (I 2753) ≤ 8192) (ht : 0 ≤ (I 2754) ∧ (I 2754) ≤ 1500) (hb : (I 2759) = 0) (hi : 0 ≤ fm ∧ fm < (I 2753)) (hdg : (48 ≤ m_by (A 44) (I 2753) (fm) ∧ m_by (A 44) (I 2753) (fm) ≤ 57) ∨ m_by (A 44) (I 2753) (fm) = 126) : w_W (z_P L xs) d 225 (0, [(0, .ref 43), (1, .int (Int32.ofInt (fm)))], [], M) (m_integer_Q fr X u l I A B C M fm) := by
  obtain ⟨ra_fm, rb_fm⟩ := r_fm
  obtain ⟨d, rfl⟩ : ∃ d0, d = d0 + 1 := ⟨d - 1, by omega⟩
  refine w_adv (n := 2) (F' := (2, [(0, .ref 43), (1, .int (Int32.ofInt (fm)))], [.int (Int32.ofInt (fm)), .ref 43], M)) rfl ?_
  refine w_call (cm := 212) (as := [(0, .ref 43), (1, .int (Int32.ofInt (fm)))]) (rest := []) (o := some (9, 43)) rfl (w_fitR hR rfl) (m_byteAt (fm) hR ⟨by omega, by omega⟩ (show 0 ≤ (I 2753) ∧ (I 2753) ≤ 8192 by first | assumption | omega) (show 0 ≤ fm by first | assumption | omega)) (fun r1 M2 q3 => ?_)
  rcases q3 with ⟨v4, e5, ⟨r6, r7⟩, e8, f9, f10⟩
  rw [e5, e8]
  replace f9 : v4 = m_by (A 44) (I 2753) (fm) := f9
  replace f10 : (I 2753) ≤ fm → v4 = 0 := f10
  show w_W _ _ _ (5, [(0, .ref 43), (1, .int (Int32.ofInt (fm)))], [.int (Int32.ofInt (v4))], M) _
  refine w_adv (n := 1) (F' := (7, [(0, .ref 43), (1, .int (Int32.ofInt (fm)))], [.int (Int32.ofInt (126)), .int (Int32.ofInt (v4))], M)) rfl ?_
  refine w_br2 (a := v4) (b := 126) rfl rfl ⟨by omega, by omega⟩ ⟨by omega, by omega⟩ (fun h11 => ?_) (fun h11 => ?_)
  · have h11 : ¬ v4 = 126 := h11
    show w_W _ _ _ (14, [(0, .ref 43), (1, .int (Int32.ofInt (fm)))], [], M) _
    refine w_adv (n := 8) (F' := (31, [(4, .long (0)), (3, .int (Int32.ofInt (fm))), (2, .int (Int32.ofInt (0))), (0, .ref 43), (1, .int (Int32.ofInt (fm)))], [], M)) rfl ?_
    have lp31 : ∀ fu31 : Nat, ∀ (y31_3 : Int) (g31_4 : Int64), w_in y31_3 → fm ≤ y31_3 ∧ y31_3 ≤ (I 2753) ∧ (y31_3 = fm → 48 ≤ m_by (A 44) (I 2753) (fm) ∧ m_by (A 44) (I 2753) (fm) ≤ 57) → (I 2753) - y31_3 < (fu31 : Int) → w_W (z_P L xs) (d + 1) 225 (31, [(0, .ref 43), (1, .int (Int32.ofInt (fm))), (2, .int (Int32.ofInt (0))), (3, .int (Int32.ofInt (y31_3))), (4, .long (g31_4))], [], M) (m_integer_Q fr X u l I A B C M fm) := by
      intro fu31
      induction fu31 with
      | zero =>
        intro y31_3 g31_4 ⟨ra_y31_3, rb_y31_3⟩ hi31_0 hn31
        exfalso
        omega
      | succ fu31 ih31 =>
        intro y31_3 g31_4 ⟨ra_y31_3, rb_y31_3⟩ hi31_0 hn31
        refine w_adv (n := 2) (F' := (33, [(0, .ref 43), (1, .int (Int32.ofInt (fm))), (2, .int (Int32.ofInt (0))), (3, .int (Int32.ofInt (y31_3))), (4, .long (g31_4))], [.int (Int32.ofInt (y31_3)), .ref 43], M)) rfl ?_
        refine w_call (cm := 212) (as := [(0, .ref 43), (1, .int (Int32.ofInt (y31_3)))]) (rest := []) (o := some (9, 43)) rfl (w_fitR hR rfl) (m_byteAt (y31_3) hR ⟨by omega, by omega⟩ (show 0 ≤ (I 2753) ∧ (I 2753) ≤ 8192 by first | assumption | omega) (show 0 ≤ y31_3 by first | assumption | omega)) (fun r12 M13 q14 => ?_)
        rcases q14 with ⟨v15, e16, ⟨r17, r18⟩, e19, f20, f21⟩
        rw [e16, e19]
        replace f20 : v15 = m_by (A 44) (I 2753) (y31_3) := f20
        replace f21 : (I 2753) ≤ y31_3 → v15 = 0 := f21
        have pq : y31_3 = fm → v15 = m_by (A 44) (I 2753) (fm) := fun h => by rw [f20, h]
        show w_W _ _ _ (36, [(0, .ref 43), (1, .int (Int32.ofInt (fm))), (2, .int (Int32.ofInt (0))), (3, .int (Int32.ofInt (y31_3))), (4, .long (g31_4))], [.int (Int32.ofInt (v15))], M) _
        refine w_call (cm := 217) (as := [(0, .int (Int32.ofInt (v15)))]) (rest := []) (o := none) rfl (trivial) (m_isDigit (v15) hR ⟨by omega, by omega⟩) (fun r22 M23 q24 => ?_)
        rcases q24 with ⟨e25, e26, f27⟩ | ⟨e28, e29, f30⟩
        · rw [e25, e26]
          replace f27 : 48 ≤ v15 ∧ v15 ≤ 57 := f27
          show w_W _ _ _ (39, [(0, .ref 43), (1, .int (Int32.ofInt (fm))), (2, .int (Int32.ofInt (0))), (3, .int (Int32.ofInt (y31_3))), (4, .long (g31_4))], [.int (Int32.ofInt (1))], M) _
          refine w_adv (n := 7) (F' := (53, [(0, .ref 43), (1, .int (Int32.ofInt (fm))), (2, .int (Int32.ofInt (0))), (3, .int (Int32.ofInt (y31_3))), (4, .long (g31_4))], [.int (Int32.ofInt (y31_3)), .ref 43, .long ((10) * (g31_4)), .long (4294967296)], M)) rfl ?_
          refine w_call (cm := 212) (as := [(0, .ref 43), (1, .int (Int32.ofInt (y31_3)))]) (rest := [.long ((10) * (g31_4)), .long (4294967296)]) (o := some (9, 43)) rfl (w_fitR hR rfl) (m_byteAt (y31_3) hR ⟨by omega, by omega⟩ (show 0 ≤ (I 2753) ∧ (I 2753) ≤ 8192 by first | assumption | omega) (show 0 ≤ y31_3 by first | assumption | omega)) (fun r31 M32 q33 => ?_)
          rcases q33 with ⟨v34, e35, ⟨r36, r37⟩, e38, f39, f40⟩
          rw [e35, e38]
          replace f39 : v34 = m_by (A 44) (I 2753) (y31_3) := f39
          replace f40 : (I 2753) ≤ y31_3 → v34 = 0 := f40
          show w_W _ _ _ (56, [(0, .ref 43), (1, .int (Int32.ofInt (fm))), (2, .int (Int32.ofInt (0))), (3, .int (Int32.ofInt (y31_3))), (4, .long (g31_4))], [.int (Int32.ofInt (v34)), .long ((10) * (g31_4)), .long (4294967296)], M) _
          refine w_adv (n := 4) (F' := (62, [(0, .ref 43), (1, .int (Int32.ofInt (fm))), (2, .int (Int32.ofInt (0))), (3, .int (Int32.ofInt (y31_3))), (4, .long (g31_4))], [.long ((((10) * (g31_4)) + ((Int32.ofInt (v34)).toInt64)) - (48)), .long (4294967296)], M)) rfl ?_
          refine w_min rfl rfl rfl ?_
          refine w_adv (n := 1) (F' := (67, [(4, .long (if ((((10) * (g31_4)) + ((Int32.ofInt (v34)).toInt64)) - (48)) < (4294967296) then ((((10) * (g31_4)) + ((Int32.ofInt (v34)).toInt64)) - (48)) else (4294967296))), (0, .ref 43), (1, .int (Int32.ofInt (fm))), (2, .int (Int32.ofInt (0))), (3, .int (Int32.ofInt (y31_3)))], [], M)) rfl ?_
          refine w_inc (nL := 6) (a := y31_3) rfl rfl rfl (by decide) ?_
          refine w_adv (n := 1) (F' := (31, [(3, .int (Int32.ofInt (y31_3 + 1))), (4, .long (if ((((10) * (g31_4)) + ((Int32.ofInt (v34)).toInt64)) - (48)) < (4294967296) then ((((10) * (g31_4)) + ((Int32.ofInt (v34)).toInt64)) - (48)) else (4294967296))), (0, .ref 43), (1, .int (Int32.ofInt (fm))), (2, .int (Int32.ofInt (0)))], [], M)) rfl ?_
          refine w_ls (ls := [(0, .ref 43), (1, .int (Int32.ofInt (fm))), (2, .int (Int32.ofInt (0))), (3, .int (Int32.ofInt (y31_3 + 1))), (4, .long (if ((((10) * (g31_4)) + ((Int32.ofInt (v34)).toInt64)) - (48)) < (4294967296) then ((((10) * (g31_4)) + ((Int32.ofInt (v34)).toInt64)) - (48)) else (4294967296)))]) (show List.Nodup [0, 1, 2, 3, 4] by decide) (show List.Nodup [3, 4, 0, 1, 2] by decide) (List.forall_mem_cons.mpr ⟨(List.Mem.tail _ (List.Mem.tail _ (List.Mem.head _))), (List.forall_mem_cons.mpr ⟨(List.Mem.tail _ (List.Mem.tail _ (List.Mem.tail _ (List.Mem.head _)))), (List.forall_mem_cons.mpr ⟨(List.Mem.tail _ (List.Mem.tail _ (List.Mem.tail _ (List.Mem.tail _ (List.Mem.head _))))), (List.forall_mem_cons.mpr ⟨(List.Mem.head _), (List.forall_mem_cons.mpr ⟨(List.Mem.tail _ (List.Mem.head _)), (fun _ h => by cases h)⟩)⟩)⟩)⟩)⟩) ?_
          exact ih31  (y31_3 + 1) (if ((((10) * (g31_4)) + ((Int32.ofInt (v34)).toInt64)) - (48)) < (4294967296) then ((((10) * (g31_4)) + ((Int32.ofInt (v34)).toInt64)) - (48)) else (4294967296)) ⟨by omega, by omega⟩ (show fm ≤ y31_3 + 1 ∧ y31_3 + 1 ≤ (I 2753) ∧ (y31_3 + 1 = fm → 48 ≤ m_by (A 44) (I 2753) (fm) ∧ m_by (A 44) (I 2753) (fm) ≤ 57) by omega) (show (I 2753) - (y31_3 + 1) < (fu31 : Int) by omega)
        · rw [e28, e29]
          replace f30 : ¬ (48 ≤ v15 ∧ v15 ≤ 57) := f30
          show w_W _ _ _ (39, [(0, .ref 43), (1, .int (Int32.ofInt (fm))), (2, .int (Int32.ofInt (0))), (3, .int (Int32.ofInt (y31_3))), (4, .long (g31_4))], [.int (Int32.ofInt (0))], M) _
          refine w_adv (n := 8) (F' := (90, [(4, .long (g31_4)), (0, .ref 43), (1, .int (Int32.ofInt (fm))), (2, .int (Int32.ofInt (0))), (3, .int (Int32.ofInt (y31_3)))], [.int (Int32.ofInt (y31_3)), .ref 43, .ref 43], M)) rfl ?_
          refine w_call (cm := 212) (as := [(0, .ref 43), (1, .int (Int32.ofInt (y31_3)))]) (rest := [.ref 43]) (o := some (9, 43)) rfl (w_fitR hR rfl) (m_byteAt (y31_3) hR ⟨by omega, by omega⟩ (show 0 ≤ (I 2753) ∧ (I 2753) ≤ 8192 by first | assumption | omega) (show 0 ≤ y31_3 by first | assumption | omega)) (fun r41 M42 q43 => ?_)
          rcases q43 with ⟨v44, e45, ⟨r46, r47⟩, e48, f49, f50⟩
          rw [e45, e48]
          replace f49 : v44 = m_by (A 44) (I 2753) (y31_3) := f49
          replace f50 : (I 2753) ≤ y31_3 → v44 = 0 := f50
          show w_W _ _ _ (93, [(4, .long (g31_4)), (0, .ref 43), (1, .int (Int32.ofInt (fm))), (2, .int (Int32.ofInt (0))), (3, .int (Int32.ofInt (y31_3)))], [.int (Int32.ofInt (v44)), .ref 43], M) _
          refine w_call (cm := 216) (as := [(0, .int (Int32.ofInt (v44)))]) (rest := [.ref 43]) (o := none) rfl (trivial) (m_goesOn (v44) hR (show 1 ≤ d by omega) ⟨by omega, by omega⟩) (fun r51 M52 q53 => ?_)
          rcases q53 with ⟨e54, e55, f56⟩ | ⟨e57, e58⟩
          · rw [e54, e55]
            replace f56 : 48 ≤ v44 := f56
            show w_W _ _ _ (96, [(4, .long (g31_4)), (0, .ref 43), (1, .int (Int32.ofInt (fm))), (2, .int (Int32.ofInt (0))), (3, .int (Int32.ofInt (y31_3)))], [.int (Int32.ofInt (1)), .ref 43], M) _
            refine w_adv (n := 3) (F' := (118, [(4, .long (g31_4)), (0, .ref 43), (1, .int (Int32.ofInt (fm))), (2, .int (Int32.ofInt (0))), (3, .int (Int32.ofInt (y31_3)))], [.int (Int32.ofInt (4)), .ref 43], M)) rfl ?_
            refine w_pf hR rfl rfl rfl rfl (show w_in (4) from ⟨by omega, by omega⟩) (fun h => absurd h (by decide)) (fun M59 hR60 => ?_)
            replace hR60 : w_Rep w_TM fr X u l (w_up I 2759 (4)) A B C M59 := hR60
            refine w_adv (n := 2) (F' := (123, [(4, .long (g31_4)), (0, .ref 43), (1, .int (Int32.ofInt (fm))), (2, .int (Int32.ofInt (0))), (3, .int (Int32.ofInt (y31_3)))], [.ref 43, .ref 43], M59)) rfl ?_
            refine w_gf (v := .int (Int32.ofInt (4))) hR60 rfl rfl rfl rfl ?_
            refine w_adv (n := 5) (F' := (138, [(4, .long (g31_4)), (0, .ref 43), (1, .int (Int32.ofInt (fm))), (2, .int (Int32.ofInt (0))), (3, .int (Int32.ofInt (y31_3)))], [.int ((g31_4).toInt32), .int (Int32.ofInt (7)), .ref 43], M59)) rfl ?_
            refine w_int (fun x61 r62 e63 => ?_)
            obtain ⟨r62a, r62b⟩ := r62
            refine w_adv (n := 2) (F' := (140, [(4, .long (g31_4)), (0, .ref 43), (1, .int (Int32.ofInt (fm))), (2, .int (Int32.ofInt (0))), (3, .int (Int32.ofInt (y31_3)))], [.int (Int32.ofInt (y31_3)), .int (Int32.ofInt (fm)), .int (Int32.ofInt (x61)), .int (Int32.ofInt (7)), .ref 43], M59)) rfl ?_
            refine w_call (cm := 224) (as := [(0, .ref 43), (1, .int (Int32.ofInt (7))), (2, .int (Int32.ofInt (x61))), (3, .int (Int32.ofInt (fm))), (4, .int (Int32.ofInt (y31_3)))]) (rest := []) (o := some (9, 43)) rfl (w_fitR hR60 rfl) (m_token (7) (x61) (fm) (y31_3) hR60 ⟨by omega, by omega⟩ ⟨by omega, by omega⟩ ⟨by omega, by omega⟩ ⟨by omega, by omega⟩ (show 0 ≤ (I 2754) ∧ (I 2754) ≤ 1501 by first | assumption | omega)) (fun r64 M65 q66 => ?_)
            rcases q66 with ⟨e67, hR66a⟩
            rw [e67]
            replace hR66a : w_Rep w_TM fr X u l (w_up (w_up I 2759 (4)) 2754 ((I 2754) + 1)) (w_upF (w_upF (w_upF (w_upF A 45 (w_upA (A 45) ((I 2754)) (7))) 46 (w_upA (A 46) ((I 2754)) (x61))) 47 (w_upA (A 47) ((I 2754)) (fm))) 48 (w_upA (A 48) ((I 2754)) (y31_3))) B C M65 := hR66a
            show w_W _ _ _ (143, [(4, .long (g31_4)), (0, .ref 43), (1, .int (Int32.ofInt (fm))), (2, .int (Int32.ofInt (0))), (3, .int (Int32.ofInt (y31_3)))], [], M65) _
            refine w_adv (n := 1) (F' := (144, [(4, .long (g31_4)), (0, .ref 43), (1, .int (Int32.ofInt (fm))), (2, .int (Int32.ofInt (0))), (3, .int (Int32.ofInt (y31_3)))], [.int (Int32.ofInt (y31_3))], M65)) rfl ?_
            refine w_fin (r := .inl (some (y31_3))) (M' := M65) rfl ?_
            exact ⟨y31_3, 7, x61, fm, y31_3, 4, rfl, ⟨by omega, by omega⟩, hR66a, (show (4 = 0 ∧ 1 ≤ 7 ∧ 7 ≤ 6 ∧ (7 = 2 → 0 ≤ x61 ∧ x61 < 400)) ∨ (0 < 4 ∧ 7 = 7) by omega), (show fm < y31_3 ∧ y31_3 ≤ (I 2753) by omega)⟩
          · rw [e57, e58]
            show w_W _ _ _ (96, [(4, .long (g31_4)), (0, .ref 43), (1, .int (Int32.ofInt (fm))), (2, .int (Int32.ofInt (0))), (3, .int (Int32.ofInt (y31_3)))], [.int (Int32.ofInt (0)), .ref 43], M) _
            refine w_adv (n := 4) (F' := (108, [(4, .long (g31_4)), (0, .ref 43), (1, .int (Int32.ofInt (fm))), (2, .int (Int32.ofInt (0))), (3, .int (Int32.ofInt (y31_3)))], [.int ((g31_4).toInt32), .long (g31_4), .ref 43], M)) rfl ?_
            refine w_int (fun x68 r69 e70 => ?_)
            obtain ⟨r69a, r69b⟩ := r69
            refine w_adv (n := 2) (F' := (110, [(4, .long (g31_4)), (0, .ref 43), (1, .int (Int32.ofInt (fm))), (2, .int (Int32.ofInt (0))), (3, .int (Int32.ofInt (y31_3)))], [.int (lg_cmp (g31_4) ((Int32.ofInt (x68)).toInt64)), .ref 43], M)) rfl ?_
            refine w_int (fun x71 r72 e73 => ?_)
            obtain ⟨r72a, r72b⟩ := r72
            refine w_br1 (a := x71) rfl rfl ⟨by omega, by omega⟩ (fun h74 => ?_) (fun h74 => ?_)
            · have h74 : x71 = 0 := h74
              show w_W _ _ _ (117, [(4, .long (g31_4)), (0, .ref 43), (1, .int (Int32.ofInt (fm))), (2, .int (Int32.ofInt (0))), (3, .int (Int32.ofInt (y31_3)))], [.ref 43], M) _
              refine w_adv (n := 1) (F' := (118, [(4, .long (g31_4)), (0, .ref 43), (1, .int (Int32.ofInt (fm))), (2, .int (Int32.ofInt (0))), (3, .int (Int32.ofInt (y31_3)))], [.int (Int32.ofInt (0)), .ref 43], M)) rfl ?_
              refine w_pf hR rfl rfl rfl rfl (show w_in (0) from ⟨by omega, by omega⟩) (fun h => absurd h (by decide)) (fun M75 hR76 => ?_)
              replace hR76 : w_Rep w_TM fr X u l (w_up I 2759 (0)) A B C M75 := hR76
              refine w_adv (n := 2) (F' := (123, [(4, .long (g31_4)), (0, .ref 43), (1, .int (Int32.ofInt (fm))), (2, .int (Int32.ofInt (0))), (3, .int (Int32.ofInt (y31_3)))], [.ref 43, .ref 43], M75)) rfl ?_
              refine w_gf (v := .int (Int32.ofInt (0))) hR76 rfl rfl rfl rfl ?_
              refine w_adv (n := 4) (F' := (138, [(4, .long (g31_4)), (0, .ref 43), (1, .int (Int32.ofInt (fm))), (2, .int (Int32.ofInt (0))), (3, .int (Int32.ofInt (y31_3)))], [.int ((g31_4).toInt32), .int (Int32.ofInt (4)), .ref 43], M75)) rfl ?_
              refine w_int (fun x77 r78 e79 => ?_)
              obtain ⟨r78a, r78b⟩ := r78
              refine w_adv (n := 2) (F' := (140, [(4, .long (g31_4)), (0, .ref 43), (1, .int (Int32.ofInt (fm))), (2, .int (Int32.ofInt (0))), (3, .int (Int32.ofInt (y31_3)))], [.int (Int32.ofInt (y31_3)), .int (Int32.ofInt (fm)), .int (Int32.ofInt (x77)), .int (Int32.ofInt (4)), .ref 43], M75)) rfl ?_
              refine w_call (cm := 224) (as := [(0, .ref 43), (1, .int (Int32.ofInt (4))), (2, .int (Int32.ofInt (x77))), (3, .int (Int32.ofInt (fm))), (4, .int (Int32.ofInt (y31_3)))]) (rest := []) (o := some (9, 43)) rfl (w_fitR hR76 rfl) (m_token (4) (x77) (fm) (y31_3) hR76 ⟨by omega, by omega⟩ ⟨by omega, by omega⟩ ⟨by omega, by omega⟩ ⟨by omega, by omega⟩ (show 0 ≤ (I 2754) ∧ (I 2754) ≤ 1501 by first | assumption | omega)) (fun r80 M81 q82 => ?_)
              rcases q82 with ⟨e83, hR82a⟩
              rw [e83]
              replace hR82a : w_Rep w_TM fr X u l (w_up (w_up I 2759 (0)) 2754 ((I 2754) + 1)) (w_upF (w_upF (w_upF (w_upF A 45 (w_upA (A 45) ((I 2754)) (4))) 46 (w_upA (A 46) ((I 2754)) (x77))) 47 (w_upA (A 47) ((I 2754)) (fm))) 48 (w_upA (A 48) ((I 2754)) (y31_3))) B C M81 := hR82a
              show w_W _ _ _ (143, [(4, .long (g31_4)), (0, .ref 43), (1, .int (Int32.ofInt (fm))), (2, .int (Int32.ofInt (0))), (3, .int (Int32.ofInt (y31_3)))], [], M81) _
              refine w_adv (n := 1) (F' := (144, [(4, .long (g31_4)), (0, .ref 43), (1, .int (Int32.ofInt (fm))), (2, .int (Int32.ofInt (0))), (3, .int (Int32.ofInt (y31_3)))], [.int (Int32.ofInt (y31_3))], M81)) rfl ?_
              refine w_fin (r := .inl (some (y31_3))) (M' := M81) rfl ?_
              exact ⟨y31_3, 4, x77, fm, y31_3, 0, rfl, ⟨by omega, by omega⟩, hR82a, (show (0 = 0 ∧ 1 ≤ 4 ∧ 4 ≤ 6 ∧ (4 = 2 → 0 ≤ x77 ∧ x77 < 400)) ∨ (0 < 0 ∧ 4 = 7) by omega), (show fm < y31_3 ∧ y31_3 ≤ (I 2753) by omega)⟩
            · have h74 : ¬ (x71 = 0) := h74
              show w_W _ _ _ (113, [(4, .long (g31_4)), (0, .ref 43), (1, .int (Int32.ofInt (fm))), (2, .int (Int32.ofInt (0))), (3, .int (Int32.ofInt (y31_3)))], [.ref 43], M) _
              refine w_adv (n := 2) (F' := (118, [(4, .long (g31_4)), (0, .ref 43), (1, .int (Int32.ofInt (fm))), (2, .int (Int32.ofInt (0))), (3, .int (Int32.ofInt (y31_3)))], [.int (Int32.ofInt (3)), .ref 43], M)) rfl ?_
              refine w_pf hR rfl rfl rfl rfl (show w_in (3) from ⟨by omega, by omega⟩) (fun h => absurd h (by decide)) (fun M84 hR85 => ?_)
              replace hR85 : w_Rep w_TM fr X u l (w_up I 2759 (3)) A B C M84 := hR85
              refine w_adv (n := 2) (F' := (123, [(4, .long (g31_4)), (0, .ref 43), (1, .int (Int32.ofInt (fm))), (2, .int (Int32.ofInt (0))), (3, .int (Int32.ofInt (y31_3)))], [.ref 43, .ref 43], M84)) rfl ?_
              refine w_gf (v := .int (Int32.ofInt (3))) hR85 rfl rfl rfl rfl ?_
              refine w_adv (n := 5) (F' := (138, [(4, .long (g31_4)), (0, .ref 43), (1, .int (Int32.ofInt (fm))), (2, .int (Int32.ofInt (0))), (3, .int (Int32.ofInt (y31_3)))], [.int ((g31_4).toInt32), .int (Int32.ofInt (7)), .ref 43], M84)) rfl ?_
              refine w_int (fun x86 r87 e88 => ?_)
              obtain ⟨r87a, r87b⟩ := r87
              refine w_adv (n := 2) (F' := (140, [(4, .long (g31_4)), (0, .ref 43), (1, .int (Int32.ofInt (fm))), (2, .int (Int32.ofInt (0))), (3, .int (Int32.ofInt (y31_3)))], [.int (Int32.ofInt (y31_3)), .int (Int32.ofInt (fm)), .int (Int32.ofInt (x86)), .int (Int32.ofInt (7)), .ref 43], M84)) rfl ?_
              refine w_call (cm := 224) (as := [(0, .ref 43), (1, .int (Int32.ofInt (7))), (2, .int (Int32.ofInt (x86))), (3, .int (Int32.ofInt (fm))), (4, .int (Int32.ofInt (y31_3)))]) (rest := []) (o := some (9, 43)) rfl (w_fitR hR85 rfl) (m_token (7) (x86) (fm) (y31_3) hR85 ⟨by omega, by omega⟩ ⟨by omega, by omega⟩ ⟨by omega, by omega⟩ ⟨by omega, by omega⟩ (show 0 ≤ (I 2754) ∧ (I 2754) ≤ 1501 by first | assumption | omega)) (fun r89 M90 q91 => ?_)
              rcases q91 with ⟨e92, hR91a⟩
              rw [e92]
              replace hR91a : w_Rep w_TM fr X u l (w_up (w_up I 2759 (3)) 2754 ((I 2754) + 1)) (w_upF (w_upF (w_upF (w_upF A 45 (w_upA (A 45) ((I 2754)) (7))) 46 (w_upA (A 46) ((I 2754)) (x86))) 47 (w_upA (A 47) ((I 2754)) (fm))) 48 (w_upA (A 48) ((I 2754)) (y31_3))) B C M90 := hR91a
              show w_W _ _ _ (143, [(4, .long (g31_4)), (0, .ref 43), (1, .int (Int32.ofInt (fm))), (2, .int (Int32.ofInt (0))), (3, .int (Int32.ofInt (y31_3)))], [], M90) _
              refine w_adv (n := 1) (F' := (144, [(4, .long (g31_4)), (0, .ref 43), (1, .int (Int32.ofInt (fm))), (2, .int (Int32.ofInt (0))), (3, .int (Int32.ofInt (y31_3)))], [.int (Int32.ofInt (y31_3))], M90)) rfl ?_
              refine w_fin (r := .inl (some (y31_3))) (M' := M90) rfl ?_
              exact ⟨y31_3, 7, x86, fm, y31_3, 3, rfl, ⟨by omega, by omega⟩, hR91a, (show (3 = 0 ∧ 1 ≤ 7 ∧ 7 ≤ 6 ∧ (7 = 2 → 0 ≤ x86 ∧ x86 < 400)) ∨ (0 < 3 ∧ 7 = 7) by omega), (show fm < y31_3 ∧ y31_3 ≤ (I 2753) by omega)⟩
    refine w_ls (ls := [(0, .ref 43), (1, .int (Int32.ofInt (fm))), (2, .int (Int32.ofInt (0))), (3, .int (Int32.ofInt (fm))), (4, .long (0))]) (show List.Nodup [0, 1, 2, 3, 4] by decide) (show List.Nodup [4, 3, 2, 0, 1] by decide) (List.forall_mem_cons.mpr ⟨(List.Mem.tail _ (List.Mem.tail _ (List.Mem.tail _ (List.Mem.head _)))), (List.forall_mem_cons.mpr ⟨(List.Mem.tail _ (List.Mem.tail _ (List.Mem.tail _ (List.Mem.tail _ (List.Mem.head _))))), (List.forall_mem_cons.mpr ⟨(List.Mem.tail _ (List.Mem.tail _ (List.Mem.head _))), (List.forall_mem_cons.mpr ⟨(List.Mem.tail _ (List.Mem.head _)), (List.forall_mem_cons.mpr ⟨(List.Mem.head _), (fun _ h => by cases h)⟩)⟩)⟩)⟩)⟩) ?_
    exact lp31 (((I 2753) - fm : Int).toNat + 1)  (fm) (0) ⟨by omega, by omega⟩ (show fm ≤ fm ∧ fm ≤ (I 2753) ∧ (fm = fm → 48 ≤ m_by (A 44) (I 2753) (fm) ∧ m_by (A 44) (I 2753) (fm) ≤ 57) by omega) (show (I 2753) - fm < ((((I 2753) - fm : Int).toNat + 1 : Nat) : Int) by omega)
  · have h11 : ¬ (¬ v4 = 126) := h11
    show w_W _ _ _ (10, [(0, .ref 43), (1, .int (Int32.ofInt (fm)))], [], M) _
    refine w_adv (n := 7) (F' := (22, [(2, .int (Int32.ofInt (1))), (0, .ref 43), (1, .int (Int32.ofInt (fm)))], [.int (Int32.ofInt (1)), .int (Int32.ofInt (fm))], M)) rfl ?_
    refine w_add rfl ?_
    refine w_adv (n := 4) (F' := (31, [(4, .long (0)), (3, .int (Int32.ofInt (fm + 1))), (2, .int (Int32.ofInt (1))), (0, .ref 43), (1, .int (Int32.ofInt (fm)))], [], M)) rfl ?_
    have lp31 : ∀ fu31 : Nat, ∀ (y31_3 : Int) (g31_4 : Int64), w_in y31_3 → fm ≤ y31_3 ∧ y31_3 ≤ (I 2753) ∧ (y31_3 = fm → 48 ≤ m_by (A 44) (I 2753) (fm) ∧ m_by (A 44) (I 2753) (fm) ≤ 57) → (I 2753) - y31_3 < (fu31 : Int) → w_W (z_P L xs) (d + 1) 225 (31, [(0, .ref 43), (1, .int (Int32.ofInt (fm))), (2, .int (Int32.ofInt (1))), (3, .int (Int32.ofInt (y31_3))), (4, .long (g31_4))], [], M) (m_integer_Q fr X u l I A B C M fm) := by
      intro fu31
      induction fu31 with
      | zero =>
        intro y31_3 g31_4 ⟨ra_y31_3, rb_y31_3⟩ hi31_0 hn31
        exfalso
        omega
      | succ fu31 ih31 =>
        intro y31_3 g31_4 ⟨ra_y31_3, rb_y31_3⟩ hi31_0 hn31
        refine w_adv (n := 2) (F' := (33, [(0, .ref 43), (1, .int (Int32.ofInt (fm))), (2, .int (Int32.ofInt (1))), (3, .int (Int32.ofInt (y31_3))), (4, .long (g31_4))], [.int (Int32.ofInt (y31_3)), .ref 43], M)) rfl ?_
        refine w_call (cm := 212) (as := [(0, .ref 43), (1, .int (Int32.ofInt (y31_3)))]) (rest := []) (o := some (9, 43)) rfl (w_fitR hR rfl) (m_byteAt (y31_3) hR ⟨by omega, by omega⟩ (show 0 ≤ (I 2753) ∧ (I 2753) ≤ 8192 by first | assumption | omega) (show 0 ≤ y31_3 by first | assumption | omega)) (fun r93 M94 q95 => ?_)
        rcases q95 with ⟨v96, e97, ⟨r98, r99⟩, e100, f101, f102⟩
        rw [e97, e100]
        replace f101 : v96 = m_by (A 44) (I 2753) (y31_3) := f101
        replace f102 : (I 2753) ≤ y31_3 → v96 = 0 := f102
        have pq : y31_3 = fm → v96 = m_by (A 44) (I 2753) (fm) := fun h => by rw [f101, h]
        show w_W _ _ _ (36, [(0, .ref 43), (1, .int (Int32.ofInt (fm))), (2, .int (Int32.ofInt (1))), (3, .int (Int32.ofInt (y31_3))), (4, .long (g31_4))], [.int (Int32.ofInt (v96))], M) _
        refine w_call (cm := 217) (as := [(0, .int (Int32.ofInt (v96)))]) (rest := []) (o := none) rfl (trivial) (m_isDigit (v96) hR ⟨by omega, by omega⟩) (fun r103 M104 q105 => ?_)
        rcases q105 with ⟨e106, e107, f108⟩ | ⟨e109, e110, f111⟩
        · rw [e106, e107]
          replace f108 : 48 ≤ v96 ∧ v96 ≤ 57 := f108
          show w_W _ _ _ (39, [(0, .ref 43), (1, .int (Int32.ofInt (fm))), (2, .int (Int32.ofInt (1))), (3, .int (Int32.ofInt (y31_3))), (4, .long (g31_4))], [.int (Int32.ofInt (1))], M) _
          refine w_adv (n := 7) (F' := (53, [(0, .ref 43), (1, .int (Int32.ofInt (fm))), (2, .int (Int32.ofInt (1))), (3, .int (Int32.ofInt (y31_3))), (4, .long (g31_4))], [.int (Int32.ofInt (y31_3)), .ref 43, .long ((10) * (g31_4)), .long (4294967296)], M)) rfl ?_
          refine w_call (cm := 212) (as := [(0, .ref 43), (1, .int (Int32.ofInt (y31_3)))]) (rest := [.long ((10) * (g31_4)), .long (4294967296)]) (o := some (9, 43)) rfl (w_fitR hR rfl) (m_byteAt (y31_3) hR ⟨by omega, by omega⟩ (show 0 ≤ (I 2753) ∧ (I 2753) ≤ 8192 by first | assumption | omega) (show 0 ≤ y31_3 by first | assumption | omega)) (fun r112 M113 q114 => ?_)
          rcases q114 with ⟨v115, e116, ⟨r117, r118⟩, e119, f120, f121⟩
          rw [e116, e119]
          replace f120 : v115 = m_by (A 44) (I 2753) (y31_3) := f120
          replace f121 : (I 2753) ≤ y31_3 → v115 = 0 := f121
          show w_W _ _ _ (56, [(0, .ref 43), (1, .int (Int32.ofInt (fm))), (2, .int (Int32.ofInt (1))), (3, .int (Int32.ofInt (y31_3))), (4, .long (g31_4))], [.int (Int32.ofInt (v115)), .long ((10) * (g31_4)), .long (4294967296)], M) _
          refine w_adv (n := 4) (F' := (62, [(0, .ref 43), (1, .int (Int32.ofInt (fm))), (2, .int (Int32.ofInt (1))), (3, .int (Int32.ofInt (y31_3))), (4, .long (g31_4))], [.long ((((10) * (g31_4)) + ((Int32.ofInt (v115)).toInt64)) - (48)), .long (4294967296)], M)) rfl ?_
          refine w_min rfl rfl rfl ?_
          refine w_adv (n := 1) (F' := (67, [(4, .long (if ((((10) * (g31_4)) + ((Int32.ofInt (v115)).toInt64)) - (48)) < (4294967296) then ((((10) * (g31_4)) + ((Int32.ofInt (v115)).toInt64)) - (48)) else (4294967296))), (0, .ref 43), (1, .int (Int32.ofInt (fm))), (2, .int (Int32.ofInt (1))), (3, .int (Int32.ofInt (y31_3)))], [], M)) rfl ?_
          refine w_inc (nL := 6) (a := y31_3) rfl rfl rfl (by decide) ?_
          refine w_adv (n := 1) (F' := (31, [(3, .int (Int32.ofInt (y31_3 + 1))), (4, .long (if ((((10) * (g31_4)) + ((Int32.ofInt (v115)).toInt64)) - (48)) < (4294967296) then ((((10) * (g31_4)) + ((Int32.ofInt (v115)).toInt64)) - (48)) else (4294967296))), (0, .ref 43), (1, .int (Int32.ofInt (fm))), (2, .int (Int32.ofInt (1)))], [], M)) rfl ?_
          refine w_ls (ls := [(0, .ref 43), (1, .int (Int32.ofInt (fm))), (2, .int (Int32.ofInt (1))), (3, .int (Int32.ofInt (y31_3 + 1))), (4, .long (if ((((10) * (g31_4)) + ((Int32.ofInt (v115)).toInt64)) - (48)) < (4294967296) then ((((10) * (g31_4)) + ((Int32.ofInt (v115)).toInt64)) - (48)) else (4294967296)))]) (show List.Nodup [0, 1, 2, 3, 4] by decide) (show List.Nodup [3, 4, 0, 1, 2] by decide) (List.forall_mem_cons.mpr ⟨(List.Mem.tail _ (List.Mem.tail _ (List.Mem.head _))), (List.forall_mem_cons.mpr ⟨(List.Mem.tail _ (List.Mem.tail _ (List.Mem.tail _ (List.Mem.head _)))), (List.forall_mem_cons.mpr ⟨(List.Mem.tail _ (List.Mem.tail _ (List.Mem.tail _ (List.Mem.tail _ (List.Mem.head _))))), (List.forall_mem_cons.mpr ⟨(List.Mem.head _), (List.forall_mem_cons.mpr ⟨(List.Mem.tail _ (List.Mem.head _)), (fun _ h => by cases h)⟩)⟩)⟩)⟩)⟩) ?_
          exact ih31  (y31_3 + 1) (if ((((10) * (g31_4)) + ((Int32.ofInt (v115)).toInt64)) - (48)) < (4294967296) then ((((10) * (g31_4)) + ((Int32.ofInt (v115)).toInt64)) - (48)) else (4294967296)) ⟨by omega, by omega⟩ (show fm ≤ y31_3 + 1 ∧ y31_3 + 1 ≤ (I 2753) ∧ (y31_3 + 1 = fm → 48 ≤ m_by (A 44) (I 2753) (fm) ∧ m_by (A 44) (I 2753) (fm) ≤ 57) by omega) (show (I 2753) - (y31_3 + 1) < (fu31 : Int) by omega)
        · rw [e109, e110]
          replace f111 : ¬ (48 ≤ v96 ∧ v96 ≤ 57) := f111
          show w_W _ _ _ (39, [(0, .ref 43), (1, .int (Int32.ofInt (fm))), (2, .int (Int32.ofInt (1))), (3, .int (Int32.ofInt (y31_3))), (4, .long (g31_4))], [.int (Int32.ofInt (0))], M) _
          refine w_adv (n := 10) (F' := (90, [(4, .long (-(g31_4))), (0, .ref 43), (1, .int (Int32.ofInt (fm))), (2, .int (Int32.ofInt (1))), (3, .int (Int32.ofInt (y31_3)))], [.int (Int32.ofInt (y31_3)), .ref 43, .ref 43], M)) rfl ?_
          refine w_call (cm := 212) (as := [(0, .ref 43), (1, .int (Int32.ofInt (y31_3)))]) (rest := [.ref 43]) (o := some (9, 43)) rfl (w_fitR hR rfl) (m_byteAt (y31_3) hR ⟨by omega, by omega⟩ (show 0 ≤ (I 2753) ∧ (I 2753) ≤ 8192 by first | assumption | omega) (show 0 ≤ y31_3 by first | assumption | omega)) (fun r122 M123 q124 => ?_)
          rcases q124 with ⟨v125, e126, ⟨r127, r128⟩, e129, f130, f131⟩
          rw [e126, e129]
          replace f130 : v125 = m_by (A 44) (I 2753) (y31_3) := f130
          replace f131 : (I 2753) ≤ y31_3 → v125 = 0 := f131
          show w_W _ _ _ (93, [(4, .long (-(g31_4))), (0, .ref 43), (1, .int (Int32.ofInt (fm))), (2, .int (Int32.ofInt (1))), (3, .int (Int32.ofInt (y31_3)))], [.int (Int32.ofInt (v125)), .ref 43], M) _
          refine w_call (cm := 216) (as := [(0, .int (Int32.ofInt (v125)))]) (rest := [.ref 43]) (o := none) rfl (trivial) (m_goesOn (v125) hR (show 1 ≤ d by omega) ⟨by omega, by omega⟩) (fun r132 M133 q134 => ?_)
          rcases q134 with ⟨e135, e136, f137⟩ | ⟨e138, e139⟩
          · rw [e135, e136]
            replace f137 : 48 ≤ v125 := f137
            show w_W _ _ _ (96, [(4, .long (-(g31_4))), (0, .ref 43), (1, .int (Int32.ofInt (fm))), (2, .int (Int32.ofInt (1))), (3, .int (Int32.ofInt (y31_3)))], [.int (Int32.ofInt (1)), .ref 43], M) _
            refine w_adv (n := 3) (F' := (118, [(4, .long (-(g31_4))), (0, .ref 43), (1, .int (Int32.ofInt (fm))), (2, .int (Int32.ofInt (1))), (3, .int (Int32.ofInt (y31_3)))], [.int (Int32.ofInt (4)), .ref 43], M)) rfl ?_
            refine w_pf hR rfl rfl rfl rfl (show w_in (4) from ⟨by omega, by omega⟩) (fun h => absurd h (by decide)) (fun M140 hR141 => ?_)
            replace hR141 : w_Rep w_TM fr X u l (w_up I 2759 (4)) A B C M140 := hR141
            refine w_adv (n := 2) (F' := (123, [(4, .long (-(g31_4))), (0, .ref 43), (1, .int (Int32.ofInt (fm))), (2, .int (Int32.ofInt (1))), (3, .int (Int32.ofInt (y31_3)))], [.ref 43, .ref 43], M140)) rfl ?_
            refine w_gf (v := .int (Int32.ofInt (4))) hR141 rfl rfl rfl rfl ?_
            refine w_adv (n := 5) (F' := (138, [(4, .long (-(g31_4))), (0, .ref 43), (1, .int (Int32.ofInt (fm))), (2, .int (Int32.ofInt (1))), (3, .int (Int32.ofInt (y31_3)))], [.int ((-(g31_4)).toInt32), .int (Int32.ofInt (7)), .ref 43], M140)) rfl ?_
            refine w_int (fun x142 r143 e144 => ?_)
            obtain ⟨r143a, r143b⟩ := r143
            refine w_adv (n := 2) (F' := (140, [(4, .long (-(g31_4))), (0, .ref 43), (1, .int (Int32.ofInt (fm))), (2, .int (Int32.ofInt (1))), (3, .int (Int32.ofInt (y31_3)))], [.int (Int32.ofInt (y31_3)), .int (Int32.ofInt (fm)), .int (Int32.ofInt (x142)), .int (Int32.ofInt (7)), .ref 43], M140)) rfl ?_
            refine w_call (cm := 224) (as := [(0, .ref 43), (1, .int (Int32.ofInt (7))), (2, .int (Int32.ofInt (x142))), (3, .int (Int32.ofInt (fm))), (4, .int (Int32.ofInt (y31_3)))]) (rest := []) (o := some (9, 43)) rfl (w_fitR hR141 rfl) (m_token (7) (x142) (fm) (y31_3) hR141 ⟨by omega, by omega⟩ ⟨by omega, by omega⟩ ⟨by omega, by omega⟩ ⟨by omega, by omega⟩ (show 0 ≤ (I 2754) ∧ (I 2754) ≤ 1501 by first | assumption | omega)) (fun r145 M146 q147 => ?_)
            rcases q147 with ⟨e148, hR147a⟩
            rw [e148]
            replace hR147a : w_Rep w_TM fr X u l (w_up (w_up I 2759 (4)) 2754 ((I 2754) + 1)) (w_upF (w_upF (w_upF (w_upF A 45 (w_upA (A 45) ((I 2754)) (7))) 46 (w_upA (A 46) ((I 2754)) (x142))) 47 (w_upA (A 47) ((I 2754)) (fm))) 48 (w_upA (A 48) ((I 2754)) (y31_3))) B C M146 := hR147a
            show w_W _ _ _ (143, [(4, .long (-(g31_4))), (0, .ref 43), (1, .int (Int32.ofInt (fm))), (2, .int (Int32.ofInt (1))), (3, .int (Int32.ofInt (y31_3)))], [], M146) _
            refine w_adv (n := 1) (F' := (144, [(4, .long (-(g31_4))), (0, .ref 43), (1, .int (Int32.ofInt (fm))), (2, .int (Int32.ofInt (1))), (3, .int (Int32.ofInt (y31_3)))], [.int (Int32.ofInt (y31_3))], M146)) rfl ?_
            refine w_fin (r := .inl (some (y31_3))) (M' := M146) rfl ?_
            exact ⟨y31_3, 7, x142, fm, y31_3, 4, rfl, ⟨by omega, by omega⟩, hR147a, (show (4 = 0 ∧ 1 ≤ 7 ∧ 7 ≤ 6 ∧ (7 = 2 → 0 ≤ x142 ∧ x142 < 400)) ∨ (0 < 4 ∧ 7 = 7) by omega), (show fm < y31_3 ∧ y31_3 ≤ (I 2753) by omega)⟩
          · rw [e138, e139]
            show w_W _ _ _ (96, [(4, .long (-(g31_4))), (0, .ref 43), (1, .int (Int32.ofInt (fm))), (2, .int (Int32.ofInt (1))), (3, .int (Int32.ofInt (y31_3)))], [.int (Int32.ofInt (0)), .ref 43], M) _
            refine w_adv (n := 4) (F' := (108, [(4, .long (-(g31_4))), (0, .ref 43), (1, .int (Int32.ofInt (fm))), (2, .int (Int32.ofInt (1))), (3, .int (Int32.ofInt (y31_3)))], [.int ((-(g31_4)).toInt32), .long (-(g31_4)), .ref 43], M)) rfl ?_
            refine w_int (fun x149 r150 e151 => ?_)
            obtain ⟨r150a, r150b⟩ := r150
            refine w_adv (n := 2) (F' := (110, [(4, .long (-(g31_4))), (0, .ref 43), (1, .int (Int32.ofInt (fm))), (2, .int (Int32.ofInt (1))), (3, .int (Int32.ofInt (y31_3)))], [.int (lg_cmp (-(g31_4)) ((Int32.ofInt (x149)).toInt64)), .ref 43], M)) rfl ?_
            refine w_int (fun x152 r153 e154 => ?_)
            obtain ⟨r153a, r153b⟩ := r153
            refine w_br1 (a := x152) rfl rfl ⟨by omega, by omega⟩ (fun h155 => ?_) (fun h155 => ?_)
            · have h155 : x152 = 0 := h155
              show w_W _ _ _ (117, [(4, .long (-(g31_4))), (0, .ref 43), (1, .int (Int32.ofInt (fm))), (2, .int (Int32.ofInt (1))), (3, .int (Int32.ofInt (y31_3)))], [.ref 43], M) _
              refine w_adv (n := 1) (F' := (118, [(4, .long (-(g31_4))), (0, .ref 43), (1, .int (Int32.ofInt (fm))), (2, .int (Int32.ofInt (1))), (3, .int (Int32.ofInt (y31_3)))], [.int (Int32.ofInt (0)), .ref 43], M)) rfl ?_
              refine w_pf hR rfl rfl rfl rfl (show w_in (0) from ⟨by omega, by omega⟩) (fun h => absurd h (by decide)) (fun M156 hR157 => ?_)
              replace hR157 : w_Rep w_TM fr X u l (w_up I 2759 (0)) A B C M156 := hR157
              refine w_adv (n := 2) (F' := (123, [(4, .long (-(g31_4))), (0, .ref 43), (1, .int (Int32.ofInt (fm))), (2, .int (Int32.ofInt (1))), (3, .int (Int32.ofInt (y31_3)))], [.ref 43, .ref 43], M156)) rfl ?_
              refine w_gf (v := .int (Int32.ofInt (0))) hR157 rfl rfl rfl rfl ?_
              refine w_adv (n := 4) (F' := (138, [(4, .long (-(g31_4))), (0, .ref 43), (1, .int (Int32.ofInt (fm))), (2, .int (Int32.ofInt (1))), (3, .int (Int32.ofInt (y31_3)))], [.int ((-(g31_4)).toInt32), .int (Int32.ofInt (4)), .ref 43], M156)) rfl ?_
              refine w_int (fun x158 r159 e160 => ?_)
              obtain ⟨r159a, r159b⟩ := r159
              refine w_adv (n := 2) (F' := (140, [(4, .long (-(g31_4))), (0, .ref 43), (1, .int (Int32.ofInt (fm))), (2, .int (Int32.ofInt (1))), (3, .int (Int32.ofInt (y31_3)))], [.int (Int32.ofInt (y31_3)), .int (Int32.ofInt (fm)), .int (Int32.ofInt (x158)), .int (Int32.ofInt (4)), .ref 43], M156)) rfl ?_
              refine w_call (cm := 224) (as := [(0, .ref 43), (1, .int (Int32.ofInt (4))), (2, .int (Int32.ofInt (x158))), (3, .int (Int32.ofInt (fm))), (4, .int (Int32.ofInt (y31_3)))]) (rest := []) (o := some (9, 43)) rfl (w_fitR hR157 rfl) (m_token (4) (x158) (fm) (y31_3) hR157 ⟨by omega, by omega⟩ ⟨by omega, by omega⟩ ⟨by omega, by omega⟩ ⟨by omega, by omega⟩ (show 0 ≤ (I 2754) ∧ (I 2754) ≤ 1501 by first | assumption | omega)) (fun r161 M162 q163 => ?_)
              rcases q163 with ⟨e164, hR163a⟩
              rw [e164]
              replace hR163a : w_Rep w_TM fr X u l (w_up (w_up I 2759 (0)) 2754 ((I 2754) + 1)) (w_upF (w_upF (w_upF (w_upF A 45 (w_upA (A 45) ((I 2754)) (4))) 46 (w_upA (A 46) ((I 2754)) (x158))) 47 (w_upA (A 47) ((I 2754)) (fm))) 48 (w_upA (A 48) ((I 2754)) (y31_3))) B C M162 := hR163a
              show w_W _ _ _ (143, [(4, .long (-(g31_4))), (0, .ref 43), (1, .int (Int32.ofInt (fm))), (2, .int (Int32.ofInt (1))), (3, .int (Int32.ofInt (y31_3)))], [], M162) _
              refine w_adv (n := 1) (F' := (144, [(4, .long (-(g31_4))), (0, .ref 43), (1, .int (Int32.ofInt (fm))), (2, .int (Int32.ofInt (1))), (3, .int (Int32.ofInt (y31_3)))], [.int (Int32.ofInt (y31_3))], M162)) rfl ?_
              refine w_fin (r := .inl (some (y31_3))) (M' := M162) rfl ?_
              exact ⟨y31_3, 4, x158, fm, y31_3, 0, rfl, ⟨by omega, by omega⟩, hR163a, (show (0 = 0 ∧ 1 ≤ 4 ∧ 4 ≤ 6 ∧ (4 = 2 → 0 ≤ x158 ∧ x158 < 400)) ∨ (0 < 0 ∧ 4 = 7) by omega), (show fm < y31_3 ∧ y31_3 ≤ (I 2753) by omega)⟩
            · have h155 : ¬ (x152 = 0) := h155
              show w_W _ _ _ (113, [(4, .long (-(g31_4))), (0, .ref 43), (1, .int (Int32.ofInt (fm))), (2, .int (Int32.ofInt (1))), (3, .int (Int32.ofInt (y31_3)))], [.ref 43], M) _
              refine w_adv (n := 2) (F' := (118, [(4, .long (-(g31_4))), (0, .ref 43), (1, .int (Int32.ofInt (fm))), (2, .int (Int32.ofInt (1))), (3, .int (Int32.ofInt (y31_3)))], [.int (Int32.ofInt (3)), .ref 43], M)) rfl ?_
              refine w_pf hR rfl rfl rfl rfl (show w_in (3) from ⟨by omega, by omega⟩) (fun h => absurd h (by decide)) (fun M165 hR166 => ?_)
              replace hR166 : w_Rep w_TM fr X u l (w_up I 2759 (3)) A B C M165 := hR166
              refine w_adv (n := 2) (F' := (123, [(4, .long (-(g31_4))), (0, .ref 43), (1, .int (Int32.ofInt (fm))), (2, .int (Int32.ofInt (1))), (3, .int (Int32.ofInt (y31_3)))], [.ref 43, .ref 43], M165)) rfl ?_
              refine w_gf (v := .int (Int32.ofInt (3))) hR166 rfl rfl rfl rfl ?_
              refine w_adv (n := 5) (F' := (138, [(4, .long (-(g31_4))), (0, .ref 43), (1, .int (Int32.ofInt (fm))), (2, .int (Int32.ofInt (1))), (3, .int (Int32.ofInt (y31_3)))], [.int ((-(g31_4)).toInt32), .int (Int32.ofInt (7)), .ref 43], M165)) rfl ?_
              refine w_int (fun x167 r168 e169 => ?_)
              obtain ⟨r168a, r168b⟩ := r168
              refine w_adv (n := 2) (F' := (140, [(4, .long (-(g31_4))), (0, .ref 43), (1, .int (Int32.ofInt (fm))), (2, .int (Int32.ofInt (1))), (3, .int (Int32.ofInt (y31_3)))], [.int (Int32.ofInt (y31_3)), .int (Int32.ofInt (fm)), .int (Int32.ofInt (x167)), .int (Int32.ofInt (7)), .ref 43], M165)) rfl ?_
              refine w_call (cm := 224) (as := [(0, .ref 43), (1, .int (Int32.ofInt (7))), (2, .int (Int32.ofInt (x167))), (3, .int (Int32.ofInt (fm))), (4, .int (Int32.ofInt (y31_3)))]) (rest := []) (o := some (9, 43)) rfl (w_fitR hR166 rfl) (m_token (7) (x167) (fm) (y31_3) hR166 ⟨by omega, by omega⟩ ⟨by omega, by omega⟩ ⟨by omega, by omega⟩ ⟨by omega, by omega⟩ (show 0 ≤ (I 2754) ∧ (I 2754) ≤ 1501 by first | assumption | omega)) (fun r170 M171 q172 => ?_)
              rcases q172 with ⟨e173, hR172a⟩
              rw [e173]
              replace hR172a : w_Rep w_TM fr X u l (w_up (w_up I 2759 (3)) 2754 ((I 2754) + 1)) (w_upF (w_upF (w_upF (w_upF A 45 (w_upA (A 45) ((I 2754)) (7))) 46 (w_upA (A 46) ((I 2754)) (x167))) 47 (w_upA (A 47) ((I 2754)) (fm))) 48 (w_upA (A 48) ((I 2754)) (y31_3))) B C M171 := hR172a
              show w_W _ _ _ (143, [(4, .long (-(g31_4))), (0, .ref 43), (1, .int (Int32.ofInt (fm))), (2, .int (Int32.ofInt (1))), (3, .int (Int32.ofInt (y31_3)))], [], M171) _
              refine w_adv (n := 1) (F' := (144, [(4, .long (-(g31_4))), (0, .ref 43), (1, .int (Int32.ofInt (fm))), (2, .int (Int32.ofInt (1))), (3, .int (Int32.ofInt (y31_3)))], [.int (Int32.ofInt (y31_3))], M171)) rfl ?_
              refine w_fin (r := .inl (some (y31_3))) (M' := M171) rfl ?_
              exact ⟨y31_3, 7, x167, fm, y31_3, 3, rfl, ⟨by omega, by omega⟩, hR172a, (show (3 = 0 ∧ 1 ≤ 7 ∧ 7 ≤ 6 ∧ (7 = 2 → 0 ≤ x167 ∧ x167 < 400)) ∨ (0 < 3 ∧ 7 = 7) by omega), (show fm < y31_3 ∧ y31_3 ≤ (I 2753) by omega)⟩
    refine w_ls (ls := [(0, .ref 43), (1, .int (Int32.ofInt (fm))), (2, .int (Int32.ofInt (1))), (3, .int (Int32.ofInt (fm + 1))), (4, .long (0))]) (show List.Nodup [0, 1, 2, 3, 4] by decide) (show List.Nodup [4, 3, 2, 0, 1] by decide) (List.forall_mem_cons.mpr ⟨(List.Mem.tail _ (List.Mem.tail _ (List.Mem.tail _ (List.Mem.head _)))), (List.forall_mem_cons.mpr ⟨(List.Mem.tail _ (List.Mem.tail _ (List.Mem.tail _ (List.Mem.tail _ (List.Mem.head _))))), (List.forall_mem_cons.mpr ⟨(List.Mem.tail _ (List.Mem.tail _ (List.Mem.head _))), (List.forall_mem_cons.mpr ⟨(List.Mem.tail _ (List.Mem.head _)), (List.forall_mem_cons.mpr ⟨(List.Mem.head _), (fun _ h => by cases h)⟩)⟩)⟩)⟩)⟩) ?_
    exact lp31 (((I 2753) - (fm + 1) : Int).toNat + 1)  (fm + 1) (0) ⟨by omega, by omega⟩ (show fm ≤ fm + 1 ∧ fm + 1 ≤ (I 2753) ∧ (fm + 1 = fm → 48 ≤ m_by (A 44) (I 2753) (fm) ∧ m_by (A 44) (I 2753) (fm) ≤ 57) by omega) (show (I 2753) - (fm + 1) < ((((I 2753) - (fm + 1) : Int).toNat + 1 : Nat) : Int) by omega)
def m_sign_Q (fr : Nat → Bool) (X : Nat → Option (q_C (Nat → Int32))) (u l : Nat) (I : Nat → Int) (A : Nat → Int → Int) (B C : Nat → Nat) (M : w_M) (fm : Int) : w_X → w_M → Prop := fun r M' => (∃ v : Int, ∃ z45 : Int, ∃ z46 : Int, ∃ z47 : Int, ∃ z48 : Int, ∃ zb : Int, (r = .inl (some v)) ∧ (w_in v) ∧ (w_Rep w_TM fr X u l (w_up (w_up I 2759 (zb)) 2754 ((I 2754) + 1)) (w_upF (w_upF (w_upF (w_upF A 45 (w_upA (A 45) ((I 2754)) (z45))) 46 (w_upA (A 46) ((I 2754)) (z46))) 47 (w_upA (A 47) ((I 2754)) (z47))) 48 (w_upA (A 48) ((I 2754)) (z48))) B C M') ∧ ((zb = 0 ∧ 1 ≤ z45 ∧ z45 ≤ 6 ∧ (z45 = 2 → 0 ≤ z46 ∧ z46 < 400)) ∨ (0 < zb ∧ z45 = 7)) ∧ (fm < v ∧ v ≤ (I 2753)))
set_option maxHeartbeats 100000000 in
set_option maxRecDepth 100000 in
theorem m_sign {L : Nat} {xs : Nat → Int32} {d : Nat} {fr : Nat → Bool} {X : Nat → Option (q_C (Nat → Int32))} {u l : Nat} {I : Nat → Int} {A : Nat → Int → Int} {B C : Nat → Nat} {M : w_M} (fm : Int) (hR : w_Rep w_TM fr X u l I A B C M) (hd : 1 ≤ d) (r_fm : w_in fm) (hsz : 0 ≤ (I 2753) ∧ (I 2753) ≤ 8192) (ht : 0 ≤ (I 2754) ∧ (I 2754) ≤ 1500) (hb : (I 2759) = 0) (hi : 0 ≤ fm ∧ fm < (I 2753)) : w_W (z_P L xs) d 226 (0, [(0, .ref 43), (1, .int (Int32.ofInt (fm)))], [], M) (m_sign_Q fr X u l I A B C M fm) := by
  obtain ⟨ra_fm, rb_fm⟩ := r_fm
  obtain ⟨d, rfl⟩ : ∃ d0, d = d0 + 1 := ⟨d - 1, by omega⟩
  refine w_adv (n := 2) (F' := (2, [(0, .ref 43), (1, .int (Int32.ofInt (fm)))], [.int (Int32.ofInt (fm)), .ref 43], M)) rfl ?_
  refine w_call (cm := 212) (as := [(0, .ref 43), (1, .int (Int32.ofInt (fm)))]) (rest := []) (o := some (9, 43)) rfl (w_fitR hR rfl) (m_byteAt (fm) hR ⟨by omega, by omega⟩ (show 0 ≤ (I 2753) ∧ (I 2753) ≤ 8192 by first | assumption | omega) (show 0 ≤ fm by first | assumption | omega)) (fun r1 M2 q3 => ?_)
  rcases q3 with ⟨v4, e5, ⟨r6, r7⟩, e8, f9, f10⟩
  rw [e5, e8]
  replace f9 : v4 = m_by (A 44) (I 2753) (fm) := f9
  replace f10 : (I 2753) ≤ fm → v4 = 0 := f10
  show w_W _ _ _ (5, [(0, .ref 43), (1, .int (Int32.ofInt (fm)))], [.int (Int32.ofInt (v4))], M) _
  refine w_adv (n := 4) (F' := (9, [(2, .int (Int32.ofInt (v4))), (0, .ref 43), (1, .int (Int32.ofInt (fm)))], [.int (Int32.ofInt (1)), .int (Int32.ofInt (fm)), .ref 43], M)) rfl ?_
  refine w_add rfl ?_
  refine w_call (cm := 212) (as := [(0, .ref 43), (1, .int (Int32.ofInt (fm + 1)))]) (rest := []) (o := some (9, 43)) rfl (w_fitR hR rfl) (m_byteAt (fm + 1) hR ⟨by omega, by omega⟩ (show 0 ≤ (I 2753) ∧ (I 2753) ≤ 8192 by first | assumption | omega) (show 0 ≤ fm + 1 by first | assumption | omega)) (fun r11 M12 q13 => ?_)
  rcases q13 with ⟨v14, e15, ⟨r16, r17⟩, e18, f19, f20⟩
  rw [e15, e18]
  replace f19 : v14 = m_by (A 44) (I 2753) (fm + 1) := f19
  replace f20 : (I 2753) ≤ fm + 1 → v14 = 0 := f20
  show w_W _ _ _ (13, [(2, .int (Int32.ofInt (v4))), (0, .ref 43), (1, .int (Int32.ofInt (fm)))], [.int (Int32.ofInt (v14))], M) _
  refine w_adv (n := 3) (F' := (17, [(3, .int (Int32.ofInt (v14))), (2, .int (Int32.ofInt (v4))), (0, .ref 43), (1, .int (Int32.ofInt (fm)))], [.int (Int32.ofInt (61)), .int (Int32.ofInt (v4))], M)) rfl ?_
  refine w_br2 (a := v4) (b := 61) rfl rfl ⟨by omega, by omega⟩ ⟨by omega, by omega⟩ (fun h21 => ?_) (fun h21 => ?_)
  · have h21 : ¬ v4 = 61 := h21
    show w_W _ _ _ (61, [(3, .int (Int32.ofInt (v14))), (2, .int (Int32.ofInt (v4))), (0, .ref 43), (1, .int (Int32.ofInt (fm)))], [], M) _
    have jn150 : ∀ (k150_0 : Int), w_in k150_0 → (k150_0 = 0 ∨ k150_0 = 1) → w_W (z_P L xs) (d + 1) 226 (150, [(0, .ref 43), (1, .int (Int32.ofInt (fm))), (2, .int (Int32.ofInt (v4))), (3, .int (Int32.ofInt (v14)))], [.int (Int32.ofInt (k150_0))], M) (m_sign_Q fr X u l I A B C M fm) := by
      intro k150_0 ⟨ra_k150_0, rb_k150_0⟩ hj150_0
      refine w_adv (n := 3) (F' := (155, [(4, .int (Int32.ofInt (k150_0))), (0, .ref 43), (1, .int (Int32.ofInt (fm))), (2, .int (Int32.ofInt (v4))), (3, .int (Int32.ofInt (v14)))], [.int (Int32.ofInt (k150_0)), .ref 43], M)) rfl ?_
      refine w_br1 (a := k150_0) rfl rfl ⟨by omega, by omega⟩ (fun h22 => ?_) (fun h22 => ?_)
      · have h22 : k150_0 = 0 := h22
        show w_W _ _ _ (162, [(4, .int (Int32.ofInt (k150_0))), (0, .ref 43), (1, .int (Int32.ofInt (fm))), (2, .int (Int32.ofInt (v4))), (3, .int (Int32.ofInt (v14)))], [.ref 43], M) _
        refine w_adv (n := 1) (F' := (163, [(4, .int (Int32.ofInt (k150_0))), (0, .ref 43), (1, .int (Int32.ofInt (fm))), (2, .int (Int32.ofInt (v4))), (3, .int (Int32.ofInt (v14)))], [.int (Int32.ofInt (1)), .ref 43], M)) rfl ?_
        refine w_pf hR rfl rfl rfl rfl (show w_in (1) from ⟨by omega, by omega⟩) (fun h => absurd h (by decide)) (fun M23 hR24 => ?_)
        replace hR24 : w_Rep w_TM fr X u l (w_up I 2759 (1)) A B C M23 := hR24
        refine w_adv (n := 2) (F' := (169, [(4, .int (Int32.ofInt (k150_0))), (0, .ref 43), (1, .int (Int32.ofInt (fm))), (2, .int (Int32.ofInt (v4))), (3, .int (Int32.ofInt (v14)))], [.int (Int32.ofInt (k150_0)), .ref 43], M23)) rfl ?_
        refine w_br1 (a := k150_0) rfl rfl ⟨by omega, by omega⟩ (fun h25 => ?_) (fun h25 => ?_)
        · have h25 : k150_0 = 0 := h25
          show w_W _ _ _ (177, [(4, .int (Int32.ofInt (k150_0))), (0, .ref 43), (1, .int (Int32.ofInt (fm))), (2, .int (Int32.ofInt (v4))), (3, .int (Int32.ofInt (v14)))], [.ref 43], M23) _
          refine w_adv (n := 5) (F' := (183, [(4, .int (Int32.ofInt (k150_0))), (0, .ref 43), (1, .int (Int32.ofInt (fm))), (2, .int (Int32.ofInt (v4))), (3, .int (Int32.ofInt (v14)))], [.int (Int32.ofInt (1)), .int (Int32.ofInt (fm)), .int (Int32.ofInt (fm)), .int (Int32.ofInt (v4)), .int (Int32.ofInt (7)), .ref 43], M23)) rfl ?_
          refine w_add rfl ?_
          refine w_call (cm := 224) (as := [(0, .ref 43), (1, .int (Int32.ofInt (7))), (2, .int (Int32.ofInt (v4))), (3, .int (Int32.ofInt (fm))), (4, .int (Int32.ofInt (fm + 1)))]) (rest := []) (o := some (9, 43)) rfl (w_fitR hR24 rfl) (m_token (7) (v4) (fm) (fm + 1) hR24 ⟨by omega, by omega⟩ ⟨by omega, by omega⟩ ⟨by omega, by omega⟩ ⟨by omega, by omega⟩ (show 0 ≤ (I 2754) ∧ (I 2754) ≤ 1501 by first | assumption | omega)) (fun r26 M27 q28 => ?_)
          rcases q28 with ⟨e29, hR28a⟩
          rw [e29]
          replace hR28a : w_Rep w_TM fr X u l (w_up (w_up I 2759 (1)) 2754 ((I 2754) + 1)) (w_upF (w_upF (w_upF (w_upF A 45 (w_upA (A 45) ((I 2754)) (7))) 46 (w_upA (A 46) ((I 2754)) (v4))) 47 (w_upA (A 47) ((I 2754)) (fm))) 48 (w_upA (A 48) ((I 2754)) (fm + 1))) B C M27 := hR28a
          show w_W _ _ _ (187, [(4, .int (Int32.ofInt (k150_0))), (0, .ref 43), (1, .int (Int32.ofInt (fm))), (2, .int (Int32.ofInt (v4))), (3, .int (Int32.ofInt (v14)))], [], M27) _
          refine w_adv (n := 2) (F' := (189, [(4, .int (Int32.ofInt (k150_0))), (0, .ref 43), (1, .int (Int32.ofInt (fm))), (2, .int (Int32.ofInt (v4))), (3, .int (Int32.ofInt (v14)))], [.int (Int32.ofInt (1)), .int (Int32.ofInt (fm))], M27)) rfl ?_
          refine w_add rfl ?_
          refine w_fin (r := .inl (some (fm + 1))) (M' := M27) rfl ?_
          exact ⟨fm + 1, 7, v4, fm, fm + 1, 1, rfl, ⟨by omega, by omega⟩, hR28a, (show (1 = 0 ∧ 1 ≤ 7 ∧ 7 ≤ 6 ∧ (7 = 2 → 0 ≤ v4 ∧ v4 < 400)) ∨ (0 < 1 ∧ 7 = 7) by omega), (show fm < fm + 1 ∧ fm + 1 ≤ (I 2753) by omega)⟩
        · have h25 : ¬ (k150_0 = 0) := h25
          show w_W _ _ _ (172, [(4, .int (Int32.ofInt (k150_0))), (0, .ref 43), (1, .int (Int32.ofInt (fm))), (2, .int (Int32.ofInt (v4))), (3, .int (Int32.ofInt (v14)))], [.ref 43], M23) _
          refine w_adv (n := 6) (F' := (183, [(4, .int (Int32.ofInt (k150_0))), (0, .ref 43), (1, .int (Int32.ofInt (fm))), (2, .int (Int32.ofInt (v4))), (3, .int (Int32.ofInt (v14)))], [.int (Int32.ofInt (1)), .int (Int32.ofInt (fm)), .int (Int32.ofInt (fm)), .int (Int32.ofInt (v4)), .int (Int32.ofInt (6)), .ref 43], M23)) rfl ?_
          refine w_add rfl ?_
          refine w_call (cm := 224) (as := [(0, .ref 43), (1, .int (Int32.ofInt (6))), (2, .int (Int32.ofInt (v4))), (3, .int (Int32.ofInt (fm))), (4, .int (Int32.ofInt (fm + 1)))]) (rest := []) (o := some (9, 43)) rfl (w_fitR hR24 rfl) (m_token (6) (v4) (fm) (fm + 1) hR24 ⟨by omega, by omega⟩ ⟨by omega, by omega⟩ ⟨by omega, by omega⟩ ⟨by omega, by omega⟩ (show 0 ≤ (I 2754) ∧ (I 2754) ≤ 1501 by first | assumption | omega)) (fun r30 M31 q32 => ?_)
          rcases q32 with ⟨e33, hR32a⟩
          rw [e33]
          replace hR32a : w_Rep w_TM fr X u l (w_up (w_up I 2759 (1)) 2754 ((I 2754) + 1)) (w_upF (w_upF (w_upF (w_upF A 45 (w_upA (A 45) ((I 2754)) (6))) 46 (w_upA (A 46) ((I 2754)) (v4))) 47 (w_upA (A 47) ((I 2754)) (fm))) 48 (w_upA (A 48) ((I 2754)) (fm + 1))) B C M31 := hR32a
          show w_W _ _ _ (187, [(4, .int (Int32.ofInt (k150_0))), (0, .ref 43), (1, .int (Int32.ofInt (fm))), (2, .int (Int32.ofInt (v4))), (3, .int (Int32.ofInt (v14)))], [], M31) _
          refine w_adv (n := 2) (F' := (189, [(4, .int (Int32.ofInt (k150_0))), (0, .ref 43), (1, .int (Int32.ofInt (fm))), (2, .int (Int32.ofInt (v4))), (3, .int (Int32.ofInt (v14)))], [.int (Int32.ofInt (1)), .int (Int32.ofInt (fm))], M31)) rfl ?_
          refine w_add rfl ?_
          refine w_fin (r := .inl (some (fm + 1))) (M' := M31) rfl ?_
          exact ⟨fm + 1, 6, v4, fm, fm + 1, 1, rfl, ⟨by omega, by omega⟩, hR32a, (show (1 = 0 ∧ 1 ≤ 6 ∧ 6 ≤ 6 ∧ (6 = 2 → 0 ≤ v4 ∧ v4 < 400)) ∨ (0 < 1 ∧ 6 = 7) by omega), (show fm < fm + 1 ∧ fm + 1 ≤ (I 2753) by omega)⟩
      · have h22 : ¬ (k150_0 = 0) := h22
        show w_W _ _ _ (158, [(4, .int (Int32.ofInt (k150_0))), (0, .ref 43), (1, .int (Int32.ofInt (fm))), (2, .int (Int32.ofInt (v4))), (3, .int (Int32.ofInt (v14)))], [.ref 43], M) _
        refine w_adv (n := 2) (F' := (163, [(4, .int (Int32.ofInt (k150_0))), (0, .ref 43), (1, .int (Int32.ofInt (fm))), (2, .int (Int32.ofInt (v4))), (3, .int (Int32.ofInt (v14)))], [.int (Int32.ofInt (0)), .ref 43], M)) rfl ?_
        refine w_pf hR rfl rfl rfl rfl (show w_in (0) from ⟨by omega, by omega⟩) (fun h => absurd h (by decide)) (fun M34 hR35 => ?_)
        replace hR35 : w_Rep w_TM fr X u l (w_up I 2759 (0)) A B C M34 := hR35
        refine w_adv (n := 2) (F' := (169, [(4, .int (Int32.ofInt (k150_0))), (0, .ref 43), (1, .int (Int32.ofInt (fm))), (2, .int (Int32.ofInt (v4))), (3, .int (Int32.ofInt (v14)))], [.int (Int32.ofInt (k150_0)), .ref 43], M34)) rfl ?_
        refine w_br1 (a := k150_0) rfl rfl ⟨by omega, by omega⟩ (fun h36 => ?_) (fun h36 => ?_)
        · have h36 : k150_0 = 0 := h36
          show w_W _ _ _ (177, [(4, .int (Int32.ofInt (k150_0))), (0, .ref 43), (1, .int (Int32.ofInt (fm))), (2, .int (Int32.ofInt (v4))), (3, .int (Int32.ofInt (v14)))], [.ref 43], M34) _
          refine w_adv (n := 5) (F' := (183, [(4, .int (Int32.ofInt (k150_0))), (0, .ref 43), (1, .int (Int32.ofInt (fm))), (2, .int (Int32.ofInt (v4))), (3, .int (Int32.ofInt (v14)))], [.int (Int32.ofInt (1)), .int (Int32.ofInt (fm)), .int (Int32.ofInt (fm)), .int (Int32.ofInt (v4)), .int (Int32.ofInt (7)), .ref 43], M34)) rfl ?_
          refine w_add rfl ?_
          refine w_call (cm := 224) (as := [(0, .ref 43), (1, .int (Int32.ofInt (7))), (2, .int (Int32.ofInt (v4))), (3, .int (Int32.ofInt (fm))), (4, .int (Int32.ofInt (fm + 1)))]) (rest := []) (o := some (9, 43)) rfl (w_fitR hR35 rfl) (m_token (7) (v4) (fm) (fm + 1) hR35 ⟨by omega, by omega⟩ ⟨by omega, by omega⟩ ⟨by omega, by omega⟩ ⟨by omega, by omega⟩ (show 0 ≤ (I 2754) ∧ (I 2754) ≤ 1501 by first | assumption | omega)) (fun r37 M38 q39 => ?_)
          rcases q39 with ⟨e40, hR39a⟩
          rw [e40]
          replace hR39a : w_Rep w_TM fr X u l (w_up (w_up I 2759 (0)) 2754 ((I 2754) + 1)) (w_upF (w_upF (w_upF (w_upF A 45 (w_upA (A 45) ((I 2754)) (7))) 46 (w_upA (A 46) ((I 2754)) (v4))) 47 (w_upA (A 47) ((I 2754)) (fm))) 48 (w_upA (A 48) ((I 2754)) (fm + 1))) B C M38 := hR39a
          show w_W _ _ _ (187, [(4, .int (Int32.ofInt (k150_0))), (0, .ref 43), (1, .int (Int32.ofInt (fm))), (2, .int (Int32.ofInt (v4))), (3, .int (Int32.ofInt (v14)))], [], M38) _
          refine w_adv (n := 2) (F' := (189, [(4, .int (Int32.ofInt (k150_0))), (0, .ref 43), (1, .int (Int32.ofInt (fm))), (2, .int (Int32.ofInt (v4))), (3, .int (Int32.ofInt (v14)))], [.int (Int32.ofInt (1)), .int (Int32.ofInt (fm))], M38)) rfl ?_
          refine w_add rfl ?_
          refine w_fin (r := .inl (some (fm + 1))) (M' := M38) rfl ?_
          exact ⟨fm + 1, 7, v4, fm, fm + 1, 0, rfl, ⟨by omega, by omega⟩, hR39a, (show (0 = 0 ∧ 1 ≤ 7 ∧ 7 ≤ 6 ∧ (7 = 2 → 0 ≤ v4 ∧ v4 < 400)) ∨ (0 < 0 ∧ 7 = 7) by omega), (show fm < fm + 1 ∧ fm + 1 ≤ (I 2753) by omega)⟩
        · have h36 : ¬ (k150_0 = 0) := h36
          show w_W _ _ _ (172, [(4, .int (Int32.ofInt (k150_0))), (0, .ref 43), (1, .int (Int32.ofInt (fm))), (2, .int (Int32.ofInt (v4))), (3, .int (Int32.ofInt (v14)))], [.ref 43], M34) _
          refine w_adv (n := 6) (F' := (183, [(4, .int (Int32.ofInt (k150_0))), (0, .ref 43), (1, .int (Int32.ofInt (fm))), (2, .int (Int32.ofInt (v4))), (3, .int (Int32.ofInt (v14)))], [.int (Int32.ofInt (1)), .int (Int32.ofInt (fm)), .int (Int32.ofInt (fm)), .int (Int32.ofInt (v4)), .int (Int32.ofInt (6)), .ref 43], M34)) rfl ?_
          refine w_add rfl ?_
          refine w_call (cm := 224) (as := [(0, .ref 43), (1, .int (Int32.ofInt (6))), (2, .int (Int32.ofInt (v4))), (3, .int (Int32.ofInt (fm))), (4, .int (Int32.ofInt (fm + 1)))]) (rest := []) (o := some (9, 43)) rfl (w_fitR hR35 rfl) (m_token (6) (v4) (fm) (fm + 1) hR35 ⟨by omega, by omega⟩ ⟨by omega, by omega⟩ ⟨by omega, by omega⟩ ⟨by omega, by omega⟩ (show 0 ≤ (I 2754) ∧ (I 2754) ≤ 1501 by first | assumption | omega)) (fun r41 M42 q43 => ?_)
          rcases q43 with ⟨e44, hR43a⟩
          rw [e44]
          replace hR43a : w_Rep w_TM fr X u l (w_up (w_up I 2759 (0)) 2754 ((I 2754) + 1)) (w_upF (w_upF (w_upF (w_upF A 45 (w_upA (A 45) ((I 2754)) (6))) 46 (w_upA (A 46) ((I 2754)) (v4))) 47 (w_upA (A 47) ((I 2754)) (fm))) 48 (w_upA (A 48) ((I 2754)) (fm + 1))) B C M42 := hR43a
          show w_W _ _ _ (187, [(4, .int (Int32.ofInt (k150_0))), (0, .ref 43), (1, .int (Int32.ofInt (fm))), (2, .int (Int32.ofInt (v4))), (3, .int (Int32.ofInt (v14)))], [], M42) _
          refine w_adv (n := 2) (F' := (189, [(4, .int (Int32.ofInt (k150_0))), (0, .ref 43), (1, .int (Int32.ofInt (fm))), (2, .int (Int32.ofInt (v4))), (3, .int (Int32.ofInt (v14)))], [.int (Int32.ofInt (1)), .int (Int32.ofInt (fm))], M42)) rfl ?_
          refine w_add rfl ?_
          refine w_fin (r := .inl (some (fm + 1))) (M' := M42) rfl ?_
          exact ⟨fm + 1, 6, v4, fm, fm + 1, 0, rfl, ⟨by omega, by omega⟩, hR43a, (show (0 = 0 ∧ 1 ≤ 6 ∧ 6 ≤ 6 ∧ (6 = 2 → 0 ≤ v4 ∧ v4 < 400)) ∨ (0 < 0 ∧ 6 = 7) by omega), (show fm < fm + 1 ∧ fm + 1 ≤ (I 2753) by omega)⟩
    refine w_adv (n := 2) (F' := (64, [(3, .int (Int32.ofInt (v14))), (2, .int (Int32.ofInt (v4))), (0, .ref 43), (1, .int (Int32.ofInt (fm)))], [.int (Int32.ofInt (40)), .int (Int32.ofInt (v4))], M)) rfl ?_
    refine w_br2 (a := v4) (b := 40) rfl rfl ⟨by omega, by omega⟩ ⟨by omega, by omega⟩ (fun h45 => ?_) (fun h45 => ?_)
    · have h45 : v4 = 40 := h45
      show w_W _ _ _ (145, [(3, .int (Int32.ofInt (v14))), (2, .int (Int32.ofInt (v4))), (0, .ref 43), (1, .int (Int32.ofInt (fm)))], [], M) _
      refine w_adv (n := 2) (F' := (150, [(3, .int (Int32.ofInt (v14))), (2, .int (Int32.ofInt (v4))), (0, .ref 43), (1, .int (Int32.ofInt (fm)))], [.int (Int32.ofInt (1))], M)) rfl ?_
      refine w_ls (ls := [(0, .ref 43), (1, .int (Int32.ofInt (fm))), (2, .int (Int32.ofInt (v4))), (3, .int (Int32.ofInt (v14)))]) (show List.Nodup [0, 1, 2, 3] by decide) (show List.Nodup [3, 2, 0, 1] by decide) (List.forall_mem_cons.mpr ⟨(List.Mem.tail _ (List.Mem.tail _ (List.Mem.head _))), (List.forall_mem_cons.mpr ⟨(List.Mem.tail _ (List.Mem.tail _ (List.Mem.tail _ (List.Mem.head _)))), (List.forall_mem_cons.mpr ⟨(List.Mem.tail _ (List.Mem.head _)), (List.forall_mem_cons.mpr ⟨(List.Mem.head _), (fun _ h => by cases h)⟩)⟩)⟩)⟩) ?_
      exact jn150 (1) ⟨by omega, by omega⟩ (show 1 = 0 ∨ 1 = 1 by first | assumption | omega)
    · have h45 : ¬ (v4 = 40) := h45
      show w_W _ _ _ (67, [(3, .int (Int32.ofInt (v14))), (2, .int (Int32.ofInt (v4))), (0, .ref 43), (1, .int (Int32.ofInt (fm)))], [], M) _
      refine w_adv (n := 2) (F' := (70, [(3, .int (Int32.ofInt (v14))), (2, .int (Int32.ofInt (v4))), (0, .ref 43), (1, .int (Int32.ofInt (fm)))], [.int (Int32.ofInt (41)), .int (Int32.ofInt (v4))], M)) rfl ?_
      refine w_br2 (a := v4) (b := 41) rfl rfl ⟨by omega, by omega⟩ ⟨by omega, by omega⟩ (fun h46 => ?_) (fun h46 => ?_)
      · have h46 : v4 = 41 := h46
        show w_W _ _ _ (145, [(3, .int (Int32.ofInt (v14))), (2, .int (Int32.ofInt (v4))), (0, .ref 43), (1, .int (Int32.ofInt (fm)))], [], M) _
        refine w_adv (n := 2) (F' := (150, [(3, .int (Int32.ofInt (v14))), (2, .int (Int32.ofInt (v4))), (0, .ref 43), (1, .int (Int32.ofInt (fm)))], [.int (Int32.ofInt (1))], M)) rfl ?_
        refine w_ls (ls := [(0, .ref 43), (1, .int (Int32.ofInt (fm))), (2, .int (Int32.ofInt (v4))), (3, .int (Int32.ofInt (v14)))]) (show List.Nodup [0, 1, 2, 3] by decide) (show List.Nodup [3, 2, 0, 1] by decide) (List.forall_mem_cons.mpr ⟨(List.Mem.tail _ (List.Mem.tail _ (List.Mem.head _))), (List.forall_mem_cons.mpr ⟨(List.Mem.tail _ (List.Mem.tail _ (List.Mem.tail _ (List.Mem.head _)))), (List.forall_mem_cons.mpr ⟨(List.Mem.tail _ (List.Mem.head _)), (List.forall_mem_cons.mpr ⟨(List.Mem.head _), (fun _ h => by cases h)⟩)⟩)⟩)⟩) ?_
        exact jn150 (1) ⟨by omega, by omega⟩ (show 1 = 0 ∨ 1 = 1 by first | assumption | omega)
      · have h46 : ¬ (v4 = 41) := h46
        show w_W _ _ _ (73, [(3, .int (Int32.ofInt (v14))), (2, .int (Int32.ofInt (v4))), (0, .ref 43), (1, .int (Int32.ofInt (fm)))], [], M) _
        refine w_adv (n := 2) (F' := (76, [(3, .int (Int32.ofInt (v14))), (2, .int (Int32.ofInt (v4))), (0, .ref 43), (1, .int (Int32.ofInt (fm)))], [.int (Int32.ofInt (123)), .int (Int32.ofInt (v4))], M)) rfl ?_
        refine w_br2 (a := v4) (b := 123) rfl rfl ⟨by omega, by omega⟩ ⟨by omega, by omega⟩ (fun h47 => ?_) (fun h47 => ?_)
        · have h47 : v4 = 123 := h47
          show w_W _ _ _ (145, [(3, .int (Int32.ofInt (v14))), (2, .int (Int32.ofInt (v4))), (0, .ref 43), (1, .int (Int32.ofInt (fm)))], [], M) _
          refine w_adv (n := 2) (F' := (150, [(3, .int (Int32.ofInt (v14))), (2, .int (Int32.ofInt (v4))), (0, .ref 43), (1, .int (Int32.ofInt (fm)))], [.int (Int32.ofInt (1))], M)) rfl ?_
          refine w_ls (ls := [(0, .ref 43), (1, .int (Int32.ofInt (fm))), (2, .int (Int32.ofInt (v4))), (3, .int (Int32.ofInt (v14)))]) (show List.Nodup [0, 1, 2, 3] by decide) (show List.Nodup [3, 2, 0, 1] by decide) (List.forall_mem_cons.mpr ⟨(List.Mem.tail _ (List.Mem.tail _ (List.Mem.head _))), (List.forall_mem_cons.mpr ⟨(List.Mem.tail _ (List.Mem.tail _ (List.Mem.tail _ (List.Mem.head _)))), (List.forall_mem_cons.mpr ⟨(List.Mem.tail _ (List.Mem.head _)), (List.forall_mem_cons.mpr ⟨(List.Mem.head _), (fun _ h => by cases h)⟩)⟩)⟩)⟩) ?_
          exact jn150 (1) ⟨by omega, by omega⟩ (show 1 = 0 ∨ 1 = 1 by first | assumption | omega)
        · have h47 : ¬ (v4 = 123) := h47
          show w_W _ _ _ (79, [(3, .int (Int32.ofInt (v14))), (2, .int (Int32.ofInt (v4))), (0, .ref 43), (1, .int (Int32.ofInt (fm)))], [], M) _
          refine w_adv (n := 2) (F' := (82, [(3, .int (Int32.ofInt (v14))), (2, .int (Int32.ofInt (v4))), (0, .ref 43), (1, .int (Int32.ofInt (fm)))], [.int (Int32.ofInt (125)), .int (Int32.ofInt (v4))], M)) rfl ?_
          refine w_br2 (a := v4) (b := 125) rfl rfl ⟨by omega, by omega⟩ ⟨by omega, by omega⟩ (fun h48 => ?_) (fun h48 => ?_)
          · have h48 : v4 = 125 := h48
            show w_W _ _ _ (145, [(3, .int (Int32.ofInt (v14))), (2, .int (Int32.ofInt (v4))), (0, .ref 43), (1, .int (Int32.ofInt (fm)))], [], M) _
            refine w_adv (n := 2) (F' := (150, [(3, .int (Int32.ofInt (v14))), (2, .int (Int32.ofInt (v4))), (0, .ref 43), (1, .int (Int32.ofInt (fm)))], [.int (Int32.ofInt (1))], M)) rfl ?_
            refine w_ls (ls := [(0, .ref 43), (1, .int (Int32.ofInt (fm))), (2, .int (Int32.ofInt (v4))), (3, .int (Int32.ofInt (v14)))]) (show List.Nodup [0, 1, 2, 3] by decide) (show List.Nodup [3, 2, 0, 1] by decide) (List.forall_mem_cons.mpr ⟨(List.Mem.tail _ (List.Mem.tail _ (List.Mem.head _))), (List.forall_mem_cons.mpr ⟨(List.Mem.tail _ (List.Mem.tail _ (List.Mem.tail _ (List.Mem.head _)))), (List.forall_mem_cons.mpr ⟨(List.Mem.tail _ (List.Mem.head _)), (List.forall_mem_cons.mpr ⟨(List.Mem.head _), (fun _ h => by cases h)⟩)⟩)⟩)⟩) ?_
            exact jn150 (1) ⟨by omega, by omega⟩ (show 1 = 0 ∨ 1 = 1 by first | assumption | omega)
          · have h48 : ¬ (v4 = 125) := h48
            show w_W _ _ _ (85, [(3, .int (Int32.ofInt (v14))), (2, .int (Int32.ofInt (v4))), (0, .ref 43), (1, .int (Int32.ofInt (fm)))], [], M) _
            refine w_adv (n := 2) (F' := (88, [(3, .int (Int32.ofInt (v14))), (2, .int (Int32.ofInt (v4))), (0, .ref 43), (1, .int (Int32.ofInt (fm)))], [.int (Int32.ofInt (91)), .int (Int32.ofInt (v4))], M)) rfl ?_
            refine w_br2 (a := v4) (b := 91) rfl rfl ⟨by omega, by omega⟩ ⟨by omega, by omega⟩ (fun h49 => ?_) (fun h49 => ?_)
            · have h49 : v4 = 91 := h49
              show w_W _ _ _ (145, [(3, .int (Int32.ofInt (v14))), (2, .int (Int32.ofInt (v4))), (0, .ref 43), (1, .int (Int32.ofInt (fm)))], [], M) _
              refine w_adv (n := 2) (F' := (150, [(3, .int (Int32.ofInt (v14))), (2, .int (Int32.ofInt (v4))), (0, .ref 43), (1, .int (Int32.ofInt (fm)))], [.int (Int32.ofInt (1))], M)) rfl ?_
              refine w_ls (ls := [(0, .ref 43), (1, .int (Int32.ofInt (fm))), (2, .int (Int32.ofInt (v4))), (3, .int (Int32.ofInt (v14)))]) (show List.Nodup [0, 1, 2, 3] by decide) (show List.Nodup [3, 2, 0, 1] by decide) (List.forall_mem_cons.mpr ⟨(List.Mem.tail _ (List.Mem.tail _ (List.Mem.head _))), (List.forall_mem_cons.mpr ⟨(List.Mem.tail _ (List.Mem.tail _ (List.Mem.tail _ (List.Mem.head _)))), (List.forall_mem_cons.mpr ⟨(List.Mem.tail _ (List.Mem.head _)), (List.forall_mem_cons.mpr ⟨(List.Mem.head _), (fun _ h => by cases h)⟩)⟩)⟩)⟩) ?_
              exact jn150 (1) ⟨by omega, by omega⟩ (show 1 = 0 ∨ 1 = 1 by first | assumption | omega)
            · have h49 : ¬ (v4 = 91) := h49
              show w_W _ _ _ (91, [(3, .int (Int32.ofInt (v14))), (2, .int (Int32.ofInt (v4))), (0, .ref 43), (1, .int (Int32.ofInt (fm)))], [], M) _
              refine w_adv (n := 2) (F' := (94, [(3, .int (Int32.ofInt (v14))), (2, .int (Int32.ofInt (v4))), (0, .ref 43), (1, .int (Int32.ofInt (fm)))], [.int (Int32.ofInt (93)), .int (Int32.ofInt (v4))], M)) rfl ?_
              refine w_br2 (a := v4) (b := 93) rfl rfl ⟨by omega, by omega⟩ ⟨by omega, by omega⟩ (fun h50 => ?_) (fun h50 => ?_)
              · have h50 : v4 = 93 := h50
                show w_W _ _ _ (145, [(3, .int (Int32.ofInt (v14))), (2, .int (Int32.ofInt (v4))), (0, .ref 43), (1, .int (Int32.ofInt (fm)))], [], M) _
                refine w_adv (n := 2) (F' := (150, [(3, .int (Int32.ofInt (v14))), (2, .int (Int32.ofInt (v4))), (0, .ref 43), (1, .int (Int32.ofInt (fm)))], [.int (Int32.ofInt (1))], M)) rfl ?_
                refine w_ls (ls := [(0, .ref 43), (1, .int (Int32.ofInt (fm))), (2, .int (Int32.ofInt (v4))), (3, .int (Int32.ofInt (v14)))]) (show List.Nodup [0, 1, 2, 3] by decide) (show List.Nodup [3, 2, 0, 1] by decide) (List.forall_mem_cons.mpr ⟨(List.Mem.tail _ (List.Mem.tail _ (List.Mem.head _))), (List.forall_mem_cons.mpr ⟨(List.Mem.tail _ (List.Mem.tail _ (List.Mem.tail _ (List.Mem.head _)))), (List.forall_mem_cons.mpr ⟨(List.Mem.tail _ (List.Mem.head _)), (List.forall_mem_cons.mpr ⟨(List.Mem.head _), (fun _ h => by cases h)⟩)⟩)⟩)⟩) ?_
                exact jn150 (1) ⟨by omega, by omega⟩ (show 1 = 0 ∨ 1 = 1 by first | assumption | omega)
              · have h50 : ¬ (v4 = 93) := h50
                show w_W _ _ _ (97, [(3, .int (Int32.ofInt (v14))), (2, .int (Int32.ofInt (v4))), (0, .ref 43), (1, .int (Int32.ofInt (fm)))], [], M) _
                refine w_adv (n := 2) (F' := (100, [(3, .int (Int32.ofInt (v14))), (2, .int (Int32.ofInt (v4))), (0, .ref 43), (1, .int (Int32.ofInt (fm)))], [.int (Int32.ofInt (58)), .int (Int32.ofInt (v4))], M)) rfl ?_
                refine w_br2 (a := v4) (b := 58) rfl rfl ⟨by omega, by omega⟩ ⟨by omega, by omega⟩ (fun h51 => ?_) (fun h51 => ?_)
                · have h51 : v4 = 58 := h51
                  show w_W _ _ _ (145, [(3, .int (Int32.ofInt (v14))), (2, .int (Int32.ofInt (v4))), (0, .ref 43), (1, .int (Int32.ofInt (fm)))], [], M) _
                  refine w_adv (n := 2) (F' := (150, [(3, .int (Int32.ofInt (v14))), (2, .int (Int32.ofInt (v4))), (0, .ref 43), (1, .int (Int32.ofInt (fm)))], [.int (Int32.ofInt (1))], M)) rfl ?_
                  refine w_ls (ls := [(0, .ref 43), (1, .int (Int32.ofInt (fm))), (2, .int (Int32.ofInt (v4))), (3, .int (Int32.ofInt (v14)))]) (show List.Nodup [0, 1, 2, 3] by decide) (show List.Nodup [3, 2, 0, 1] by decide) (List.forall_mem_cons.mpr ⟨(List.Mem.tail _ (List.Mem.tail _ (List.Mem.head _))), (List.forall_mem_cons.mpr ⟨(List.Mem.tail _ (List.Mem.tail _ (List.Mem.tail _ (List.Mem.head _)))), (List.forall_mem_cons.mpr ⟨(List.Mem.tail _ (List.Mem.head _)), (List.forall_mem_cons.mpr ⟨(List.Mem.head _), (fun _ h => by cases h)⟩)⟩)⟩)⟩) ?_
                  exact jn150 (1) ⟨by omega, by omega⟩ (show 1 = 0 ∨ 1 = 1 by first | assumption | omega)
                · have h51 : ¬ (v4 = 58) := h51
                  show w_W _ _ _ (103, [(3, .int (Int32.ofInt (v14))), (2, .int (Int32.ofInt (v4))), (0, .ref 43), (1, .int (Int32.ofInt (fm)))], [], M) _
                  refine w_adv (n := 2) (F' := (106, [(3, .int (Int32.ofInt (v14))), (2, .int (Int32.ofInt (v4))), (0, .ref 43), (1, .int (Int32.ofInt (fm)))], [.int (Int32.ofInt (61)), .int (Int32.ofInt (v4))], M)) rfl ?_
                  refine w_br2 (a := v4) (b := 61) rfl rfl ⟨by omega, by omega⟩ ⟨by omega, by omega⟩ (fun h52 => ?_) (fun h52 => ?_)
                  · have h52 : v4 = 61 := h52
                    show w_W _ _ _ (145, [(3, .int (Int32.ofInt (v14))), (2, .int (Int32.ofInt (v4))), (0, .ref 43), (1, .int (Int32.ofInt (fm)))], [], M) _
                    refine w_adv (n := 2) (F' := (150, [(3, .int (Int32.ofInt (v14))), (2, .int (Int32.ofInt (v4))), (0, .ref 43), (1, .int (Int32.ofInt (fm)))], [.int (Int32.ofInt (1))], M)) rfl ?_
                    refine w_ls (ls := [(0, .ref 43), (1, .int (Int32.ofInt (fm))), (2, .int (Int32.ofInt (v4))), (3, .int (Int32.ofInt (v14)))]) (show List.Nodup [0, 1, 2, 3] by decide) (show List.Nodup [3, 2, 0, 1] by decide) (List.forall_mem_cons.mpr ⟨(List.Mem.tail _ (List.Mem.tail _ (List.Mem.head _))), (List.forall_mem_cons.mpr ⟨(List.Mem.tail _ (List.Mem.tail _ (List.Mem.tail _ (List.Mem.head _)))), (List.forall_mem_cons.mpr ⟨(List.Mem.tail _ (List.Mem.head _)), (List.forall_mem_cons.mpr ⟨(List.Mem.head _), (fun _ h => by cases h)⟩)⟩)⟩)⟩) ?_
                    exact jn150 (1) ⟨by omega, by omega⟩ (show 1 = 0 ∨ 1 = 1 by first | assumption | omega)
                  · have h52 : ¬ (v4 = 61) := h52
                    show w_W _ _ _ (109, [(3, .int (Int32.ofInt (v14))), (2, .int (Int32.ofInt (v4))), (0, .ref 43), (1, .int (Int32.ofInt (fm)))], [], M) _
                    refine w_adv (n := 2) (F' := (112, [(3, .int (Int32.ofInt (v14))), (2, .int (Int32.ofInt (v4))), (0, .ref 43), (1, .int (Int32.ofInt (fm)))], [.int (Int32.ofInt (60)), .int (Int32.ofInt (v4))], M)) rfl ?_
                    refine w_br2 (a := v4) (b := 60) rfl rfl ⟨by omega, by omega⟩ ⟨by omega, by omega⟩ (fun h53 => ?_) (fun h53 => ?_)
                    · have h53 : v4 = 60 := h53
                      show w_W _ _ _ (145, [(3, .int (Int32.ofInt (v14))), (2, .int (Int32.ofInt (v4))), (0, .ref 43), (1, .int (Int32.ofInt (fm)))], [], M) _
                      refine w_adv (n := 2) (F' := (150, [(3, .int (Int32.ofInt (v14))), (2, .int (Int32.ofInt (v4))), (0, .ref 43), (1, .int (Int32.ofInt (fm)))], [.int (Int32.ofInt (1))], M)) rfl ?_
                      refine w_ls (ls := [(0, .ref 43), (1, .int (Int32.ofInt (fm))), (2, .int (Int32.ofInt (v4))), (3, .int (Int32.ofInt (v14)))]) (show List.Nodup [0, 1, 2, 3] by decide) (show List.Nodup [3, 2, 0, 1] by decide) (List.forall_mem_cons.mpr ⟨(List.Mem.tail _ (List.Mem.tail _ (List.Mem.head _))), (List.forall_mem_cons.mpr ⟨(List.Mem.tail _ (List.Mem.tail _ (List.Mem.tail _ (List.Mem.head _)))), (List.forall_mem_cons.mpr ⟨(List.Mem.tail _ (List.Mem.head _)), (List.forall_mem_cons.mpr ⟨(List.Mem.head _), (fun _ h => by cases h)⟩)⟩)⟩)⟩) ?_
                      exact jn150 (1) ⟨by omega, by omega⟩ (show 1 = 0 ∨ 1 = 1 by first | assumption | omega)
                    · have h53 : ¬ (v4 = 60) := h53
                      show w_W _ _ _ (115, [(3, .int (Int32.ofInt (v14))), (2, .int (Int32.ofInt (v4))), (0, .ref 43), (1, .int (Int32.ofInt (fm)))], [], M) _
                      refine w_adv (n := 2) (F' := (118, [(3, .int (Int32.ofInt (v14))), (2, .int (Int32.ofInt (v4))), (0, .ref 43), (1, .int (Int32.ofInt (fm)))], [.int (Int32.ofInt (43)), .int (Int32.ofInt (v4))], M)) rfl ?_
                      refine w_br2 (a := v4) (b := 43) rfl rfl ⟨by omega, by omega⟩ ⟨by omega, by omega⟩ (fun h54 => ?_) (fun h54 => ?_)
                      · have h54 : v4 = 43 := h54
                        show w_W _ _ _ (145, [(3, .int (Int32.ofInt (v14))), (2, .int (Int32.ofInt (v4))), (0, .ref 43), (1, .int (Int32.ofInt (fm)))], [], M) _
                        refine w_adv (n := 2) (F' := (150, [(3, .int (Int32.ofInt (v14))), (2, .int (Int32.ofInt (v4))), (0, .ref 43), (1, .int (Int32.ofInt (fm)))], [.int (Int32.ofInt (1))], M)) rfl ?_
                        refine w_ls (ls := [(0, .ref 43), (1, .int (Int32.ofInt (fm))), (2, .int (Int32.ofInt (v4))), (3, .int (Int32.ofInt (v14)))]) (show List.Nodup [0, 1, 2, 3] by decide) (show List.Nodup [3, 2, 0, 1] by decide) (List.forall_mem_cons.mpr ⟨(List.Mem.tail _ (List.Mem.tail _ (List.Mem.head _))), (List.forall_mem_cons.mpr ⟨(List.Mem.tail _ (List.Mem.tail _ (List.Mem.tail _ (List.Mem.head _)))), (List.forall_mem_cons.mpr ⟨(List.Mem.tail _ (List.Mem.head _)), (List.forall_mem_cons.mpr ⟨(List.Mem.head _), (fun _ h => by cases h)⟩)⟩)⟩)⟩) ?_
                        exact jn150 (1) ⟨by omega, by omega⟩ (show 1 = 0 ∨ 1 = 1 by first | assumption | omega)
                      · have h54 : ¬ (v4 = 43) := h54
                        show w_W _ _ _ (121, [(3, .int (Int32.ofInt (v14))), (2, .int (Int32.ofInt (v4))), (0, .ref 43), (1, .int (Int32.ofInt (fm)))], [], M) _
                        refine w_adv (n := 2) (F' := (124, [(3, .int (Int32.ofInt (v14))), (2, .int (Int32.ofInt (v4))), (0, .ref 43), (1, .int (Int32.ofInt (fm)))], [.int (Int32.ofInt (45)), .int (Int32.ofInt (v4))], M)) rfl ?_
                        refine w_br2 (a := v4) (b := 45) rfl rfl ⟨by omega, by omega⟩ ⟨by omega, by omega⟩ (fun h55 => ?_) (fun h55 => ?_)
                        · have h55 : v4 = 45 := h55
                          show w_W _ _ _ (145, [(3, .int (Int32.ofInt (v14))), (2, .int (Int32.ofInt (v4))), (0, .ref 43), (1, .int (Int32.ofInt (fm)))], [], M) _
                          refine w_adv (n := 2) (F' := (150, [(3, .int (Int32.ofInt (v14))), (2, .int (Int32.ofInt (v4))), (0, .ref 43), (1, .int (Int32.ofInt (fm)))], [.int (Int32.ofInt (1))], M)) rfl ?_
                          refine w_ls (ls := [(0, .ref 43), (1, .int (Int32.ofInt (fm))), (2, .int (Int32.ofInt (v4))), (3, .int (Int32.ofInt (v14)))]) (show List.Nodup [0, 1, 2, 3] by decide) (show List.Nodup [3, 2, 0, 1] by decide) (List.forall_mem_cons.mpr ⟨(List.Mem.tail _ (List.Mem.tail _ (List.Mem.head _))), (List.forall_mem_cons.mpr ⟨(List.Mem.tail _ (List.Mem.tail _ (List.Mem.tail _ (List.Mem.head _)))), (List.forall_mem_cons.mpr ⟨(List.Mem.tail _ (List.Mem.head _)), (List.forall_mem_cons.mpr ⟨(List.Mem.head _), (fun _ h => by cases h)⟩)⟩)⟩)⟩) ?_
                          exact jn150 (1) ⟨by omega, by omega⟩ (show 1 = 0 ∨ 1 = 1 by first | assumption | omega)
                        · have h55 : ¬ (v4 = 45) := h55
                          show w_W _ _ _ (127, [(3, .int (Int32.ofInt (v14))), (2, .int (Int32.ofInt (v4))), (0, .ref 43), (1, .int (Int32.ofInt (fm)))], [], M) _
                          refine w_adv (n := 2) (F' := (130, [(3, .int (Int32.ofInt (v14))), (2, .int (Int32.ofInt (v4))), (0, .ref 43), (1, .int (Int32.ofInt (fm)))], [.int (Int32.ofInt (42)), .int (Int32.ofInt (v4))], M)) rfl ?_
                          refine w_br2 (a := v4) (b := 42) rfl rfl ⟨by omega, by omega⟩ ⟨by omega, by omega⟩ (fun h56 => ?_) (fun h56 => ?_)
                          · have h56 : v4 = 42 := h56
                            show w_W _ _ _ (145, [(3, .int (Int32.ofInt (v14))), (2, .int (Int32.ofInt (v4))), (0, .ref 43), (1, .int (Int32.ofInt (fm)))], [], M) _
                            refine w_adv (n := 2) (F' := (150, [(3, .int (Int32.ofInt (v14))), (2, .int (Int32.ofInt (v4))), (0, .ref 43), (1, .int (Int32.ofInt (fm)))], [.int (Int32.ofInt (1))], M)) rfl ?_
                            refine w_ls (ls := [(0, .ref 43), (1, .int (Int32.ofInt (fm))), (2, .int (Int32.ofInt (v4))), (3, .int (Int32.ofInt (v14)))]) (show List.Nodup [0, 1, 2, 3] by decide) (show List.Nodup [3, 2, 0, 1] by decide) (List.forall_mem_cons.mpr ⟨(List.Mem.tail _ (List.Mem.tail _ (List.Mem.head _))), (List.forall_mem_cons.mpr ⟨(List.Mem.tail _ (List.Mem.tail _ (List.Mem.tail _ (List.Mem.head _)))), (List.forall_mem_cons.mpr ⟨(List.Mem.tail _ (List.Mem.head _)), (List.forall_mem_cons.mpr ⟨(List.Mem.head _), (fun _ h => by cases h)⟩)⟩)⟩)⟩) ?_
                            exact jn150 (1) ⟨by omega, by omega⟩ (show 1 = 0 ∨ 1 = 1 by first | assumption | omega)
                          · have h56 : ¬ (v4 = 42) := h56
                            show w_W _ _ _ (133, [(3, .int (Int32.ofInt (v14))), (2, .int (Int32.ofInt (v4))), (0, .ref 43), (1, .int (Int32.ofInt (fm)))], [], M) _
                            refine w_adv (n := 2) (F' := (136, [(3, .int (Int32.ofInt (v14))), (2, .int (Int32.ofInt (v4))), (0, .ref 43), (1, .int (Int32.ofInt (fm)))], [.int (Int32.ofInt (46)), .int (Int32.ofInt (v4))], M)) rfl ?_
                            refine w_br2 (a := v4) (b := 46) rfl rfl ⟨by omega, by omega⟩ ⟨by omega, by omega⟩ (fun h57 => ?_) (fun h57 => ?_)
                            · have h57 : v4 = 46 := h57
                              show w_W _ _ _ (145, [(3, .int (Int32.ofInt (v14))), (2, .int (Int32.ofInt (v4))), (0, .ref 43), (1, .int (Int32.ofInt (fm)))], [], M) _
                              refine w_adv (n := 2) (F' := (150, [(3, .int (Int32.ofInt (v14))), (2, .int (Int32.ofInt (v4))), (0, .ref 43), (1, .int (Int32.ofInt (fm)))], [.int (Int32.ofInt (1))], M)) rfl ?_
                              refine w_ls (ls := [(0, .ref 43), (1, .int (Int32.ofInt (fm))), (2, .int (Int32.ofInt (v4))), (3, .int (Int32.ofInt (v14)))]) (show List.Nodup [0, 1, 2, 3] by decide) (show List.Nodup [3, 2, 0, 1] by decide) (List.forall_mem_cons.mpr ⟨(List.Mem.tail _ (List.Mem.tail _ (List.Mem.head _))), (List.forall_mem_cons.mpr ⟨(List.Mem.tail _ (List.Mem.tail _ (List.Mem.tail _ (List.Mem.head _)))), (List.forall_mem_cons.mpr ⟨(List.Mem.tail _ (List.Mem.head _)), (List.forall_mem_cons.mpr ⟨(List.Mem.head _), (fun _ h => by cases h)⟩)⟩)⟩)⟩) ?_
                              exact jn150 (1) ⟨by omega, by omega⟩ (show 1 = 0 ∨ 1 = 1 by first | assumption | omega)
                            · have h57 : ¬ (v4 = 46) := h57
                              show w_W _ _ _ (139, [(3, .int (Int32.ofInt (v14))), (2, .int (Int32.ofInt (v4))), (0, .ref 43), (1, .int (Int32.ofInt (fm)))], [], M) _
                              refine w_adv (n := 2) (F' := (142, [(3, .int (Int32.ofInt (v14))), (2, .int (Int32.ofInt (v4))), (0, .ref 43), (1, .int (Int32.ofInt (fm)))], [.int (Int32.ofInt (124)), .int (Int32.ofInt (v4))], M)) rfl ?_
                              refine w_br2 (a := v4) (b := 124) rfl rfl ⟨by omega, by omega⟩ ⟨by omega, by omega⟩ (fun h58 => ?_) (fun h58 => ?_)
                              · have h58 : ¬ v4 = 124 := h58
                                show w_W _ _ _ (149, [(3, .int (Int32.ofInt (v14))), (2, .int (Int32.ofInt (v4))), (0, .ref 43), (1, .int (Int32.ofInt (fm)))], [], M) _
                                refine w_adv (n := 1) (F' := (150, [(3, .int (Int32.ofInt (v14))), (2, .int (Int32.ofInt (v4))), (0, .ref 43), (1, .int (Int32.ofInt (fm)))], [.int (Int32.ofInt (0))], M)) rfl ?_
                                refine w_ls (ls := [(0, .ref 43), (1, .int (Int32.ofInt (fm))), (2, .int (Int32.ofInt (v4))), (3, .int (Int32.ofInt (v14)))]) (show List.Nodup [0, 1, 2, 3] by decide) (show List.Nodup [3, 2, 0, 1] by decide) (List.forall_mem_cons.mpr ⟨(List.Mem.tail _ (List.Mem.tail _ (List.Mem.head _))), (List.forall_mem_cons.mpr ⟨(List.Mem.tail _ (List.Mem.tail _ (List.Mem.tail _ (List.Mem.head _)))), (List.forall_mem_cons.mpr ⟨(List.Mem.tail _ (List.Mem.head _)), (List.forall_mem_cons.mpr ⟨(List.Mem.head _), (fun _ h => by cases h)⟩)⟩)⟩)⟩) ?_
                                exact jn150 (0) ⟨by omega, by omega⟩ (show 0 = 0 ∨ 0 = 1 by first | assumption | omega)
                              · have h58 : ¬ (¬ v4 = 124) := h58
                                show w_W _ _ _ (145, [(3, .int (Int32.ofInt (v14))), (2, .int (Int32.ofInt (v4))), (0, .ref 43), (1, .int (Int32.ofInt (fm)))], [], M) _
                                refine w_adv (n := 2) (F' := (150, [(3, .int (Int32.ofInt (v14))), (2, .int (Int32.ofInt (v4))), (0, .ref 43), (1, .int (Int32.ofInt (fm)))], [.int (Int32.ofInt (1))], M)) rfl ?_
                                refine w_ls (ls := [(0, .ref 43), (1, .int (Int32.ofInt (fm))), (2, .int (Int32.ofInt (v4))), (3, .int (Int32.ofInt (v14)))]) (show List.Nodup [0, 1, 2, 3] by decide) (show List.Nodup [3, 2, 0, 1] by decide) (List.forall_mem_cons.mpr ⟨(List.Mem.tail _ (List.Mem.tail _ (List.Mem.head _))), (List.forall_mem_cons.mpr ⟨(List.Mem.tail _ (List.Mem.tail _ (List.Mem.tail _ (List.Mem.head _)))), (List.forall_mem_cons.mpr ⟨(List.Mem.tail _ (List.Mem.head _)), (List.forall_mem_cons.mpr ⟨(List.Mem.head _), (fun _ h => by cases h)⟩)⟩)⟩)⟩) ?_
                                exact jn150 (1) ⟨by omega, by omega⟩ (show 1 = 0 ∨ 1 = 1 by first | assumption | omega)
  · have h21 : ¬ (¬ v4 = 61) := h21
    show w_W _ _ _ (20, [(3, .int (Int32.ofInt (v14))), (2, .int (Int32.ofInt (v4))), (0, .ref 43), (1, .int (Int32.ofInt (fm)))], [], M) _
    refine w_adv (n := 2) (F' := (23, [(3, .int (Int32.ofInt (v14))), (2, .int (Int32.ofInt (v4))), (0, .ref 43), (1, .int (Int32.ofInt (fm)))], [.int (Int32.ofInt (61)), .int (Int32.ofInt (v14))], M)) rfl ?_
    refine w_br2 (a := v14) (b := 61) rfl rfl ⟨by omega, by omega⟩ ⟨by omega, by omega⟩ (fun h59 => ?_) (fun h59 => ?_)
    · have h59 : v14 = 61 := h59
      show w_W _ _ _ (32, [(3, .int (Int32.ofInt (v14))), (2, .int (Int32.ofInt (v4))), (0, .ref 43), (1, .int (Int32.ofInt (fm)))], [], M) _
      refine w_adv (n := 4) (F' := (38, [(3, .int (Int32.ofInt (v14))), (2, .int (Int32.ofInt (v4))), (0, .ref 43), (1, .int (Int32.ofInt (fm)))], [.int (Int32.ofInt (61)), .int (Int32.ofInt (v14)), .int (Int32.ofInt (6)), .ref 43], M)) rfl ?_
      refine w_br2 (a := v14) (b := 61) rfl rfl ⟨by omega, by omega⟩ ⟨by omega, by omega⟩ (fun h60 => ?_) (fun h60 => ?_)
      · have h60 : ¬ v14 = 61 := h60
        show w_W _ _ _ (47, [(3, .int (Int32.ofInt (v14))), (2, .int (Int32.ofInt (v4))), (0, .ref 43), (1, .int (Int32.ofInt (fm)))], [.int (Int32.ofInt (6)), .ref 43], M) _
        refine w_adv (n := 4) (F' := (53, [(3, .int (Int32.ofInt (v14))), (2, .int (Int32.ofInt (v4))), (0, .ref 43), (1, .int (Int32.ofInt (fm)))], [.int (Int32.ofInt (2)), .int (Int32.ofInt (fm)), .int (Int32.ofInt (fm)), .int (Int32.ofInt (257)), .int (Int32.ofInt (6)), .ref 43], M)) rfl ?_
        refine w_add rfl ?_
        refine w_call (cm := 224) (as := [(0, .ref 43), (1, .int (Int32.ofInt (6))), (2, .int (Int32.ofInt (257))), (3, .int (Int32.ofInt (fm))), (4, .int (Int32.ofInt (fm + 2)))]) (rest := []) (o := some (9, 43)) rfl (w_fitR hR rfl) (m_token (6) (257) (fm) (fm + 2) hR ⟨by omega, by omega⟩ ⟨by omega, by omega⟩ ⟨by omega, by omega⟩ ⟨by omega, by omega⟩ (show 0 ≤ (I 2754) ∧ (I 2754) ≤ 1501 by first | assumption | omega)) (fun r61 M62 q63 => ?_)
        rcases q63 with ⟨e64, hR63a⟩
        rw [e64]
        replace hR63a : w_Rep w_TM fr X u l (w_up I 2754 ((I 2754) + 1)) (w_upF (w_upF (w_upF (w_upF A 45 (w_upA (A 45) ((I 2754)) (6))) 46 (w_upA (A 46) ((I 2754)) (257))) 47 (w_upA (A 47) ((I 2754)) (fm))) 48 (w_upA (A 48) ((I 2754)) (fm + 2))) B C M62 := hR63a
        show w_W _ _ _ (57, [(3, .int (Int32.ofInt (v14))), (2, .int (Int32.ofInt (v4))), (0, .ref 43), (1, .int (Int32.ofInt (fm)))], [], M62) _
        refine w_adv (n := 2) (F' := (59, [(3, .int (Int32.ofInt (v14))), (2, .int (Int32.ofInt (v4))), (0, .ref 43), (1, .int (Int32.ofInt (fm)))], [.int (Int32.ofInt (2)), .int (Int32.ofInt (fm))], M62)) rfl ?_
        refine w_add rfl ?_
        refine w_fin (r := .inl (some (fm + 2))) (M' := M62) rfl ?_
        exact ⟨fm + 2, 6, 257, fm, fm + 2, (I 2759), rfl, ⟨by omega, by omega⟩, (w_Rep.up hR63a (show (w_up (w_up I 2759 ((I 2759))) 2754 ((I 2754) + 1)) = (w_up I 2754 ((I 2754) + 1)) from (funext fun s => if e0 : s = 2754 then (by subst e0; rfl) else if e1 : s = 2759 then (by subst e1; rfl) else (by simp only [w_up_ne e0, w_up_ne e1]))) (show (w_upF (w_upF (w_upF (w_upF A 45 (w_upA (A 45) ((I 2754)) (6))) 46 (w_upA (A 46) ((I 2754)) (257))) 47 (w_upA (A 47) ((I 2754)) (fm))) 48 (w_upA (A 48) ((I 2754)) (fm + 2))) = (w_upF (w_upF (w_upF (w_upF A 45 (w_upA (A 45) ((I 2754)) (6))) 46 (w_upA (A 46) ((I 2754)) (257))) 47 (w_upA (A 47) ((I 2754)) (fm))) 48 (w_upA (A 48) ((I 2754)) (fm + 2))) from rfl)), (show ((I 2759) = 0 ∧ 1 ≤ 6 ∧ 6 ≤ 6 ∧ (6 = 2 → 0 ≤ 257 ∧ 257 < 400)) ∨ (0 < (I 2759) ∧ 6 = 7) by omega), (show fm < fm + 2 ∧ fm + 2 ≤ (I 2753) by omega)⟩
      · have h60 : ¬ (¬ v14 = 61) := h60
        show w_W _ _ _ (41, [(3, .int (Int32.ofInt (v14))), (2, .int (Int32.ofInt (v4))), (0, .ref 43), (1, .int (Int32.ofInt (fm)))], [.int (Int32.ofInt (6)), .ref 43], M) _
        refine w_adv (n := 5) (F' := (53, [(3, .int (Int32.ofInt (v14))), (2, .int (Int32.ofInt (v4))), (0, .ref 43), (1, .int (Int32.ofInt (fm)))], [.int (Int32.ofInt (2)), .int (Int32.ofInt (fm)), .int (Int32.ofInt (fm)), .int (Int32.ofInt (256)), .int (Int32.ofInt (6)), .ref 43], M)) rfl ?_
        refine w_add rfl ?_
        refine w_call (cm := 224) (as := [(0, .ref 43), (1, .int (Int32.ofInt (6))), (2, .int (Int32.ofInt (256))), (3, .int (Int32.ofInt (fm))), (4, .int (Int32.ofInt (fm + 2)))]) (rest := []) (o := some (9, 43)) rfl (w_fitR hR rfl) (m_token (6) (256) (fm) (fm + 2) hR ⟨by omega, by omega⟩ ⟨by omega, by omega⟩ ⟨by omega, by omega⟩ ⟨by omega, by omega⟩ (show 0 ≤ (I 2754) ∧ (I 2754) ≤ 1501 by first | assumption | omega)) (fun r65 M66 q67 => ?_)
        rcases q67 with ⟨e68, hR67a⟩
        rw [e68]
        replace hR67a : w_Rep w_TM fr X u l (w_up I 2754 ((I 2754) + 1)) (w_upF (w_upF (w_upF (w_upF A 45 (w_upA (A 45) ((I 2754)) (6))) 46 (w_upA (A 46) ((I 2754)) (256))) 47 (w_upA (A 47) ((I 2754)) (fm))) 48 (w_upA (A 48) ((I 2754)) (fm + 2))) B C M66 := hR67a
        show w_W _ _ _ (57, [(3, .int (Int32.ofInt (v14))), (2, .int (Int32.ofInt (v4))), (0, .ref 43), (1, .int (Int32.ofInt (fm)))], [], M66) _
        refine w_adv (n := 2) (F' := (59, [(3, .int (Int32.ofInt (v14))), (2, .int (Int32.ofInt (v4))), (0, .ref 43), (1, .int (Int32.ofInt (fm)))], [.int (Int32.ofInt (2)), .int (Int32.ofInt (fm))], M66)) rfl ?_
        refine w_add rfl ?_
        refine w_fin (r := .inl (some (fm + 2))) (M' := M66) rfl ?_
        exact ⟨fm + 2, 6, 256, fm, fm + 2, (I 2759), rfl, ⟨by omega, by omega⟩, (w_Rep.up hR67a (show (w_up (w_up I 2759 ((I 2759))) 2754 ((I 2754) + 1)) = (w_up I 2754 ((I 2754) + 1)) from (funext fun s => if e0 : s = 2754 then (by subst e0; rfl) else if e1 : s = 2759 then (by subst e1; rfl) else (by simp only [w_up_ne e0, w_up_ne e1]))) (show (w_upF (w_upF (w_upF (w_upF A 45 (w_upA (A 45) ((I 2754)) (6))) 46 (w_upA (A 46) ((I 2754)) (256))) 47 (w_upA (A 47) ((I 2754)) (fm))) 48 (w_upA (A 48) ((I 2754)) (fm + 2))) = (w_upF (w_upF (w_upF (w_upF A 45 (w_upA (A 45) ((I 2754)) (6))) 46 (w_upA (A 46) ((I 2754)) (256))) 47 (w_upA (A 47) ((I 2754)) (fm))) 48 (w_upA (A 48) ((I 2754)) (fm + 2))) from rfl)), (show ((I 2759) = 0 ∧ 1 ≤ 6 ∧ 6 ≤ 6 ∧ (6 = 2 → 0 ≤ 256 ∧ 256 < 400)) ∨ (0 < (I 2759) ∧ 6 = 7) by omega), (show fm < fm + 2 ∧ fm + 2 ≤ (I 2753) by omega)⟩
    · have h59 : ¬ (v14 = 61) := h59
      show w_W _ _ _ (26, [(3, .int (Int32.ofInt (v14))), (2, .int (Int32.ofInt (v4))), (0, .ref 43), (1, .int (Int32.ofInt (fm)))], [], M) _
      refine w_adv (n := 2) (F' := (29, [(3, .int (Int32.ofInt (v14))), (2, .int (Int32.ofInt (v4))), (0, .ref 43), (1, .int (Int32.ofInt (fm)))], [.int (Int32.ofInt (60)), .int (Int32.ofInt (v14))], M)) rfl ?_
      refine w_br2 (a := v14) (b := 60) rfl rfl ⟨by omega, by omega⟩ ⟨by omega, by omega⟩ (fun h69 => ?_) (fun h69 => ?_)
      · have h69 : ¬ v14 = 60 := h69
        show w_W _ _ _ (61, [(3, .int (Int32.ofInt (v14))), (2, .int (Int32.ofInt (v4))), (0, .ref 43), (1, .int (Int32.ofInt (fm)))], [], M) _
        have jn150 : ∀ (k150_0 : Int), w_in k150_0 → (k150_0 = 0 ∨ k150_0 = 1) → w_W (z_P L xs) (d + 1) 226 (150, [(0, .ref 43), (1, .int (Int32.ofInt (fm))), (2, .int (Int32.ofInt (v4))), (3, .int (Int32.ofInt (v14)))], [.int (Int32.ofInt (k150_0))], M) (m_sign_Q fr X u l I A B C M fm) := by
          intro k150_0 ⟨ra_k150_0, rb_k150_0⟩ hj150_0
          refine w_adv (n := 3) (F' := (155, [(4, .int (Int32.ofInt (k150_0))), (0, .ref 43), (1, .int (Int32.ofInt (fm))), (2, .int (Int32.ofInt (v4))), (3, .int (Int32.ofInt (v14)))], [.int (Int32.ofInt (k150_0)), .ref 43], M)) rfl ?_
          refine w_br1 (a := k150_0) rfl rfl ⟨by omega, by omega⟩ (fun h70 => ?_) (fun h70 => ?_)
          · have h70 : k150_0 = 0 := h70
            show w_W _ _ _ (162, [(4, .int (Int32.ofInt (k150_0))), (0, .ref 43), (1, .int (Int32.ofInt (fm))), (2, .int (Int32.ofInt (v4))), (3, .int (Int32.ofInt (v14)))], [.ref 43], M) _
            refine w_adv (n := 1) (F' := (163, [(4, .int (Int32.ofInt (k150_0))), (0, .ref 43), (1, .int (Int32.ofInt (fm))), (2, .int (Int32.ofInt (v4))), (3, .int (Int32.ofInt (v14)))], [.int (Int32.ofInt (1)), .ref 43], M)) rfl ?_
            refine w_pf hR rfl rfl rfl rfl (show w_in (1) from ⟨by omega, by omega⟩) (fun h => absurd h (by decide)) (fun M71 hR72 => ?_)
            replace hR72 : w_Rep w_TM fr X u l (w_up I 2759 (1)) A B C M71 := hR72
            refine w_adv (n := 2) (F' := (169, [(4, .int (Int32.ofInt (k150_0))), (0, .ref 43), (1, .int (Int32.ofInt (fm))), (2, .int (Int32.ofInt (v4))), (3, .int (Int32.ofInt (v14)))], [.int (Int32.ofInt (k150_0)), .ref 43], M71)) rfl ?_
            refine w_br1 (a := k150_0) rfl rfl ⟨by omega, by omega⟩ (fun h73 => ?_) (fun h73 => ?_)
            · have h73 : k150_0 = 0 := h73
              show w_W _ _ _ (177, [(4, .int (Int32.ofInt (k150_0))), (0, .ref 43), (1, .int (Int32.ofInt (fm))), (2, .int (Int32.ofInt (v4))), (3, .int (Int32.ofInt (v14)))], [.ref 43], M71) _
              refine w_adv (n := 5) (F' := (183, [(4, .int (Int32.ofInt (k150_0))), (0, .ref 43), (1, .int (Int32.ofInt (fm))), (2, .int (Int32.ofInt (v4))), (3, .int (Int32.ofInt (v14)))], [.int (Int32.ofInt (1)), .int (Int32.ofInt (fm)), .int (Int32.ofInt (fm)), .int (Int32.ofInt (v4)), .int (Int32.ofInt (7)), .ref 43], M71)) rfl ?_
              refine w_add rfl ?_
              refine w_call (cm := 224) (as := [(0, .ref 43), (1, .int (Int32.ofInt (7))), (2, .int (Int32.ofInt (v4))), (3, .int (Int32.ofInt (fm))), (4, .int (Int32.ofInt (fm + 1)))]) (rest := []) (o := some (9, 43)) rfl (w_fitR hR72 rfl) (m_token (7) (v4) (fm) (fm + 1) hR72 ⟨by omega, by omega⟩ ⟨by omega, by omega⟩ ⟨by omega, by omega⟩ ⟨by omega, by omega⟩ (show 0 ≤ (I 2754) ∧ (I 2754) ≤ 1501 by first | assumption | omega)) (fun r74 M75 q76 => ?_)
              rcases q76 with ⟨e77, hR76a⟩
              rw [e77]
              replace hR76a : w_Rep w_TM fr X u l (w_up (w_up I 2759 (1)) 2754 ((I 2754) + 1)) (w_upF (w_upF (w_upF (w_upF A 45 (w_upA (A 45) ((I 2754)) (7))) 46 (w_upA (A 46) ((I 2754)) (v4))) 47 (w_upA (A 47) ((I 2754)) (fm))) 48 (w_upA (A 48) ((I 2754)) (fm + 1))) B C M75 := hR76a
              show w_W _ _ _ (187, [(4, .int (Int32.ofInt (k150_0))), (0, .ref 43), (1, .int (Int32.ofInt (fm))), (2, .int (Int32.ofInt (v4))), (3, .int (Int32.ofInt (v14)))], [], M75) _
              refine w_adv (n := 2) (F' := (189, [(4, .int (Int32.ofInt (k150_0))), (0, .ref 43), (1, .int (Int32.ofInt (fm))), (2, .int (Int32.ofInt (v4))), (3, .int (Int32.ofInt (v14)))], [.int (Int32.ofInt (1)), .int (Int32.ofInt (fm))], M75)) rfl ?_
              refine w_add rfl ?_
              refine w_fin (r := .inl (some (fm + 1))) (M' := M75) rfl ?_
              exact ⟨fm + 1, 7, v4, fm, fm + 1, 1, rfl, ⟨by omega, by omega⟩, hR76a, (show (1 = 0 ∧ 1 ≤ 7 ∧ 7 ≤ 6 ∧ (7 = 2 → 0 ≤ v4 ∧ v4 < 400)) ∨ (0 < 1 ∧ 7 = 7) by omega), (show fm < fm + 1 ∧ fm + 1 ≤ (I 2753) by omega)⟩
            · have h73 : ¬ (k150_0 = 0) := h73
              show w_W _ _ _ (172, [(4, .int (Int32.ofInt (k150_0))), (0, .ref 43), (1, .int (Int32.ofInt (fm))), (2, .int (Int32.ofInt (v4))), (3, .int (Int32.ofInt (v14)))], [.ref 43], M71) _
              refine w_adv (n := 6) (F' := (183, [(4, .int (Int32.ofInt (k150_0))), (0, .ref 43), (1, .int (Int32.ofInt (fm))), (2, .int (Int32.ofInt (v4))), (3, .int (Int32.ofInt (v14)))], [.int (Int32.ofInt (1)), .int (Int32.ofInt (fm)), .int (Int32.ofInt (fm)), .int (Int32.ofInt (v4)), .int (Int32.ofInt (6)), .ref 43], M71)) rfl ?_
              refine w_add rfl ?_
              refine w_call (cm := 224) (as := [(0, .ref 43), (1, .int (Int32.ofInt (6))), (2, .int (Int32.ofInt (v4))), (3, .int (Int32.ofInt (fm))), (4, .int (Int32.ofInt (fm + 1)))]) (rest := []) (o := some (9, 43)) rfl (w_fitR hR72 rfl) (m_token (6) (v4) (fm) (fm + 1) hR72 ⟨by omega, by omega⟩ ⟨by omega, by omega⟩ ⟨by omega, by omega⟩ ⟨by omega, by omega⟩ (show 0 ≤ (I 2754) ∧ (I 2754) ≤ 1501 by first | assumption | omega)) (fun r78 M79 q80 => ?_)
              rcases q80 with ⟨e81, hR80a⟩
              rw [e81]
              replace hR80a : w_Rep w_TM fr X u l (w_up (w_up I 2759 (1)) 2754 ((I 2754) + 1)) (w_upF (w_upF (w_upF (w_upF A 45 (w_upA (A 45) ((I 2754)) (6))) 46 (w_upA (A 46) ((I 2754)) (v4))) 47 (w_upA (A 47) ((I 2754)) (fm))) 48 (w_upA (A 48) ((I 2754)) (fm + 1))) B C M79 := hR80a
              show w_W _ _ _ (187, [(4, .int (Int32.ofInt (k150_0))), (0, .ref 43), (1, .int (Int32.ofInt (fm))), (2, .int (Int32.ofInt (v4))), (3, .int (Int32.ofInt (v14)))], [], M79) _
              refine w_adv (n := 2) (F' := (189, [(4, .int (Int32.ofInt (k150_0))), (0, .ref 43), (1, .int (Int32.ofInt (fm))), (2, .int (Int32.ofInt (v4))), (3, .int (Int32.ofInt (v14)))], [.int (Int32.ofInt (1)), .int (Int32.ofInt (fm))], M79)) rfl ?_
              refine w_add rfl ?_
              refine w_fin (r := .inl (some (fm + 1))) (M' := M79) rfl ?_
              exact ⟨fm + 1, 6, v4, fm, fm + 1, 1, rfl, ⟨by omega, by omega⟩, hR80a, (show (1 = 0 ∧ 1 ≤ 6 ∧ 6 ≤ 6 ∧ (6 = 2 → 0 ≤ v4 ∧ v4 < 400)) ∨ (0 < 1 ∧ 6 = 7) by omega), (show fm < fm + 1 ∧ fm + 1 ≤ (I 2753) by omega)⟩
          · have h70 : ¬ (k150_0 = 0) := h70
            show w_W _ _ _ (158, [(4, .int (Int32.ofInt (k150_0))), (0, .ref 43), (1, .int (Int32.ofInt (fm))), (2, .int (Int32.ofInt (v4))), (3, .int (Int32.ofInt (v14)))], [.ref 43], M) _
            refine w_adv (n := 2) (F' := (163, [(4, .int (Int32.ofInt (k150_0))), (0, .ref 43), (1, .int (Int32.ofInt (fm))), (2, .int (Int32.ofInt (v4))), (3, .int (Int32.ofInt (v14)))], [.int (Int32.ofInt (0)), .ref 43], M)) rfl ?_
            refine w_pf hR rfl rfl rfl rfl (show w_in (0) from ⟨by omega, by omega⟩) (fun h => absurd h (by decide)) (fun M82 hR83 => ?_)
            replace hR83 : w_Rep w_TM fr X u l (w_up I 2759 (0)) A B C M82 := hR83
            refine w_adv (n := 2) (F' := (169, [(4, .int (Int32.ofInt (k150_0))), (0, .ref 43), (1, .int (Int32.ofInt (fm))), (2, .int (Int32.ofInt (v4))), (3, .int (Int32.ofInt (v14)))], [.int (Int32.ofInt (k150_0)), .ref 43], M82)) rfl ?_
            refine w_br1 (a := k150_0) rfl rfl ⟨by omega, by omega⟩ (fun h84 => ?_) (fun h84 => ?_)
            · have h84 : k150_0 = 0 := h84
              show w_W _ _ _ (177, [(4, .int (Int32.ofInt (k150_0))), (0, .ref 43), (1, .int (Int32.ofInt (fm))), (2, .int (Int32.ofInt (v4))), (3, .int (Int32.ofInt (v14)))], [.ref 43], M82) _
              refine w_adv (n := 5) (F' := (183, [(4, .int (Int32.ofInt (k150_0))), (0, .ref 43), (1, .int (Int32.ofInt (fm))), (2, .int (Int32.ofInt (v4))), (3, .int (Int32.ofInt (v14)))], [.int (Int32.ofInt (1)), .int (Int32.ofInt (fm)), .int (Int32.ofInt (fm)), .int (Int32.ofInt (v4)), .int (Int32.ofInt (7)), .ref 43], M82)) rfl ?_
              refine w_add rfl ?_
              refine w_call (cm := 224) (as := [(0, .ref 43), (1, .int (Int32.ofInt (7))), (2, .int (Int32.ofInt (v4))), (3, .int (Int32.ofInt (fm))), (4, .int (Int32.ofInt (fm + 1)))]) (rest := []) (o := some (9, 43)) rfl (w_fitR hR83 rfl) (m_token (7) (v4) (fm) (fm + 1) hR83 ⟨by omega, by omega⟩ ⟨by omega, by omega⟩ ⟨by omega, by omega⟩ ⟨by omega, by omega⟩ (show 0 ≤ (I 2754) ∧ (I 2754) ≤ 1501 by first | assumption | omega)) (fun r85 M86 q87 => ?_)
              rcases q87 with ⟨e88, hR87a⟩
              rw [e88]
              replace hR87a : w_Rep w_TM fr X u l (w_up (w_up I 2759 (0)) 2754 ((I 2754) + 1)) (w_upF (w_upF (w_upF (w_upF A 45 (w_upA (A 45) ((I 2754)) (7))) 46 (w_upA (A 46) ((I 2754)) (v4))) 47 (w_upA (A 47) ((I 2754)) (fm))) 48 (w_upA (A 48) ((I 2754)) (fm + 1))) B C M86 := hR87a
              show w_W _ _ _ (187, [(4, .int (Int32.ofInt (k150_0))), (0, .ref 43), (1, .int (Int32.ofInt (fm))), (2, .int (Int32.ofInt (v4))), (3, .int (Int32.ofInt (v14)))], [], M86) _
              refine w_adv (n := 2) (F' := (189, [(4, .int (Int32.ofInt (k150_0))), (0, .ref 43), (1, .int (Int32.ofInt (fm))), (2, .int (Int32.ofInt (v4))), (3, .int (Int32.ofInt (v14)))], [.int (Int32.ofInt (1)), .int (Int32.ofInt (fm))], M86)) rfl ?_
              refine w_add rfl ?_
              refine w_fin (r := .inl (some (fm + 1))) (M' := M86) rfl ?_
              exact ⟨fm + 1, 7, v4, fm, fm + 1, 0, rfl, ⟨by omega, by omega⟩, hR87a, (show (0 = 0 ∧ 1 ≤ 7 ∧ 7 ≤ 6 ∧ (7 = 2 → 0 ≤ v4 ∧ v4 < 400)) ∨ (0 < 0 ∧ 7 = 7) by omega), (show fm < fm + 1 ∧ fm + 1 ≤ (I 2753) by omega)⟩
            · have h84 : ¬ (k150_0 = 0) := h84
              show w_W _ _ _ (172, [(4, .int (Int32.ofInt (k150_0))), (0, .ref 43), (1, .int (Int32.ofInt (fm))), (2, .int (Int32.ofInt (v4))), (3, .int (Int32.ofInt (v14)))], [.ref 43], M82) _
              refine w_adv (n := 6) (F' := (183, [(4, .int (Int32.ofInt (k150_0))), (0, .ref 43), (1, .int (Int32.ofInt (fm))), (2, .int (Int32.ofInt (v4))), (3, .int (Int32.ofInt (v14)))], [.int (Int32.ofInt (1)), .int (Int32.ofInt (fm)), .int (Int32.ofInt (fm)), .int (Int32.ofInt (v4)), .int (Int32.ofInt (6)), .ref 43], M82)) rfl ?_
              refine w_add rfl ?_
              refine w_call (cm := 224) (as := [(0, .ref 43), (1, .int (Int32.ofInt (6))), (2, .int (Int32.ofInt (v4))), (3, .int (Int32.ofInt (fm))), (4, .int (Int32.ofInt (fm + 1)))]) (rest := []) (o := some (9, 43)) rfl (w_fitR hR83 rfl) (m_token (6) (v4) (fm) (fm + 1) hR83 ⟨by omega, by omega⟩ ⟨by omega, by omega⟩ ⟨by omega, by omega⟩ ⟨by omega, by omega⟩ (show 0 ≤ (I 2754) ∧ (I 2754) ≤ 1501 by first | assumption | omega)) (fun r89 M90 q91 => ?_)
              rcases q91 with ⟨e92, hR91a⟩
              rw [e92]
              replace hR91a : w_Rep w_TM fr X u l (w_up (w_up I 2759 (0)) 2754 ((I 2754) + 1)) (w_upF (w_upF (w_upF (w_upF A 45 (w_upA (A 45) ((I 2754)) (6))) 46 (w_upA (A 46) ((I 2754)) (v4))) 47 (w_upA (A 47) ((I 2754)) (fm))) 48 (w_upA (A 48) ((I 2754)) (fm + 1))) B C M90 := hR91a
              show w_W _ _ _ (187, [(4, .int (Int32.ofInt (k150_0))), (0, .ref 43), (1, .int (Int32.ofInt (fm))), (2, .int (Int32.ofInt (v4))), (3, .int (Int32.ofInt (v14)))], [], M90) _
              refine w_adv (n := 2) (F' := (189, [(4, .int (Int32.ofInt (k150_0))), (0, .ref 43), (1, .int (Int32.ofInt (fm))), (2, .int (Int32.ofInt (v4))), (3, .int (Int32.ofInt (v14)))], [.int (Int32.ofInt (1)), .int (Int32.ofInt (fm))], M90)) rfl ?_
              refine w_add rfl ?_
              refine w_fin (r := .inl (some (fm + 1))) (M' := M90) rfl ?_
              exact ⟨fm + 1, 6, v4, fm, fm + 1, 0, rfl, ⟨by omega, by omega⟩, hR91a, (show (0 = 0 ∧ 1 ≤ 6 ∧ 6 ≤ 6 ∧ (6 = 2 → 0 ≤ v4 ∧ v4 < 400)) ∨ (0 < 0 ∧ 6 = 7) by omega), (show fm < fm + 1 ∧ fm + 1 ≤ (I 2753) by omega)⟩
        refine w_adv (n := 2) (F' := (64, [(3, .int (Int32.ofInt (v14))), (2, .int (Int32.ofInt (v4))), (0, .ref 43), (1, .int (Int32.ofInt (fm)))], [.int (Int32.ofInt (40)), .int (Int32.ofInt (v4))], M)) rfl ?_
        refine w_br2 (a := v4) (b := 40) rfl rfl ⟨by omega, by omega⟩ ⟨by omega, by omega⟩ (fun h93 => ?_) (fun h93 => ?_)
        · have h93 : v4 = 40 := h93
          show w_W _ _ _ (145, [(3, .int (Int32.ofInt (v14))), (2, .int (Int32.ofInt (v4))), (0, .ref 43), (1, .int (Int32.ofInt (fm)))], [], M) _
          refine w_adv (n := 2) (F' := (150, [(3, .int (Int32.ofInt (v14))), (2, .int (Int32.ofInt (v4))), (0, .ref 43), (1, .int (Int32.ofInt (fm)))], [.int (Int32.ofInt (1))], M)) rfl ?_
          refine w_ls (ls := [(0, .ref 43), (1, .int (Int32.ofInt (fm))), (2, .int (Int32.ofInt (v4))), (3, .int (Int32.ofInt (v14)))]) (show List.Nodup [0, 1, 2, 3] by decide) (show List.Nodup [3, 2, 0, 1] by decide) (List.forall_mem_cons.mpr ⟨(List.Mem.tail _ (List.Mem.tail _ (List.Mem.head _))), (List.forall_mem_cons.mpr ⟨(List.Mem.tail _ (List.Mem.tail _ (List.Mem.tail _ (List.Mem.head _)))), (List.forall_mem_cons.mpr ⟨(List.Mem.tail _ (List.Mem.head _)), (List.forall_mem_cons.mpr ⟨(List.Mem.head _), (fun _ h => by cases h)⟩)⟩)⟩)⟩) ?_
          exact jn150 (1) ⟨by omega, by omega⟩ (show 1 = 0 ∨ 1 = 1 by first | assumption | omega)
        · have h93 : ¬ (v4 = 40) := h93
          show w_W _ _ _ (67, [(3, .int (Int32.ofInt (v14))), (2, .int (Int32.ofInt (v4))), (0, .ref 43), (1, .int (Int32.ofInt (fm)))], [], M) _
          refine w_adv (n := 2) (F' := (70, [(3, .int (Int32.ofInt (v14))), (2, .int (Int32.ofInt (v4))), (0, .ref 43), (1, .int (Int32.ofInt (fm)))], [.int (Int32.ofInt (41)), .int (Int32.ofInt (v4))], M)) rfl ?_
          refine w_br2 (a := v4) (b := 41) rfl rfl ⟨by omega, by omega⟩ ⟨by omega, by omega⟩ (fun h94 => ?_) (fun h94 => ?_)
          · have h94 : v4 = 41 := h94
            show w_W _ _ _ (145, [(3, .int (Int32.ofInt (v14))), (2, .int (Int32.ofInt (v4))), (0, .ref 43), (1, .int (Int32.ofInt (fm)))], [], M) _
            refine w_adv (n := 2) (F' := (150, [(3, .int (Int32.ofInt (v14))), (2, .int (Int32.ofInt (v4))), (0, .ref 43), (1, .int (Int32.ofInt (fm)))], [.int (Int32.ofInt (1))], M)) rfl ?_
            refine w_ls (ls := [(0, .ref 43), (1, .int (Int32.ofInt (fm))), (2, .int (Int32.ofInt (v4))), (3, .int (Int32.ofInt (v14)))]) (show List.Nodup [0, 1, 2, 3] by decide) (show List.Nodup [3, 2, 0, 1] by decide) (List.forall_mem_cons.mpr ⟨(List.Mem.tail _ (List.Mem.tail _ (List.Mem.head _))), (List.forall_mem_cons.mpr ⟨(List.Mem.tail _ (List.Mem.tail _ (List.Mem.tail _ (List.Mem.head _)))), (List.forall_mem_cons.mpr ⟨(List.Mem.tail _ (List.Mem.head _)), (List.forall_mem_cons.mpr ⟨(List.Mem.head _), (fun _ h => by cases h)⟩)⟩)⟩)⟩) ?_
            exact jn150 (1) ⟨by omega, by omega⟩ (show 1 = 0 ∨ 1 = 1 by first | assumption | omega)
          · have h94 : ¬ (v4 = 41) := h94
            show w_W _ _ _ (73, [(3, .int (Int32.ofInt (v14))), (2, .int (Int32.ofInt (v4))), (0, .ref 43), (1, .int (Int32.ofInt (fm)))], [], M) _
            refine w_adv (n := 2) (F' := (76, [(3, .int (Int32.ofInt (v14))), (2, .int (Int32.ofInt (v4))), (0, .ref 43), (1, .int (Int32.ofInt (fm)))], [.int (Int32.ofInt (123)), .int (Int32.ofInt (v4))], M)) rfl ?_
            refine w_br2 (a := v4) (b := 123) rfl rfl ⟨by omega, by omega⟩ ⟨by omega, by omega⟩ (fun h95 => ?_) (fun h95 => ?_)
            · have h95 : v4 = 123 := h95
              show w_W _ _ _ (145, [(3, .int (Int32.ofInt (v14))), (2, .int (Int32.ofInt (v4))), (0, .ref 43), (1, .int (Int32.ofInt (fm)))], [], M) _
              refine w_adv (n := 2) (F' := (150, [(3, .int (Int32.ofInt (v14))), (2, .int (Int32.ofInt (v4))), (0, .ref 43), (1, .int (Int32.ofInt (fm)))], [.int (Int32.ofInt (1))], M)) rfl ?_
              refine w_ls (ls := [(0, .ref 43), (1, .int (Int32.ofInt (fm))), (2, .int (Int32.ofInt (v4))), (3, .int (Int32.ofInt (v14)))]) (show List.Nodup [0, 1, 2, 3] by decide) (show List.Nodup [3, 2, 0, 1] by decide) (List.forall_mem_cons.mpr ⟨(List.Mem.tail _ (List.Mem.tail _ (List.Mem.head _))), (List.forall_mem_cons.mpr ⟨(List.Mem.tail _ (List.Mem.tail _ (List.Mem.tail _ (List.Mem.head _)))), (List.forall_mem_cons.mpr ⟨(List.Mem.tail _ (List.Mem.head _)), (List.forall_mem_cons.mpr ⟨(List.Mem.head _), (fun _ h => by cases h)⟩)⟩)⟩)⟩) ?_
              exact jn150 (1) ⟨by omega, by omega⟩ (show 1 = 0 ∨ 1 = 1 by first | assumption | omega)
            · have h95 : ¬ (v4 = 123) := h95
              show w_W _ _ _ (79, [(3, .int (Int32.ofInt (v14))), (2, .int (Int32.ofInt (v4))), (0, .ref 43), (1, .int (Int32.ofInt (fm)))], [], M) _
              refine w_adv (n := 2) (F' := (82, [(3, .int (Int32.ofInt (v14))), (2, .int (Int32.ofInt (v4))), (0, .ref 43), (1, .int (Int32.ofInt (fm)))], [.int (Int32.ofInt (125)), .int (Int32.ofInt (v4))], M)) rfl ?_
              refine w_br2 (a := v4) (b := 125) rfl rfl ⟨by omega, by omega⟩ ⟨by omega, by omega⟩ (fun h96 => ?_) (fun h96 => ?_)
              · have h96 : v4 = 125 := h96
                show w_W _ _ _ (145, [(3, .int (Int32.ofInt (v14))), (2, .int (Int32.ofInt (v4))), (0, .ref 43), (1, .int (Int32.ofInt (fm)))], [], M) _
                refine w_adv (n := 2) (F' := (150, [(3, .int (Int32.ofInt (v14))), (2, .int (Int32.ofInt (v4))), (0, .ref 43), (1, .int (Int32.ofInt (fm)))], [.int (Int32.ofInt (1))], M)) rfl ?_
                refine w_ls (ls := [(0, .ref 43), (1, .int (Int32.ofInt (fm))), (2, .int (Int32.ofInt (v4))), (3, .int (Int32.ofInt (v14)))]) (show List.Nodup [0, 1, 2, 3] by decide) (show List.Nodup [3, 2, 0, 1] by decide) (List.forall_mem_cons.mpr ⟨(List.Mem.tail _ (List.Mem.tail _ (List.Mem.head _))), (List.forall_mem_cons.mpr ⟨(List.Mem.tail _ (List.Mem.tail _ (List.Mem.tail _ (List.Mem.head _)))), (List.forall_mem_cons.mpr ⟨(List.Mem.tail _ (List.Mem.head _)), (List.forall_mem_cons.mpr ⟨(List.Mem.head _), (fun _ h => by cases h)⟩)⟩)⟩)⟩) ?_
                exact jn150 (1) ⟨by omega, by omega⟩ (show 1 = 0 ∨ 1 = 1 by first | assumption | omega)
              · have h96 : ¬ (v4 = 125) := h96
                show w_W _ _ _ (85, [(3, .int (Int32.ofInt (v14))), (2, .int (Int32.ofInt (v4))), (0, .ref 43), (1, .int (Int32.ofInt (fm)))], [], M) _
                refine w_adv (n := 2) (F' := (88, [(3, .int (Int32.ofInt (v14))), (2, .int (Int32.ofInt (v4))), (0, .ref 43), (1, .int (Int32.ofInt (fm)))], [.int (Int32.ofInt (91)), .int (Int32.ofInt (v4))], M)) rfl ?_
                refine w_br2 (a := v4) (b := 91) rfl rfl ⟨by omega, by omega⟩ ⟨by omega, by omega⟩ (fun h97 => ?_) (fun h97 => ?_)
                · have h97 : v4 = 91 := h97
                  show w_W _ _ _ (145, [(3, .int (Int32.ofInt (v14))), (2, .int (Int32.ofInt (v4))), (0, .ref 43), (1, .int (Int32.ofInt (fm)))], [], M) _
                  refine w_adv (n := 2) (F' := (150, [(3, .int (Int32.ofInt (v14))), (2, .int (Int32.ofInt (v4))), (0, .ref 43), (1, .int (Int32.ofInt (fm)))], [.int (Int32.ofInt (1))], M)) rfl ?_
                  refine w_ls (ls := [(0, .ref 43), (1, .int (Int32.ofInt (fm))), (2, .int (Int32.ofInt (v4))), (3, .int (Int32.ofInt (v14)))]) (show List.Nodup [0, 1, 2, 3] by decide) (show List.Nodup [3, 2, 0, 1] by decide) (List.forall_mem_cons.mpr ⟨(List.Mem.tail _ (List.Mem.tail _ (List.Mem.head _))), (List.forall_mem_cons.mpr ⟨(List.Mem.tail _ (List.Mem.tail _ (List.Mem.tail _ (List.Mem.head _)))), (List.forall_mem_cons.mpr ⟨(List.Mem.tail _ (List.Mem.head _)), (List.forall_mem_cons.mpr ⟨(List.Mem.head _), (fun _ h => by cases h)⟩)⟩)⟩)⟩) ?_
                  exact jn150 (1) ⟨by omega, by omega⟩ (show 1 = 0 ∨ 1 = 1 by first | assumption | omega)
                · have h97 : ¬ (v4 = 91) := h97
                  show w_W _ _ _ (91, [(3, .int (Int32.ofInt (v14))), (2, .int (Int32.ofInt (v4))), (0, .ref 43), (1, .int (Int32.ofInt (fm)))], [], M) _
                  refine w_adv (n := 2) (F' := (94, [(3, .int (Int32.ofInt (v14))), (2, .int (Int32.ofInt (v4))), (0, .ref 43), (1, .int (Int32.ofInt (fm)))], [.int (Int32.ofInt (93)), .int (Int32.ofInt (v4))], M)) rfl ?_
                  refine w_br2 (a := v4) (b := 93) rfl rfl ⟨by omega, by omega⟩ ⟨by omega, by omega⟩ (fun h98 => ?_) (fun h98 => ?_)
                  · have h98 : v4 = 93 := h98
                    show w_W _ _ _ (145, [(3, .int (Int32.ofInt (v14))), (2, .int (Int32.ofInt (v4))), (0, .ref 43), (1, .int (Int32.ofInt (fm)))], [], M) _
                    refine w_adv (n := 2) (F' := (150, [(3, .int (Int32.ofInt (v14))), (2, .int (Int32.ofInt (v4))), (0, .ref 43), (1, .int (Int32.ofInt (fm)))], [.int (Int32.ofInt (1))], M)) rfl ?_
                    refine w_ls (ls := [(0, .ref 43), (1, .int (Int32.ofInt (fm))), (2, .int (Int32.ofInt (v4))), (3, .int (Int32.ofInt (v14)))]) (show List.Nodup [0, 1, 2, 3] by decide) (show List.Nodup [3, 2, 0, 1] by decide) (List.forall_mem_cons.mpr ⟨(List.Mem.tail _ (List.Mem.tail _ (List.Mem.head _))), (List.forall_mem_cons.mpr ⟨(List.Mem.tail _ (List.Mem.tail _ (List.Mem.tail _ (List.Mem.head _)))), (List.forall_mem_cons.mpr ⟨(List.Mem.tail _ (List.Mem.head _)), (List.forall_mem_cons.mpr ⟨(List.Mem.head _), (fun _ h => by cases h)⟩)⟩)⟩)⟩) ?_
                    exact jn150 (1) ⟨by omega, by omega⟩ (show 1 = 0 ∨ 1 = 1 by first | assumption | omega)
                  · have h98 : ¬ (v4 = 93) := h98
                    show w_W _ _ _ (97, [(3, .int (Int32.ofInt (v14))), (2, .int (Int32.ofInt (v4))), (0, .ref 43), (1, .int (Int32.ofInt (fm)))], [], M) _
                    refine w_adv (n := 2) (F' := (100, [(3, .int (Int32.ofInt (v14))), (2, .int (Int32.ofInt (v4))), (0, .ref 43), (1, .int (Int32.ofInt (fm)))], [.int (Int32.ofInt (58)), .int (Int32.ofInt (v4))], M)) rfl ?_
                    refine w_br2 (a := v4) (b := 58) rfl rfl ⟨by omega, by omega⟩ ⟨by omega, by omega⟩ (fun h99 => ?_) (fun h99 => ?_)
                    · have h99 : v4 = 58 := h99
                      show w_W _ _ _ (145, [(3, .int (Int32.ofInt (v14))), (2, .int (Int32.ofInt (v4))), (0, .ref 43), (1, .int (Int32.ofInt (fm)))], [], M) _
                      refine w_adv (n := 2) (F' := (150, [(3, .int (Int32.ofInt (v14))), (2, .int (Int32.ofInt (v4))), (0, .ref 43), (1, .int (Int32.ofInt (fm)))], [.int (Int32.ofInt (1))], M)) rfl ?_
                      refine w_ls (ls := [(0, .ref 43), (1, .int (Int32.ofInt (fm))), (2, .int (Int32.ofInt (v4))), (3, .int (Int32.ofInt (v14)))]) (show List.Nodup [0, 1, 2, 3] by decide) (show List.Nodup [3, 2, 0, 1] by decide) (List.forall_mem_cons.mpr ⟨(List.Mem.tail _ (List.Mem.tail _ (List.Mem.head _))), (List.forall_mem_cons.mpr ⟨(List.Mem.tail _ (List.Mem.tail _ (List.Mem.tail _ (List.Mem.head _)))), (List.forall_mem_cons.mpr ⟨(List.Mem.tail _ (List.Mem.head _)), (List.forall_mem_cons.mpr ⟨(List.Mem.head _), (fun _ h => by cases h)⟩)⟩)⟩)⟩) ?_
                      exact jn150 (1) ⟨by omega, by omega⟩ (show 1 = 0 ∨ 1 = 1 by first | assumption | omega)
                    · have h99 : ¬ (v4 = 58) := h99
                      show w_W _ _ _ (103, [(3, .int (Int32.ofInt (v14))), (2, .int (Int32.ofInt (v4))), (0, .ref 43), (1, .int (Int32.ofInt (fm)))], [], M) _
                      refine w_adv (n := 2) (F' := (106, [(3, .int (Int32.ofInt (v14))), (2, .int (Int32.ofInt (v4))), (0, .ref 43), (1, .int (Int32.ofInt (fm)))], [.int (Int32.ofInt (61)), .int (Int32.ofInt (v4))], M)) rfl ?_
                      refine w_br2 (a := v4) (b := 61) rfl rfl ⟨by omega, by omega⟩ ⟨by omega, by omega⟩ (fun h100 => ?_) (fun h100 => ?_)
                      · have h100 : v4 = 61 := h100
                        show w_W _ _ _ (145, [(3, .int (Int32.ofInt (v14))), (2, .int (Int32.ofInt (v4))), (0, .ref 43), (1, .int (Int32.ofInt (fm)))], [], M) _
                        refine w_adv (n := 2) (F' := (150, [(3, .int (Int32.ofInt (v14))), (2, .int (Int32.ofInt (v4))), (0, .ref 43), (1, .int (Int32.ofInt (fm)))], [.int (Int32.ofInt (1))], M)) rfl ?_
                        refine w_ls (ls := [(0, .ref 43), (1, .int (Int32.ofInt (fm))), (2, .int (Int32.ofInt (v4))), (3, .int (Int32.ofInt (v14)))]) (show List.Nodup [0, 1, 2, 3] by decide) (show List.Nodup [3, 2, 0, 1] by decide) (List.forall_mem_cons.mpr ⟨(List.Mem.tail _ (List.Mem.tail _ (List.Mem.head _))), (List.forall_mem_cons.mpr ⟨(List.Mem.tail _ (List.Mem.tail _ (List.Mem.tail _ (List.Mem.head _)))), (List.forall_mem_cons.mpr ⟨(List.Mem.tail _ (List.Mem.head _)), (List.forall_mem_cons.mpr ⟨(List.Mem.head _), (fun _ h => by cases h)⟩)⟩)⟩)⟩) ?_
                        exact jn150 (1) ⟨by omega, by omega⟩ (show 1 = 0 ∨ 1 = 1 by first | assumption | omega)
                      · have h100 : ¬ (v4 = 61) := h100
                        show w_W _ _ _ (109, [(3, .int (Int32.ofInt (v14))), (2, .int (Int32.ofInt (v4))), (0, .ref 43), (1, .int (Int32.ofInt (fm)))], [], M) _
                        refine w_adv (n := 2) (F' := (112, [(3, .int (Int32.ofInt (v14))), (2, .int (Int32.ofInt (v4))), (0, .ref 43), (1, .int (Int32.ofInt (fm)))], [.int (Int32.ofInt (60)), .int (Int32.ofInt (v4))], M)) rfl ?_
                        refine w_br2 (a := v4) (b := 60) rfl rfl ⟨by omega, by omega⟩ ⟨by omega, by omega⟩ (fun h101 => ?_) (fun h101 => ?_)
                        · have h101 : v4 = 60 := h101
                          show w_W _ _ _ (145, [(3, .int (Int32.ofInt (v14))), (2, .int (Int32.ofInt (v4))), (0, .ref 43), (1, .int (Int32.ofInt (fm)))], [], M) _
                          refine w_adv (n := 2) (F' := (150, [(3, .int (Int32.ofInt (v14))), (2, .int (Int32.ofInt (v4))), (0, .ref 43), (1, .int (Int32.ofInt (fm)))], [.int (Int32.ofInt (1))], M)) rfl ?_
                          refine w_ls (ls := [(0, .ref 43), (1, .int (Int32.ofInt (fm))), (2, .int (Int32.ofInt (v4))), (3, .int (Int32.ofInt (v14)))]) (show List.Nodup [0, 1, 2, 3] by decide) (show List.Nodup [3, 2, 0, 1] by decide) (List.forall_mem_cons.mpr ⟨(List.Mem.tail _ (List.Mem.tail _ (List.Mem.head _))), (List.forall_mem_cons.mpr ⟨(List.Mem.tail _ (List.Mem.tail _ (List.Mem.tail _ (List.Mem.head _)))), (List.forall_mem_cons.mpr ⟨(List.Mem.tail _ (List.Mem.head _)), (List.forall_mem_cons.mpr ⟨(List.Mem.head _), (fun _ h => by cases h)⟩)⟩)⟩)⟩) ?_
                          exact jn150 (1) ⟨by omega, by omega⟩ (show 1 = 0 ∨ 1 = 1 by first | assumption | omega)
                        · have h101 : ¬ (v4 = 60) := h101
                          show w_W _ _ _ (115, [(3, .int (Int32.ofInt (v14))), (2, .int (Int32.ofInt (v4))), (0, .ref 43), (1, .int (Int32.ofInt (fm)))], [], M) _
                          refine w_adv (n := 2) (F' := (118, [(3, .int (Int32.ofInt (v14))), (2, .int (Int32.ofInt (v4))), (0, .ref 43), (1, .int (Int32.ofInt (fm)))], [.int (Int32.ofInt (43)), .int (Int32.ofInt (v4))], M)) rfl ?_
                          refine w_br2 (a := v4) (b := 43) rfl rfl ⟨by omega, by omega⟩ ⟨by omega, by omega⟩ (fun h102 => ?_) (fun h102 => ?_)
                          · have h102 : v4 = 43 := h102
                            show w_W _ _ _ (145, [(3, .int (Int32.ofInt (v14))), (2, .int (Int32.ofInt (v4))), (0, .ref 43), (1, .int (Int32.ofInt (fm)))], [], M) _
                            refine w_adv (n := 2) (F' := (150, [(3, .int (Int32.ofInt (v14))), (2, .int (Int32.ofInt (v4))), (0, .ref 43), (1, .int (Int32.ofInt (fm)))], [.int (Int32.ofInt (1))], M)) rfl ?_
                            refine w_ls (ls := [(0, .ref 43), (1, .int (Int32.ofInt (fm))), (2, .int (Int32.ofInt (v4))), (3, .int (Int32.ofInt (v14)))]) (show List.Nodup [0, 1, 2, 3] by decide) (show List.Nodup [3, 2, 0, 1] by decide) (List.forall_mem_cons.mpr ⟨(List.Mem.tail _ (List.Mem.tail _ (List.Mem.head _))), (List.forall_mem_cons.mpr ⟨(List.Mem.tail _ (List.Mem.tail _ (List.Mem.tail _ (List.Mem.head _)))), (List.forall_mem_cons.mpr ⟨(List.Mem.tail _ (List.Mem.head _)), (List.forall_mem_cons.mpr ⟨(List.Mem.head _), (fun _ h => by cases h)⟩)⟩)⟩)⟩) ?_
                            exact jn150 (1) ⟨by omega, by omega⟩ (show 1 = 0 ∨ 1 = 1 by first | assumption | omega)
                          · have h102 : ¬ (v4 = 43) := h102
                            show w_W _ _ _ (121, [(3, .int (Int32.ofInt (v14))), (2, .int (Int32.ofInt (v4))), (0, .ref 43), (1, .int (Int32.ofInt (fm)))], [], M) _
                            refine w_adv (n := 2) (F' := (124, [(3, .int (Int32.ofInt (v14))), (2, .int (Int32.ofInt (v4))), (0, .ref 43), (1, .int (Int32.ofInt (fm)))], [.int (Int32.ofInt (45)), .int (Int32.ofInt (v4))], M)) rfl ?_
                            refine w_br2 (a := v4) (b := 45) rfl rfl ⟨by omega, by omega⟩ ⟨by omega, by omega⟩ (fun h103 => ?_) (fun h103 => ?_)
                            · have h103 : v4 = 45 := h103
                              show w_W _ _ _ (145, [(3, .int (Int32.ofInt (v14))), (2, .int (Int32.ofInt (v4))), (0, .ref 43), (1, .int (Int32.ofInt (fm)))], [], M) _
                              refine w_adv (n := 2) (F' := (150, [(3, .int (Int32.ofInt (v14))), (2, .int (Int32.ofInt (v4))), (0, .ref 43), (1, .int (Int32.ofInt (fm)))], [.int (Int32.ofInt (1))], M)) rfl ?_
                              refine w_ls (ls := [(0, .ref 43), (1, .int (Int32.ofInt (fm))), (2, .int (Int32.ofInt (v4))), (3, .int (Int32.ofInt (v14)))]) (show List.Nodup [0, 1, 2, 3] by decide) (show List.Nodup [3, 2, 0, 1] by decide) (List.forall_mem_cons.mpr ⟨(List.Mem.tail _ (List.Mem.tail _ (List.Mem.head _))), (List.forall_mem_cons.mpr ⟨(List.Mem.tail _ (List.Mem.tail _ (List.Mem.tail _ (List.Mem.head _)))), (List.forall_mem_cons.mpr ⟨(List.Mem.tail _ (List.Mem.head _)), (List.forall_mem_cons.mpr ⟨(List.Mem.head _), (fun _ h => by cases h)⟩)⟩)⟩)⟩) ?_
                              exact jn150 (1) ⟨by omega, by omega⟩ (show 1 = 0 ∨ 1 = 1 by first | assumption | omega)
                            · have h103 : ¬ (v4 = 45) := h103
                              show w_W _ _ _ (127, [(3, .int (Int32.ofInt (v14))), (2, .int (Int32.ofInt (v4))), (0, .ref 43), (1, .int (Int32.ofInt (fm)))], [], M) _
                              refine w_adv (n := 2) (F' := (130, [(3, .int (Int32.ofInt (v14))), (2, .int (Int32.ofInt (v4))), (0, .ref 43), (1, .int (Int32.ofInt (fm)))], [.int (Int32.ofInt (42)), .int (Int32.ofInt (v4))], M)) rfl ?_
                              refine w_br2 (a := v4) (b := 42) rfl rfl ⟨by omega, by omega⟩ ⟨by omega, by omega⟩ (fun h104 => ?_) (fun h104 => ?_)
                              · have h104 : v4 = 42 := h104
                                show w_W _ _ _ (145, [(3, .int (Int32.ofInt (v14))), (2, .int (Int32.ofInt (v4))), (0, .ref 43), (1, .int (Int32.ofInt (fm)))], [], M) _
                                refine w_adv (n := 2) (F' := (150, [(3, .int (Int32.ofInt (v14))), (2, .int (Int32.ofInt (v4))), (0, .ref 43), (1, .int (Int32.ofInt (fm)))], [.int (Int32.ofInt (1))], M)) rfl ?_
                                refine w_ls (ls := [(0, .ref 43), (1, .int (Int32.ofInt (fm))), (2, .int (Int32.ofInt (v4))), (3, .int (Int32.ofInt (v14)))]) (show List.Nodup [0, 1, 2, 3] by decide) (show List.Nodup [3, 2, 0, 1] by decide) (List.forall_mem_cons.mpr ⟨(List.Mem.tail _ (List.Mem.tail _ (List.Mem.head _))), (List.forall_mem_cons.mpr ⟨(List.Mem.tail _ (List.Mem.tail _ (List.Mem.tail _ (List.Mem.head _)))), (List.forall_mem_cons.mpr ⟨(List.Mem.tail _ (List.Mem.head _)), (List.forall_mem_cons.mpr ⟨(List.Mem.head _), (fun _ h => by cases h)⟩)⟩)⟩)⟩) ?_
                                exact jn150 (1) ⟨by omega, by omega⟩ (show 1 = 0 ∨ 1 = 1 by first | assumption | omega)
                              · have h104 : ¬ (v4 = 42) := h104
                                show w_W _ _ _ (133, [(3, .int (Int32.ofInt (v14))), (2, .int (Int32.ofInt (v4))), (0, .ref 43), (1, .int (Int32.ofInt (fm)))], [], M) _
                                refine w_adv (n := 2) (F' := (136, [(3, .int (Int32.ofInt (v14))), (2, .int (Int32.ofInt (v4))), (0, .ref 43), (1, .int (Int32.ofInt (fm)))], [.int (Int32.ofInt (46)), .int (Int32.ofInt (v4))], M)) rfl ?_
                                refine w_br2 (a := v4) (b := 46) rfl rfl ⟨by omega, by omega⟩ ⟨by omega, by omega⟩ (fun h105 => ?_) (fun h105 => ?_)
                                · have h105 : v4 = 46 := h105
                                  show w_W _ _ _ (145, [(3, .int (Int32.ofInt (v14))), (2, .int (Int32.ofInt (v4))), (0, .ref 43), (1, .int (Int32.ofInt (fm)))], [], M) _
                                  refine w_adv (n := 2) (F' := (150, [(3, .int (Int32.ofInt (v14))), (2, .int (Int32.ofInt (v4))), (0, .ref 43), (1, .int (Int32.ofInt (fm)))], [.int (Int32.ofInt (1))], M)) rfl ?_
                                  refine w_ls (ls := [(0, .ref 43), (1, .int (Int32.ofInt (fm))), (2, .int (Int32.ofInt (v4))), (3, .int (Int32.ofInt (v14)))]) (show List.Nodup [0, 1, 2, 3] by decide) (show List.Nodup [3, 2, 0, 1] by decide) (List.forall_mem_cons.mpr ⟨(List.Mem.tail _ (List.Mem.tail _ (List.Mem.head _))), (List.forall_mem_cons.mpr ⟨(List.Mem.tail _ (List.Mem.tail _ (List.Mem.tail _ (List.Mem.head _)))), (List.forall_mem_cons.mpr ⟨(List.Mem.tail _ (List.Mem.head _)), (List.forall_mem_cons.mpr ⟨(List.Mem.head _), (fun _ h => by cases h)⟩)⟩)⟩)⟩) ?_
                                  exact jn150 (1) ⟨by omega, by omega⟩ (show 1 = 0 ∨ 1 = 1 by first | assumption | omega)
                                · have h105 : ¬ (v4 = 46) := h105
                                  show w_W _ _ _ (139, [(3, .int (Int32.ofInt (v14))), (2, .int (Int32.ofInt (v4))), (0, .ref 43), (1, .int (Int32.ofInt (fm)))], [], M) _
                                  refine w_adv (n := 2) (F' := (142, [(3, .int (Int32.ofInt (v14))), (2, .int (Int32.ofInt (v4))), (0, .ref 43), (1, .int (Int32.ofInt (fm)))], [.int (Int32.ofInt (124)), .int (Int32.ofInt (v4))], M)) rfl ?_
                                  refine w_br2 (a := v4) (b := 124) rfl rfl ⟨by omega, by omega⟩ ⟨by omega, by omega⟩ (fun h106 => ?_) (fun h106 => ?_)
                                  · have h106 : ¬ v4 = 124 := h106
                                    show w_W _ _ _ (149, [(3, .int (Int32.ofInt (v14))), (2, .int (Int32.ofInt (v4))), (0, .ref 43), (1, .int (Int32.ofInt (fm)))], [], M) _
                                    refine w_adv (n := 1) (F' := (150, [(3, .int (Int32.ofInt (v14))), (2, .int (Int32.ofInt (v4))), (0, .ref 43), (1, .int (Int32.ofInt (fm)))], [.int (Int32.ofInt (0))], M)) rfl ?_
                                    refine w_ls (ls := [(0, .ref 43), (1, .int (Int32.ofInt (fm))), (2, .int (Int32.ofInt (v4))), (3, .int (Int32.ofInt (v14)))]) (show List.Nodup [0, 1, 2, 3] by decide) (show List.Nodup [3, 2, 0, 1] by decide) (List.forall_mem_cons.mpr ⟨(List.Mem.tail _ (List.Mem.tail _ (List.Mem.head _))), (List.forall_mem_cons.mpr ⟨(List.Mem.tail _ (List.Mem.tail _ (List.Mem.tail _ (List.Mem.head _)))), (List.forall_mem_cons.mpr ⟨(List.Mem.tail _ (List.Mem.head _)), (List.forall_mem_cons.mpr ⟨(List.Mem.head _), (fun _ h => by cases h)⟩)⟩)⟩)⟩) ?_
                                    exact jn150 (0) ⟨by omega, by omega⟩ (show 0 = 0 ∨ 0 = 1 by first | assumption | omega)
                                  · have h106 : ¬ (¬ v4 = 124) := h106
                                    show w_W _ _ _ (145, [(3, .int (Int32.ofInt (v14))), (2, .int (Int32.ofInt (v4))), (0, .ref 43), (1, .int (Int32.ofInt (fm)))], [], M) _
                                    refine w_adv (n := 2) (F' := (150, [(3, .int (Int32.ofInt (v14))), (2, .int (Int32.ofInt (v4))), (0, .ref 43), (1, .int (Int32.ofInt (fm)))], [.int (Int32.ofInt (1))], M)) rfl ?_
                                    refine w_ls (ls := [(0, .ref 43), (1, .int (Int32.ofInt (fm))), (2, .int (Int32.ofInt (v4))), (3, .int (Int32.ofInt (v14)))]) (show List.Nodup [0, 1, 2, 3] by decide) (show List.Nodup [3, 2, 0, 1] by decide) (List.forall_mem_cons.mpr ⟨(List.Mem.tail _ (List.Mem.tail _ (List.Mem.head _))), (List.forall_mem_cons.mpr ⟨(List.Mem.tail _ (List.Mem.tail _ (List.Mem.tail _ (List.Mem.head _)))), (List.forall_mem_cons.mpr ⟨(List.Mem.tail _ (List.Mem.head _)), (List.forall_mem_cons.mpr ⟨(List.Mem.head _), (fun _ h => by cases h)⟩)⟩)⟩)⟩) ?_
                                    exact jn150 (1) ⟨by omega, by omega⟩ (show 1 = 0 ∨ 1 = 1 by first | assumption | omega)
      · have h69 : ¬ (¬ v14 = 60) := h69
        show w_W _ _ _ (32, [(3, .int (Int32.ofInt (v14))), (2, .int (Int32.ofInt (v4))), (0, .ref 43), (1, .int (Int32.ofInt (fm)))], [], M) _
        refine w_adv (n := 4) (F' := (38, [(3, .int (Int32.ofInt (v14))), (2, .int (Int32.ofInt (v4))), (0, .ref 43), (1, .int (Int32.ofInt (fm)))], [.int (Int32.ofInt (61)), .int (Int32.ofInt (v14)), .int (Int32.ofInt (6)), .ref 43], M)) rfl ?_
        refine w_br2 (a := v14) (b := 61) rfl rfl ⟨by omega, by omega⟩ ⟨by omega, by omega⟩ (fun h107 => ?_) (fun h107 => ?_)
        · have h107 : ¬ v14 = 61 := h107
          show w_W _ _ _ (47, [(3, .int (Int32.ofInt (v14))), (2, .int (Int32.ofInt (v4))), (0, .ref 43), (1, .int (Int32.ofInt (fm)))], [.int (Int32.ofInt (6)), .ref 43], M) _
          refine w_adv (n := 4) (F' := (53, [(3, .int (Int32.ofInt (v14))), (2, .int (Int32.ofInt (v4))), (0, .ref 43), (1, .int (Int32.ofInt (fm)))], [.int (Int32.ofInt (2)), .int (Int32.ofInt (fm)), .int (Int32.ofInt (fm)), .int (Int32.ofInt (257)), .int (Int32.ofInt (6)), .ref 43], M)) rfl ?_
          refine w_add rfl ?_
          refine w_call (cm := 224) (as := [(0, .ref 43), (1, .int (Int32.ofInt (6))), (2, .int (Int32.ofInt (257))), (3, .int (Int32.ofInt (fm))), (4, .int (Int32.ofInt (fm + 2)))]) (rest := []) (o := some (9, 43)) rfl (w_fitR hR rfl) (m_token (6) (257) (fm) (fm + 2) hR ⟨by omega, by omega⟩ ⟨by omega, by omega⟩ ⟨by omega, by omega⟩ ⟨by omega, by omega⟩ (show 0 ≤ (I 2754) ∧ (I 2754) ≤ 1501 by first | assumption | omega)) (fun r108 M109 q110 => ?_)
          rcases q110 with ⟨e111, hR110a⟩
          rw [e111]
          replace hR110a : w_Rep w_TM fr X u l (w_up I 2754 ((I 2754) + 1)) (w_upF (w_upF (w_upF (w_upF A 45 (w_upA (A 45) ((I 2754)) (6))) 46 (w_upA (A 46) ((I 2754)) (257))) 47 (w_upA (A 47) ((I 2754)) (fm))) 48 (w_upA (A 48) ((I 2754)) (fm + 2))) B C M109 := hR110a
          show w_W _ _ _ (57, [(3, .int (Int32.ofInt (v14))), (2, .int (Int32.ofInt (v4))), (0, .ref 43), (1, .int (Int32.ofInt (fm)))], [], M109) _
          refine w_adv (n := 2) (F' := (59, [(3, .int (Int32.ofInt (v14))), (2, .int (Int32.ofInt (v4))), (0, .ref 43), (1, .int (Int32.ofInt (fm)))], [.int (Int32.ofInt (2)), .int (Int32.ofInt (fm))], M109)) rfl ?_
          refine w_add rfl ?_
          refine w_fin (r := .inl (some (fm + 2))) (M' := M109) rfl ?_
          exact ⟨fm + 2, 6, 257, fm, fm + 2, (I 2759), rfl, ⟨by omega, by omega⟩, (w_Rep.up hR110a (show (w_up (w_up I 2759 ((I 2759))) 2754 ((I 2754) + 1)) = (w_up I 2754 ((I 2754) + 1)) from (funext fun s => if e0 : s = 2754 then (by subst e0; rfl) else if e1 : s = 2759 then (by subst e1; rfl) else (by simp only [w_up_ne e0, w_up_ne e1]))) (show (w_upF (w_upF (w_upF (w_upF A 45 (w_upA (A 45) ((I 2754)) (6))) 46 (w_upA (A 46) ((I 2754)) (257))) 47 (w_upA (A 47) ((I 2754)) (fm))) 48 (w_upA (A 48) ((I 2754)) (fm + 2))) = (w_upF (w_upF (w_upF (w_upF A 45 (w_upA (A 45) ((I 2754)) (6))) 46 (w_upA (A 46) ((I 2754)) (257))) 47 (w_upA (A 47) ((I 2754)) (fm))) 48 (w_upA (A 48) ((I 2754)) (fm + 2))) from rfl)), (show ((I 2759) = 0 ∧ 1 ≤ 6 ∧ 6 ≤ 6 ∧ (6 = 2 → 0 ≤ 257 ∧ 257 < 400)) ∨ (0 < (I 2759) ∧ 6 = 7) by omega), (show fm < fm + 2 ∧ fm + 2 ≤ (I 2753) by omega)⟩
        · have h107 : ¬ (¬ v14 = 61) := h107
          show w_W _ _ _ (41, [(3, .int (Int32.ofInt (v14))), (2, .int (Int32.ofInt (v4))), (0, .ref 43), (1, .int (Int32.ofInt (fm)))], [.int (Int32.ofInt (6)), .ref 43], M) _
          refine w_adv (n := 5) (F' := (53, [(3, .int (Int32.ofInt (v14))), (2, .int (Int32.ofInt (v4))), (0, .ref 43), (1, .int (Int32.ofInt (fm)))], [.int (Int32.ofInt (2)), .int (Int32.ofInt (fm)), .int (Int32.ofInt (fm)), .int (Int32.ofInt (256)), .int (Int32.ofInt (6)), .ref 43], M)) rfl ?_
          refine w_add rfl ?_
          refine w_call (cm := 224) (as := [(0, .ref 43), (1, .int (Int32.ofInt (6))), (2, .int (Int32.ofInt (256))), (3, .int (Int32.ofInt (fm))), (4, .int (Int32.ofInt (fm + 2)))]) (rest := []) (o := some (9, 43)) rfl (w_fitR hR rfl) (m_token (6) (256) (fm) (fm + 2) hR ⟨by omega, by omega⟩ ⟨by omega, by omega⟩ ⟨by omega, by omega⟩ ⟨by omega, by omega⟩ (show 0 ≤ (I 2754) ∧ (I 2754) ≤ 1501 by first | assumption | omega)) (fun r112 M113 q114 => ?_)
          rcases q114 with ⟨e115, hR114a⟩
          rw [e115]
          replace hR114a : w_Rep w_TM fr X u l (w_up I 2754 ((I 2754) + 1)) (w_upF (w_upF (w_upF (w_upF A 45 (w_upA (A 45) ((I 2754)) (6))) 46 (w_upA (A 46) ((I 2754)) (256))) 47 (w_upA (A 47) ((I 2754)) (fm))) 48 (w_upA (A 48) ((I 2754)) (fm + 2))) B C M113 := hR114a
          show w_W _ _ _ (57, [(3, .int (Int32.ofInt (v14))), (2, .int (Int32.ofInt (v4))), (0, .ref 43), (1, .int (Int32.ofInt (fm)))], [], M113) _
          refine w_adv (n := 2) (F' := (59, [(3, .int (Int32.ofInt (v14))), (2, .int (Int32.ofInt (v4))), (0, .ref 43), (1, .int (Int32.ofInt (fm)))], [.int (Int32.ofInt (2)), .int (Int32.ofInt (fm))], M113)) rfl ?_
          refine w_add rfl ?_
          refine w_fin (r := .inl (some (fm + 2))) (M' := M113) rfl ?_
          exact ⟨fm + 2, 6, 256, fm, fm + 2, (I 2759), rfl, ⟨by omega, by omega⟩, (w_Rep.up hR114a (show (w_up (w_up I 2759 ((I 2759))) 2754 ((I 2754) + 1)) = (w_up I 2754 ((I 2754) + 1)) from (funext fun s => if e0 : s = 2754 then (by subst e0; rfl) else if e1 : s = 2759 then (by subst e1; rfl) else (by simp only [w_up_ne e0, w_up_ne e1]))) (show (w_upF (w_upF (w_upF (w_upF A 45 (w_upA (A 45) ((I 2754)) (6))) 46 (w_upA (A 46) ((I 2754)) (256))) 47 (w_upA (A 47) ((I 2754)) (fm))) 48 (w_upA (A 48) ((I 2754)) (fm + 2))) = (w_upF (w_upF (w_upF (w_upF A 45 (w_upA (A 45) ((I 2754)) (6))) 46 (w_upA (A 46) ((I 2754)) (256))) 47 (w_upA (A 47) ((I 2754)) (fm))) 48 (w_upA (A 48) ((I 2754)) (fm + 2))) from rfl)), (show ((I 2759) = 0 ∧ 1 ≤ 6 ∧ 6 ≤ 6 ∧ (6 = 2 → 0 ≤ 256 ∧ 256 < 400)) ∨ (0 < (I 2759) ∧ 6 = 7) by omega), (show fm < fm + 2 ∧ fm + 2 ≤ (I 2753) by omega)⟩
