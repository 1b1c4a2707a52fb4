/-! LOOP of the law. -/
def l_E : w_X → w_M → Prop := fun r M' => r = .inl (some 1) ∧ ∃ (n : Nat) (a b : Int), n ≤ 512 ∧ l_P n a b M'
section LLoop
variable {L : Nat} {xs : Nat → Int32} {n : Nat} {a : Int} {M : w_M} {j : Int}
set_option maxRecDepth 100000 in
theorem l_c0 (hL : L ≤ 1536) (hj : j = 3 * (n : Int)) (hn : 3 * n + 3 ≤ L) (h : l_P n a a M) (K : ∀ (a' : Int) (M' : w_M), l_P (n + 1) a' a' M' → w_W (z_P L xs) 1300 0 (368, [(3, .int (Int32.ofInt j)), (2, .ref 43), (1, .ref 0), (0, .ref 1900000)], [], M') l_E) : w_W (z_P L xs) 1300 0 (88, [(3, .int (Int32.ofInt j)), (2, .ref 43), (1, .ref 0), (0, .ref 1900000)], [], M) l_E := by
  refine w_adv (n := 4) (F' := (92, [(3, .int (Int32.ofInt j)), (2, .ref 43), (1, .ref 0), (0, .ref 1900000)], [.int (Int32.ofInt (1)), .int (Int32.ofInt (j)), .ref 1900000, .ref 0], M)) rfl ?_
  refine w_add rfl ?_
  refine l_sget rfl (show 0 ≤ j + 1 by omega) (show j + 1 < (L : Int) by omega) hL ?_
  show w_W (z_P L xs) 1300 0 (94, [(3, .int (Int32.ofInt j)), (2, .ref 43), (1, .ref 0), (0, .ref 1900000)], [.int (Int32.ofInt ((xs (j + 1).toNat).toInt)), .ref 0], M) l_E
  refine w_adv (n := 6) (F' := (101, [(3, .int (Int32.ofInt j)), (2, .ref 43), (1, .ref 0), (0, .ref 1900000)], [.int (Int32.ofInt (2)), .int (Int32.ofInt (j)), .ref 1900000, .long (((Int32.ofInt ((xs (j + 1).toNat).toInt)).toInt64) <<< ((Int32.ofInt (32)).toInt64 &&& 63)), .ref 0], M)) rfl ?_
  refine w_add rfl ?_
  refine l_sget rfl (show 0 ≤ j + 2 by omega) (show j + 2 < (L : Int) by omega) hL ?_
  show w_W (z_P L xs) 1300 0 (103, [(3, .int (Int32.ofInt j)), (2, .ref 43), (1, .ref 0), (0, .ref 1900000)], [.int (Int32.ofInt ((xs (j + 2).toNat).toInt)), .long (((Int32.ofInt ((xs (j + 1).toNat).toInt)).toInt64) <<< ((Int32.ofInt (32)).toInt64 &&& 63)), .ref 0], M) l_E
  refine w_adv (n := 4) (F' := (109, [(3, .int (Int32.ofInt j)), (2, .ref 43), (1, .ref 0), (0, .ref 1900000)], [.long ((((Int32.ofInt ((xs (j + 1).toNat).toInt)).toInt64) <<< ((Int32.ofInt (32)).toInt64 &&& 63)) ||| (((Int32.ofInt ((xs (j + 2).toNat).toInt)).toInt64) &&& (4294967295))), .ref 0], M)) rfl ?_
  refine w_call (d := 1299) (cm := 37) (as := [(0, .ref 0), (1, .long ((((Int32.ofInt ((xs (j + 1).toNat).toInt)).toInt64) <<< ((Int32.ofInt (32)).toInt64 &&& 63)) ||| (((Int32.ofInt ((xs (j + 2).toNat).toInt)).toInt64) &&& (4294967295))))]) (rest := []) (o := some (0, 0)) rfl (l_fitC h) (l_cput ((((Int32.ofInt ((xs (j + 1).toNat).toInt)).toInt64) <<< ((Int32.ofInt (32)).toInt64 &&& 63)) ||| (((Int32.ofInt ((xs (j + 2).toNat).toInt)).toInt64) &&& (4294967295))) h) (fun r3 M1 q2 => ?_)
  obtain ⟨z9, g10, q2⟩ := q2
  have hzz9 := g10.1
  have h8 := l_P_ab h
  rcases q2 with ⟨c7, e4, h6⟩ | ⟨c7, e4, h6⟩
  · rw [e4]
    show w_W (z_P L xs) 1300 0 (112, [(3, .int (Int32.ofInt j)), (2, .ref 43), (1, .ref 0), (0, .ref 1900000)], [.int (Int32.ofInt ((-2)))], M1) l_E
    refine w_adv (n := 5) (F' := (117, [(3, .int (Int32.ofInt j)), (2, .ref 43), (1, .ref 0), (0, .ref 1900000)], [.int (Int32.ofInt (1)), .int (Int32.ofInt (j)), .ref 1900000, .ref 43], M1)) rfl ?_
    refine w_add rfl ?_
    refine l_sget rfl (show 0 ≤ j + 1 by omega) (show j + 1 < (L : Int) by omega) hL ?_
    show w_W (z_P L xs) 1300 0 (119, [(3, .int (Int32.ofInt j)), (2, .ref 43), (1, .ref 0), (0, .ref 1900000)], [.int (Int32.ofInt ((xs (j + 1).toNat).toInt)), .ref 43], M1) l_E
    refine w_adv (n := 6) (F' := (126, [(3, .int (Int32.ofInt j)), (2, .ref 43), (1, .ref 0), (0, .ref 1900000)], [.int (Int32.ofInt (2)), .int (Int32.ofInt (j)), .ref 1900000, .long (((Int32.ofInt ((xs (j + 1).toNat).toInt)).toInt64) <<< ((Int32.ofInt (32)).toInt64 &&& 63)), .ref 43], M1)) rfl ?_
    refine w_add rfl ?_
    refine l_sget rfl (show 0 ≤ j + 2 by omega) (show j + 2 < (L : Int) by omega) hL ?_
    show w_W (z_P L xs) 1300 0 (128, [(3, .int (Int32.ofInt j)), (2, .ref 43), (1, .ref 0), (0, .ref 1900000)], [.int (Int32.ofInt ((xs (j + 2).toNat).toInt)), .long (((Int32.ofInt ((xs (j + 1).toNat).toInt)).toInt64) <<< ((Int32.ofInt (32)).toInt64 &&& 63)), .ref 43], M1) l_E
    refine w_adv (n := 4) (F' := (134, [(3, .int (Int32.ofInt j)), (2, .ref 43), (1, .ref 0), (0, .ref 1900000)], [.long ((((Int32.ofInt ((xs (j + 1).toNat).toInt)).toInt64) <<< ((Int32.ofInt (32)).toInt64 &&& 63)) ||| (((Int32.ofInt ((xs (j + 2).toNat).toInt)).toInt64) &&& (4294967295))), .ref 43], M1)) rfl ?_
    refine w_call (d := 1299) (cm := 208) (as := [(0, .ref 43), (1, .long ((((Int32.ofInt ((xs (j + 1).toNat).toInt)).toInt64) <<< ((Int32.ofInt (32)).toInt64 &&& 63)) ||| (((Int32.ofInt ((xs (j + 2).toNat).toInt)).toInt64) &&& (4294967295))))]) (rest := []) (o := some (9, 43)) rfl (l_fitM h6) (l_mput ((((Int32.ofInt ((xs (j + 1).toNat).toInt)).toInt64) <<< ((Int32.ofInt (32)).toInt64 &&& 63)) ||| (((Int32.ofInt ((xs (j + 2).toNat).toInt)).toInt64) &&& (4294967295))) h6) (fun r13 M11 q12 => ?_)
    obtain ⟨z19, g20, q12⟩ := q12
    have hzz19 := g20.1
    have ezz19 : z19 = z9 := c_nbp_one g20 g10
    have h18 := l_P_ab h6
    rcases q12 with ⟨c17, e14, h16⟩ | ⟨c17, e14, h16⟩
    · rw [e14]
      show w_W (z_P L xs) 1300 0 (137, [(3, .int (Int32.ofInt j)), (2, .ref 43), (1, .ref 0), (0, .ref 1900000)], [.int (Int32.ofInt ((-2)))], M11) l_E
      refine w_adv (n := 2) (F' := (368, [(3, .int (Int32.ofInt j)), (2, .ref 43), (1, .ref 0), (0, .ref 1900000)], [], M11)) rfl ?_
      exact K (a) M11 (l_P_up h16 (Nat.le_succ n))
    · rw [e14]
      exfalso; omega
  · rw [e4]
    show w_W (z_P L xs) 1300 0 (112, [(3, .int (Int32.ofInt j)), (2, .ref 43), (1, .ref 0), (0, .ref 1900000)], [.int (Int32.ofInt (a + z9))], M1) l_E
    refine w_adv (n := 5) (F' := (117, [(3, .int (Int32.ofInt j)), (2, .ref 43), (1, .ref 0), (0, .ref 1900000)], [.int (Int32.ofInt (1)), .int (Int32.ofInt (j)), .ref 1900000, .ref 43], M1)) rfl ?_
    refine w_add rfl ?_
    refine l_sget rfl (show 0 ≤ j + 1 by omega) (show j + 1 < (L : Int) by omega) hL ?_
    show w_W (z_P L xs) 1300 0 (119, [(3, .int (Int32.ofInt j)), (2, .ref 43), (1, .ref 0), (0, .ref 1900000)], [.int (Int32.ofInt ((xs (j + 1).toNat).toInt)), .ref 43], M1) l_E
    refine w_adv (n := 6) (F' := (126, [(3, .int (Int32.ofInt j)), (2, .ref 43), (1, .ref 0), (0, .ref 1900000)], [.int (Int32.ofInt (2)), .int (Int32.ofInt (j)), .ref 1900000, .long (((Int32.ofInt ((xs (j + 1).toNat).toInt)).toInt64) <<< ((Int32.ofInt (32)).toInt64 &&& 63)), .ref 43], M1)) rfl ?_
    refine w_add rfl ?_
    refine l_sget rfl (show 0 ≤ j + 2 by omega) (show j + 2 < (L : Int) by omega) hL ?_
    show w_W (z_P L xs) 1300 0 (128, [(3, .int (Int32.ofInt j)), (2, .ref 43), (1, .ref 0), (0, .ref 1900000)], [.int (Int32.ofInt ((xs (j + 2).toNat).toInt)), .long (((Int32.ofInt ((xs (j + 1).toNat).toInt)).toInt64) <<< ((Int32.ofInt (32)).toInt64 &&& 63)), .ref 43], M1) l_E
    refine w_adv (n := 4) (F' := (134, [(3, .int (Int32.ofInt j)), (2, .ref 43), (1, .ref 0), (0, .ref 1900000)], [.long ((((Int32.ofInt ((xs (j + 1).toNat).toInt)).toInt64) <<< ((Int32.ofInt (32)).toInt64 &&& 63)) ||| (((Int32.ofInt ((xs (j + 2).toNat).toInt)).toInt64) &&& (4294967295))), .ref 43], M1)) rfl ?_
    refine w_call (d := 1299) (cm := 208) (as := [(0, .ref 43), (1, .long ((((Int32.ofInt ((xs (j + 1).toNat).toInt)).toInt64) <<< ((Int32.ofInt (32)).toInt64 &&& 63)) ||| (((Int32.ofInt ((xs (j + 2).toNat).toInt)).toInt64) &&& (4294967295))))]) (rest := []) (o := some (9, 43)) rfl (l_fitM h6) (l_mput ((((Int32.ofInt ((xs (j + 1).toNat).toInt)).toInt64) <<< ((Int32.ofInt (32)).toInt64 &&& 63)) ||| (((Int32.ofInt ((xs (j + 2).toNat).toInt)).toInt64) &&& (4294967295))) h6) (fun r23 M21 q22 => ?_)
    obtain ⟨z29, g30, q22⟩ := q22
    have hzz29 := g30.1
    have ezz29 : z29 = z9 := c_nbp_one g30 g10
    have h28 := l_P_ab h6
    rcases q22 with ⟨c27, e24, h26⟩ | ⟨c27, e24, h26⟩
    · rw [e24]
      exfalso; omega
    · rw [e24]
      rw [ezz29] at h26
      show w_W (z_P L xs) 1300 0 (137, [(3, .int (Int32.ofInt j)), (2, .ref 43), (1, .ref 0), (0, .ref 1900000)], [.int (Int32.ofInt (a + z29))], M21) l_E
      refine w_adv (n := 2) (F' := (368, [(3, .int (Int32.ofInt j)), (2, .ref 43), (1, .ref 0), (0, .ref 1900000)], [], M21)) rfl ?_
      exact K (a + z9) M21 (l_P_up h26 (Nat.le_succ n))
set_option maxRecDepth 100000 in
theorem l_c1 (hL : L ≤ 1536) (hj : j = 3 * (n : Int)) (hn : 3 * n + 3 ≤ L) (h : l_P n a a M) (K : ∀ (a' : Int) (M' : w_M), l_P (n + 1) a' a' M' → w_W (z_P L xs) 1300 0 (368, [(3, .int (Int32.ofInt j)), (2, .ref 43), (1, .ref 0), (0, .ref 1900000)], [], M') l_E) : w_W (z_P L xs) 1300 0 (141, [(3, .int (Int32.ofInt j)), (2, .ref 43), (1, .ref 0), (0, .ref 1900000)], [], M) l_E := by
  refine w_adv (n := 4) (F' := (145, [(3, .int (Int32.ofInt j)), (2, .ref 43), (1, .ref 0), (0, .ref 1900000)], [.int (Int32.ofInt (1)), .int (Int32.ofInt (j)), .ref 1900000, .ref 0], M)) rfl ?_
  refine w_add rfl ?_
  refine l_sget rfl (show 0 ≤ j + 1 by omega) (show j + 1 < (L : Int) by omega) hL ?_
  show w_W (z_P L xs) 1300 0 (147, [(3, .int (Int32.ofInt j)), (2, .ref 43), (1, .ref 0), (0, .ref 1900000)], [.int (Int32.ofInt ((xs (j + 1).toNat).toInt)), .ref 0], M) l_E
  refine w_call (d := 1299) (cm := 40) (as := [(0, .ref 0), (1, .int (Int32.ofInt ((xs (j + 1).toNat).toInt)))]) (rest := []) (o := some (0, 0)) rfl (l_fitC h) (l_ccut ((xs (j + 1).toNat).toInt) (w_inI _) h) (fun r33 M31 q32 => ?_)
  have h38 := l_P_ab h
  rcases q32 with ⟨c37, e34, h36⟩ | ⟨c37, e34, h36⟩
  · rw [e34]
    show w_W (z_P L xs) 1300 0 (150, [(3, .int (Int32.ofInt j)), (2, .ref 43), (1, .ref 0), (0, .ref 1900000)], [.int (Int32.ofInt ((-1)))], M31) l_E
    refine w_adv (n := 4) (F' := (154, [(3, .int (Int32.ofInt j)), (2, .ref 43), (1, .ref 0), (0, .ref 1900000)], [.int (Int32.ofInt (1)), .int (Int32.ofInt (j)), .ref 1900000, .ref 43, .int (Int32.ofInt ((-1)))], M31)) rfl ?_
    refine w_add rfl ?_
    refine l_sget rfl (show 0 ≤ j + 1 by omega) (show j + 1 < (L : Int) by omega) hL ?_
    show w_W (z_P L xs) 1300 0 (156, [(3, .int (Int32.ofInt j)), (2, .ref 43), (1, .ref 0), (0, .ref 1900000)], [.int (Int32.ofInt ((xs (j + 1).toNat).toInt)), .ref 43, .int (Int32.ofInt ((-1)))], M31) l_E
    refine w_call (d := 1299) (cm := 209) (as := [(0, .ref 43), (1, .int (Int32.ofInt ((xs (j + 1).toNat).toInt)))]) (rest := [.int (Int32.ofInt ((-1)))]) (o := some (9, 43)) rfl (l_fitM h36) (l_mcut ((xs (j + 1).toNat).toInt) (w_inI _) h36) (fun r41 M39 q40 => ?_)
    have h46 := l_P_ab h36
    rcases q40 with ⟨c45, e42, h44⟩ | ⟨c45, e42, h44⟩
    · rw [e42]
      show w_W (z_P L xs) 1300 0 (159, [(3, .int (Int32.ofInt j)), (2, .ref 43), (1, .ref 0), (0, .ref 1900000)], [.int (Int32.ofInt ((-1))), .int (Int32.ofInt ((-1)))], M39) l_E
      have habh47 := l_P_ab h44
      refine w_br2 (a := (-1)) (b := (-1)) rfl rfl ⟨by omega, by omega⟩ ⟨by omega, by omega⟩ (fun h47 => ?_) (fun h47 => ?_)
      · show w_W (z_P L xs) 1300 0 (368, [(3, .int (Int32.ofInt j)), (2, .ref 43), (1, .ref 0), (0, .ref 1900000)], [], M39) l_E
        exact K (a) M39 (l_P_up h44 (Nat.le_succ n))
      · exfalso
        have h47 : ¬ ((-1) = (-1)) := h47
        omega
    · rw [e42]
      exfalso; omega
  · rw [e34]
    show w_W (z_P L xs) 1300 0 (150, [(3, .int (Int32.ofInt j)), (2, .ref 43), (1, .ref 0), (0, .ref 1900000)], [.int (Int32.ofInt ((xs (j + 1).toNat).toInt))], M31) l_E
    refine w_adv (n := 4) (F' := (154, [(3, .int (Int32.ofInt j)), (2, .ref 43), (1, .ref 0), (0, .ref 1900000)], [.int (Int32.ofInt (1)), .int (Int32.ofInt (j)), .ref 1900000, .ref 43, .int (Int32.ofInt ((xs (j + 1).toNat).toInt))], M31)) rfl ?_
    refine w_add rfl ?_
    refine l_sget rfl (show 0 ≤ j + 1 by omega) (show j + 1 < (L : Int) by omega) hL ?_
    show w_W (z_P L xs) 1300 0 (156, [(3, .int (Int32.ofInt j)), (2, .ref 43), (1, .ref 0), (0, .ref 1900000)], [.int (Int32.ofInt ((xs (j + 1).toNat).toInt)), .ref 43, .int (Int32.ofInt ((xs (j + 1).toNat).toInt))], M31) l_E
    refine w_call (d := 1299) (cm := 209) (as := [(0, .ref 43), (1, .int (Int32.ofInt ((xs (j + 1).toNat).toInt)))]) (rest := [.int (Int32.ofInt ((xs (j + 1).toNat).toInt))]) (o := some (9, 43)) rfl (l_fitM h36) (l_mcut ((xs (j + 1).toNat).toInt) (w_inI _) h36) (fun r50 M48 q49 => ?_)
    have h55 := l_P_ab h36
    rcases q49 with ⟨c54, e51, h53⟩ | ⟨c54, e51, h53⟩
    · rw [e51]
      exfalso; omega
    · rw [e51]
      show w_W (z_P L xs) 1300 0 (159, [(3, .int (Int32.ofInt j)), (2, .ref 43), (1, .ref 0), (0, .ref 1900000)], [.int (Int32.ofInt ((xs (j + 1).toNat).toInt)), .int (Int32.ofInt ((xs (j + 1).toNat).toInt))], M48) l_E
      have habh56 := l_P_ab h53
      have hinh56 := w_inI ((xs (j + 1).toNat))
      unfold w_in at hinh56
      refine w_br2 (a := (xs (j + 1).toNat).toInt) (b := (xs (j + 1).toNat).toInt) rfl rfl ⟨by omega, by omega⟩ ⟨by omega, by omega⟩ (fun h56 => ?_) (fun h56 => ?_)
      · show w_W (z_P L xs) 1300 0 (368, [(3, .int (Int32.ofInt j)), (2, .ref 43), (1, .ref 0), (0, .ref 1900000)], [], M48) l_E
        exact K (((xs (j + 1).toNat).toInt)) M48 (l_P_up h53 (Nat.le_succ n))
      · exfalso
        have h56 : ¬ ((xs (j + 1).toNat).toInt = (xs (j + 1).toNat).toInt) := h56
        omega
set_option maxRecDepth 100000 in
theorem l_c2 (hL : L ≤ 1536) (hj : j = 3 * (n : Int)) (hn : 3 * n + 3 ≤ L) (h : l_P n a a M) (K : ∀ (a' : Int) (M' : w_M), l_P (n + 1) a' a' M' → w_W (z_P L xs) 1300 0 (368, [(3, .int (Int32.ofInt j)), (2, .ref 43), (1, .ref 0), (0, .ref 1900000)], [], M') l_E) : w_W (z_P L xs) 1300 0 (164, [(3, .int (Int32.ofInt j)), (2, .ref 43), (1, .ref 0), (0, .ref 1900000)], [], M) l_E := by
  refine w_adv (n := 1) (F' := (165, [(3, .int (Int32.ofInt j)), (2, .ref 43), (1, .ref 0), (0, .ref 1900000)], [.ref 0], M)) rfl ?_
  refine w_call (d := 1299) (cm := 311) (as := [(0, .ref 0)]) (rest := []) (o := some (0, 0)) rfl (l_fitC h) (l_cread h (by omega)) (fun r59 M57 q58 => ?_)
  obtain ⟨v61, e60, h62⟩ := q58
  rw [e60]
  show w_W (z_P L xs) 1300 0 (168, [(3, .int (Int32.ofInt j)), (2, .ref 43), (1, .ref 0), (0, .ref 1900000)], [.int (Int32.ofInt (v61))], M57) l_E
  refine w_adv (n := 2) (F' := (170, [(3, .int (Int32.ofInt j)), (2, .ref 43), (1, .ref 0), (0, .ref 1900000)], [.ref 43], M57)) rfl ?_
  refine w_call (d := 1299) (cm := 312) (as := [(0, .ref 43)]) (rest := []) (o := some (9, 43)) rfl (l_fitM h62) (l_mread h62) (fun r65 M63 q64 => ?_)
  obtain ⟨v67, e66, h68⟩ := q64
  rw [e66]
  show w_W (z_P L xs) 1300 0 (173, [(3, .int (Int32.ofInt j)), (2, .ref 43), (1, .ref 0), (0, .ref 1900000)], [.int (Int32.ofInt (v67))], M63) l_E
  refine w_adv (n := 2) (F' := (368, [(3, .int (Int32.ofInt j)), (2, .ref 43), (1, .ref 0), (0, .ref 1900000)], [], M63)) rfl ?_
  exact K (a) M63 h68
set_option maxRecDepth 100000 in
theorem l_c3 (hL : L ≤ 1536) (hj : j = 3 * (n : Int)) (hn : 3 * n + 3 ≤ L) (h : l_P n a a M) (K : ∀ (a' : Int) (M' : w_M), l_P (n + 1) a' a' M' → w_W (z_P L xs) 1300 0 (368, [(3, .int (Int32.ofInt j)), (2, .ref 43), (1, .ref 0), (0, .ref 1900000)], [], M') l_E) : w_W (z_P L xs) 1300 0 (177, [(3, .int (Int32.ofInt j)), (2, .ref 43), (1, .ref 0), (0, .ref 1900000)], [], M) l_E := by
  refine w_adv (n := 4) (F' := (181, [(3, .int (Int32.ofInt j)), (2, .ref 43), (1, .ref 0), (0, .ref 1900000)], [.int (Int32.ofInt (1)), .int (Int32.ofInt (j)), .ref 1900000, .ref 0], M)) rfl ?_
  refine w_add rfl ?_
  refine l_sget rfl (show 0 ≤ j + 1 by omega) (show j + 1 < (L : Int) by omega) hL ?_
  show w_W (z_P L xs) 1300 0 (183, [(3, .int (Int32.ofInt j)), (2, .ref 43), (1, .ref 0), (0, .ref 1900000)], [.int (Int32.ofInt ((xs (j + 1).toNat).toInt)), .ref 0], M) l_E
  refine w_call (d := 1299) (cm := 191) (as := [(0, .ref 0), (1, .int (Int32.ofInt ((xs (j + 1).toNat).toInt)))]) (rest := []) (o := some (0, 0)) rfl (l_fitC h) (l_k191 ((xs (j + 1).toNat).toInt) (w_inI _) h) (fun r71 M69 q70 => ?_)
  obtain ⟨v73, e72, e75⟩ := q70
  rw [e72, e75]
  show w_W (z_P L xs) 1300 0 (186, [(3, .int (Int32.ofInt j)), (2, .ref 43), (1, .ref 0), (0, .ref 1900000)], [.int (Int32.ofInt (v73))], M) l_E
  refine w_adv (n := 5) (F' := (191, [(3, .int (Int32.ofInt j)), (2, .ref 43), (1, .ref 0), (0, .ref 1900000)], [.int (Int32.ofInt (1)), .int (Int32.ofInt (j)), .ref 1900000, .ref 43], M)) rfl ?_
  refine w_add rfl ?_
  refine l_sget rfl (show 0 ≤ j + 1 by omega) (show j + 1 < (L : Int) by omega) hL ?_
  show w_W (z_P L xs) 1300 0 (193, [(3, .int (Int32.ofInt j)), (2, .ref 43), (1, .ref 0), (0, .ref 1900000)], [.int (Int32.ofInt ((xs (j + 1).toNat).toInt)), .ref 43], M) l_E
  refine w_call (d := 1299) (cm := 305) (as := [(0, .ref 43), (1, .int (Int32.ofInt ((xs (j + 1).toNat).toInt)))]) (rest := []) (o := some (9, 43)) rfl (l_fitM h) (l_k305 ((xs (j + 1).toNat).toInt) (w_inI _) h) (fun r78 M76 q77 => ?_)
  obtain ⟨v80, e79, e82⟩ := q77
  rw [e79, e82]
  show w_W (z_P L xs) 1300 0 (196, [(3, .int (Int32.ofInt j)), (2, .ref 43), (1, .ref 0), (0, .ref 1900000)], [.int (Int32.ofInt (v80))], M) l_E
  refine w_adv (n := 2) (F' := (368, [(3, .int (Int32.ofInt j)), (2, .ref 43), (1, .ref 0), (0, .ref 1900000)], [], M)) rfl ?_
  exact K (a) M (l_P_up h (Nat.le_succ n))
set_option maxRecDepth 100000 in
theorem l_c4 (hL : L ≤ 1536) (hj : j = 3 * (n : Int)) (hn : 3 * n + 3 ≤ L) (h : l_P n a a M) (K : ∀ (a' : Int) (M' : w_M), l_P (n + 1) a' a' M' → w_W (z_P L xs) 1300 0 (368, [(3, .int (Int32.ofInt j)), (2, .ref 43), (1, .ref 0), (0, .ref 1900000)], [], M') l_E) : w_W (z_P L xs) 1300 0 (200, [(3, .int (Int32.ofInt j)), (2, .ref 43), (1, .ref 0), (0, .ref 1900000)], [], M) l_E := by
  refine w_adv (n := 4) (F' := (204, [(3, .int (Int32.ofInt j)), (2, .ref 43), (1, .ref 0), (0, .ref 1900000)], [.int (Int32.ofInt (1)), .int (Int32.ofInt (j)), .ref 1900000, .ref 0], M)) rfl ?_
  refine w_add rfl ?_
  refine l_sget rfl (show 0 ≤ j + 1 by omega) (show j + 1 < (L : Int) by omega) hL ?_
  show w_W (z_P L xs) 1300 0 (206, [(3, .int (Int32.ofInt j)), (2, .ref 43), (1, .ref 0), (0, .ref 1900000)], [.int (Int32.ofInt ((xs (j + 1).toNat).toInt)), .ref 0], M) l_E
  refine w_call (d := 1299) (cm := 192) (as := [(0, .ref 0), (1, .int (Int32.ofInt ((xs (j + 1).toNat).toInt)))]) (rest := []) (o := some (0, 0)) rfl (l_fitC h) (l_k192 ((xs (j + 1).toNat).toInt) (w_inI _) h) (fun r85 M83 q84 => ?_)
  obtain ⟨v87, e86, e89⟩ := q84
  rw [e86, e89]
  show w_W (z_P L xs) 1300 0 (209, [(3, .int (Int32.ofInt j)), (2, .ref 43), (1, .ref 0), (0, .ref 1900000)], [.int (Int32.ofInt (v87))], M) l_E
  refine w_adv (n := 5) (F' := (214, [(3, .int (Int32.ofInt j)), (2, .ref 43), (1, .ref 0), (0, .ref 1900000)], [.int (Int32.ofInt (1)), .int (Int32.ofInt (j)), .ref 1900000, .ref 43], M)) rfl ?_
  refine w_add rfl ?_
  refine l_sget rfl (show 0 ≤ j + 1 by omega) (show j + 1 < (L : Int) by omega) hL ?_
  show w_W (z_P L xs) 1300 0 (216, [(3, .int (Int32.ofInt j)), (2, .ref 43), (1, .ref 0), (0, .ref 1900000)], [.int (Int32.ofInt ((xs (j + 1).toNat).toInt)), .ref 43], M) l_E
  refine w_call (d := 1299) (cm := 306) (as := [(0, .ref 43), (1, .int (Int32.ofInt ((xs (j + 1).toNat).toInt)))]) (rest := []) (o := some (9, 43)) rfl (l_fitM h) (l_k306 ((xs (j + 1).toNat).toInt) (w_inI _) h) (fun r92 M90 q91 => ?_)
  obtain ⟨v94, e93, e96⟩ := q91
  rw [e93, e96]
  show w_W (z_P L xs) 1300 0 (219, [(3, .int (Int32.ofInt j)), (2, .ref 43), (1, .ref 0), (0, .ref 1900000)], [.int (Int32.ofInt (v94))], M) l_E
  refine w_adv (n := 2) (F' := (368, [(3, .int (Int32.ofInt j)), (2, .ref 43), (1, .ref 0), (0, .ref 1900000)], [], M)) rfl ?_
  exact K (a) M (l_P_up h (Nat.le_succ n))
set_option maxRecDepth 100000 in
theorem l_c5 (hL : L ≤ 1536) (hj : j = 3 * (n : Int)) (hn : 3 * n + 3 ≤ L) (h : l_P n a a M) (K : ∀ (a' : Int) (M' : w_M), l_P (n + 1) a' a' M' → w_W (z_P L xs) 1300 0 (368, [(3, .int (Int32.ofInt j)), (2, .ref 43), (1, .ref 0), (0, .ref 1900000)], [], M') l_E) : w_W (z_P L xs) 1300 0 (223, [(3, .int (Int32.ofInt j)), (2, .ref 43), (1, .ref 0), (0, .ref 1900000)], [], M) l_E := by
  refine w_adv (n := 4) (F' := (227, [(3, .int (Int32.ofInt j)), (2, .ref 43), (1, .ref 0), (0, .ref 1900000)], [.int (Int32.ofInt (1)), .int (Int32.ofInt (j)), .ref 1900000, .ref 0], M)) rfl ?_
  refine w_add rfl ?_
  refine l_sget rfl (show 0 ≤ j + 1 by omega) (show j + 1 < (L : Int) by omega) hL ?_
  show w_W (z_P L xs) 1300 0 (229, [(3, .int (Int32.ofInt j)), (2, .ref 43), (1, .ref 0), (0, .ref 1900000)], [.int (Int32.ofInt ((xs (j + 1).toNat).toInt)), .ref 0], M) l_E
  refine w_adv (n := 3) (F' := (232, [(3, .int (Int32.ofInt j)), (2, .ref 43), (1, .ref 0), (0, .ref 1900000)], [.int (Int32.ofInt (2)), .int (Int32.ofInt (j)), .ref 1900000, .int (Int32.ofInt ((xs (j + 1).toNat).toInt)), .ref 0], M)) rfl ?_
  refine w_add rfl ?_
  refine l_sget rfl (show 0 ≤ j + 2 by omega) (show j + 2 < (L : Int) by omega) hL ?_
  show w_W (z_P L xs) 1300 0 (234, [(3, .int (Int32.ofInt j)), (2, .ref 43), (1, .ref 0), (0, .ref 1900000)], [.int (Int32.ofInt ((xs (j + 2).toNat).toInt)), .int (Int32.ofInt ((xs (j + 1).toNat).toInt)), .ref 0], M) l_E
  refine w_call (d := 1299) (cm := 196) (as := [(0, .ref 0), (1, .int (Int32.ofInt ((xs (j + 1).toNat).toInt))), (2, .int (Int32.ofInt ((xs (j + 2).toNat).toInt)))]) (rest := []) (o := some (0, 0)) rfl (l_fitC h) (l_k196 ((xs (j + 1).toNat).toInt) ((xs (j + 2).toNat).toInt) (w_inI _) (w_inI _) h) (fun r99 M97 q98 => ?_)
  obtain ⟨v101, e100, e103⟩ := q98
  rw [e100, e103]
  show w_W (z_P L xs) 1300 0 (237, [(3, .int (Int32.ofInt j)), (2, .ref 43), (1, .ref 0), (0, .ref 1900000)], [.int (Int32.ofInt (v101))], M) l_E
  refine w_adv (n := 5) (F' := (242, [(3, .int (Int32.ofInt j)), (2, .ref 43), (1, .ref 0), (0, .ref 1900000)], [.int (Int32.ofInt (1)), .int (Int32.ofInt (j)), .ref 1900000, .ref 43], M)) rfl ?_
  refine w_add rfl ?_
  refine l_sget rfl (show 0 ≤ j + 1 by omega) (show j + 1 < (L : Int) by omega) hL ?_
  show w_W (z_P L xs) 1300 0 (244, [(3, .int (Int32.ofInt j)), (2, .ref 43), (1, .ref 0), (0, .ref 1900000)], [.int (Int32.ofInt ((xs (j + 1).toNat).toInt)), .ref 43], M) l_E
  refine w_adv (n := 3) (F' := (247, [(3, .int (Int32.ofInt j)), (2, .ref 43), (1, .ref 0), (0, .ref 1900000)], [.int (Int32.ofInt (2)), .int (Int32.ofInt (j)), .ref 1900000, .int (Int32.ofInt ((xs (j + 1).toNat).toInt)), .ref 43], M)) rfl ?_
  refine w_add rfl ?_
  refine l_sget rfl (show 0 ≤ j + 2 by omega) (show j + 2 < (L : Int) by omega) hL ?_
  show w_W (z_P L xs) 1300 0 (249, [(3, .int (Int32.ofInt j)), (2, .ref 43), (1, .ref 0), (0, .ref 1900000)], [.int (Int32.ofInt ((xs (j + 2).toNat).toInt)), .int (Int32.ofInt ((xs (j + 1).toNat).toInt)), .ref 43], M) l_E
  refine w_call (d := 1299) (cm := 307) (as := [(0, .ref 43), (1, .int (Int32.ofInt ((xs (j + 1).toNat).toInt))), (2, .int (Int32.ofInt ((xs (j + 2).toNat).toInt)))]) (rest := []) (o := some (9, 43)) rfl (l_fitM h) (l_k307 ((xs (j + 1).toNat).toInt) ((xs (j + 2).toNat).toInt) (w_inI _) (w_inI _) h) (fun r106 M104 q105 => ?_)
  obtain ⟨v108, e107, e110⟩ := q105
  rw [e107, e110]
  show w_W (z_P L xs) 1300 0 (252, [(3, .int (Int32.ofInt j)), (2, .ref 43), (1, .ref 0), (0, .ref 1900000)], [.int (Int32.ofInt (v108))], M) l_E
  refine w_adv (n := 2) (F' := (368, [(3, .int (Int32.ofInt j)), (2, .ref 43), (1, .ref 0), (0, .ref 1900000)], [], M)) rfl ?_
  exact K (a) M (l_P_up h (Nat.le_succ n))
set_option maxRecDepth 100000 in
theorem l_c6 (hL : L ≤ 1536) (hj : j = 3 * (n : Int)) (hn : 3 * n + 3 ≤ L) (h : l_P n a a M) (K : ∀ (a' : Int) (M' : w_M), l_P (n + 1) a' a' M' → w_W (z_P L xs) 1300 0 (368, [(3, .int (Int32.ofInt j)), (2, .ref 43), (1, .ref 0), (0, .ref 1900000)], [], M') l_E) : w_W (z_P L xs) 1300 0 (256, [(3, .int (Int32.ofInt j)), (2, .ref 43), (1, .ref 0), (0, .ref 1900000)], [], M) l_E := by
  refine w_adv (n := 4) (F' := (260, [(3, .int (Int32.ofInt j)), (2, .ref 43), (1, .ref 0), (0, .ref 1900000)], [.int (Int32.ofInt (1)), .int (Int32.ofInt (j)), .ref 1900000, .ref 0], M)) rfl ?_
  refine w_add rfl ?_
  refine l_sget rfl (show 0 ≤ j + 1 by omega) (show j + 1 < (L : Int) by omega) hL ?_
  show w_W (z_P L xs) 1300 0 (262, [(3, .int (Int32.ofInt j)), (2, .ref 43), (1, .ref 0), (0, .ref 1900000)], [.int (Int32.ofInt ((xs (j + 1).toNat).toInt)), .ref 0], M) l_E
  refine w_adv (n := 3) (F' := (265, [(3, .int (Int32.ofInt j)), (2, .ref 43), (1, .ref 0), (0, .ref 1900000)], [.int (Int32.ofInt (2)), .int (Int32.ofInt (j)), .ref 1900000, .int (Int32.ofInt ((xs (j + 1).toNat).toInt)), .ref 0], M)) rfl ?_
  refine w_add rfl ?_
  refine l_sget rfl (show 0 ≤ j + 2 by omega) (show j + 2 < (L : Int) by omega) hL ?_
  show w_W (z_P L xs) 1300 0 (267, [(3, .int (Int32.ofInt j)), (2, .ref 43), (1, .ref 0), (0, .ref 1900000)], [.int (Int32.ofInt ((xs (j + 2).toNat).toInt)), .int (Int32.ofInt ((xs (j + 1).toNat).toInt)), .ref 0], M) l_E
  refine w_call (d := 1299) (cm := 198) (as := [(0, .ref 0), (1, .int (Int32.ofInt ((xs (j + 1).toNat).toInt))), (2, .int (Int32.ofInt ((xs (j + 2).toNat).toInt)))]) (rest := []) (o := some (0, 0)) rfl (l_fitC h) (l_k198 ((xs (j + 1).toNat).toInt) ((xs (j + 2).toNat).toInt) (w_inI _) (w_inI _) h) (fun r113 M111 q112 => ?_)
  obtain ⟨v115, e114, e117⟩ := q112
  rw [e114, e117]
  show w_W (z_P L xs) 1300 0 (270, [(3, .int (Int32.ofInt j)), (2, .ref 43), (1, .ref 0), (0, .ref 1900000)], [.int (Int32.ofInt (v115))], M) l_E
  refine w_adv (n := 5) (F' := (275, [(3, .int (Int32.ofInt j)), (2, .ref 43), (1, .ref 0), (0, .ref 1900000)], [.int (Int32.ofInt (1)), .int (Int32.ofInt (j)), .ref 1900000, .ref 43], M)) rfl ?_
  refine w_add rfl ?_
  refine l_sget rfl (show 0 ≤ j + 1 by omega) (show j + 1 < (L : Int) by omega) hL ?_
  show w_W (z_P L xs) 1300 0 (277, [(3, .int (Int32.ofInt j)), (2, .ref 43), (1, .ref 0), (0, .ref 1900000)], [.int (Int32.ofInt ((xs (j + 1).toNat).toInt)), .ref 43], M) l_E
  refine w_adv (n := 3) (F' := (280, [(3, .int (Int32.ofInt j)), (2, .ref 43), (1, .ref 0), (0, .ref 1900000)], [.int (Int32.ofInt (2)), .int (Int32.ofInt (j)), .ref 1900000, .int (Int32.ofInt ((xs (j + 1).toNat).toInt)), .ref 43], M)) rfl ?_
  refine w_add rfl ?_
  refine l_sget rfl (show 0 ≤ j + 2 by omega) (show j + 2 < (L : Int) by omega) hL ?_
  show w_W (z_P L xs) 1300 0 (282, [(3, .int (Int32.ofInt j)), (2, .ref 43), (1, .ref 0), (0, .ref 1900000)], [.int (Int32.ofInt ((xs (j + 2).toNat).toInt)), .int (Int32.ofInt ((xs (j + 1).toNat).toInt)), .ref 43], M) l_E
  refine w_call (d := 1299) (cm := 308) (as := [(0, .ref 43), (1, .int (Int32.ofInt ((xs (j + 1).toNat).toInt))), (2, .int (Int32.ofInt ((xs (j + 2).toNat).toInt)))]) (rest := []) (o := some (9, 43)) rfl (l_fitM h) (l_k308 ((xs (j + 1).toNat).toInt) ((xs (j + 2).toNat).toInt) (w_inI _) (w_inI _) h) (fun r120 M118 q119 => ?_)
  obtain ⟨v122, e121, e124⟩ := q119
  rw [e121, e124]
  show w_W (z_P L xs) 1300 0 (285, [(3, .int (Int32.ofInt j)), (2, .ref 43), (1, .ref 0), (0, .ref 1900000)], [.int (Int32.ofInt (v122))], M) l_E
  refine w_adv (n := 2) (F' := (368, [(3, .int (Int32.ofInt j)), (2, .ref 43), (1, .ref 0), (0, .ref 1900000)], [], M)) rfl ?_
  exact K (a) M (l_P_up h (Nat.le_succ n))
set_option maxRecDepth 100000 in
theorem l_c7 (hL : L ≤ 1536) (hj : j = 3 * (n : Int)) (hn : 3 * n + 3 ≤ L) (h : l_P n a a M) (K : ∀ (a' : Int) (M' : w_M), l_P (n + 1) a' a' M' → w_W (z_P L xs) 1300 0 (368, [(3, .int (Int32.ofInt j)), (2, .ref 43), (1, .ref 0), (0, .ref 1900000)], [], M') l_E) : w_W (z_P L xs) 1300 0 (289, [(3, .int (Int32.ofInt j)), (2, .ref 43), (1, .ref 0), (0, .ref 1900000)], [], M) l_E := by
  refine w_adv (n := 4) (F' := (293, [(3, .int (Int32.ofInt j)), (2, .ref 43), (1, .ref 0), (0, .ref 1900000)], [.int (Int32.ofInt (1)), .int (Int32.ofInt (j)), .ref 1900000, .ref 0], M)) rfl ?_
  refine w_add rfl ?_
  refine l_sget rfl (show 0 ≤ j + 1 by omega) (show j + 1 < (L : Int) by omega) hL ?_
  show w_W (z_P L xs) 1300 0 (295, [(3, .int (Int32.ofInt j)), (2, .ref 43), (1, .ref 0), (0, .ref 1900000)], [.int (Int32.ofInt ((xs (j + 1).toNat).toInt)), .ref 0], M) l_E
  refine w_adv (n := 3) (F' := (298, [(3, .int (Int32.ofInt j)), (2, .ref 43), (1, .ref 0), (0, .ref 1900000)], [.int (Int32.ofInt (2)), .int (Int32.ofInt (j)), .ref 1900000, .int (Int32.ofInt ((xs (j + 1).toNat).toInt)), .ref 0], M)) rfl ?_
  refine w_add rfl ?_
  refine l_sget rfl (show 0 ≤ j + 2 by omega) (show j + 2 < (L : Int) by omega) hL ?_
  show w_W (z_P L xs) 1300 0 (300, [(3, .int (Int32.ofInt j)), (2, .ref 43), (1, .ref 0), (0, .ref 1900000)], [.int (Int32.ofInt ((xs (j + 2).toNat).toInt)), .int (Int32.ofInt ((xs (j + 1).toNat).toInt)), .ref 0], M) l_E
  refine w_call (d := 1299) (cm := 200) (as := [(0, .ref 0), (1, .int (Int32.ofInt ((xs (j + 1).toNat).toInt))), (2, .int (Int32.ofInt ((xs (j + 2).toNat).toInt)))]) (rest := []) (o := some (0, 0)) rfl (l_fitC h) (l_k200 ((xs (j + 1).toNat).toInt) ((xs (j + 2).toNat).toInt) (w_inI _) (w_inI _) h) (fun r127 M125 q126 => ?_)
  obtain ⟨v129, e128, e131⟩ := q126
  rw [e128, e131]
  show w_W (z_P L xs) 1300 0 (303, [(3, .int (Int32.ofInt j)), (2, .ref 43), (1, .ref 0), (0, .ref 1900000)], [.int (Int32.ofInt (v129))], M) l_E
  refine w_adv (n := 5) (F' := (308, [(3, .int (Int32.ofInt j)), (2, .ref 43), (1, .ref 0), (0, .ref 1900000)], [.int (Int32.ofInt (1)), .int (Int32.ofInt (j)), .ref 1900000, .ref 43], M)) rfl ?_
  refine w_add rfl ?_
  refine l_sget rfl (show 0 ≤ j + 1 by omega) (show j + 1 < (L : Int) by omega) hL ?_
  show w_W (z_P L xs) 1300 0 (310, [(3, .int (Int32.ofInt j)), (2, .ref 43), (1, .ref 0), (0, .ref 1900000)], [.int (Int32.ofInt ((xs (j + 1).toNat).toInt)), .ref 43], M) l_E
  refine w_adv (n := 3) (F' := (313, [(3, .int (Int32.ofInt j)), (2, .ref 43), (1, .ref 0), (0, .ref 1900000)], [.int (Int32.ofInt (2)), .int (Int32.ofInt (j)), .ref 1900000, .int (Int32.ofInt ((xs (j + 1).toNat).toInt)), .ref 43], M)) rfl ?_
  refine w_add rfl ?_
  refine l_sget rfl (show 0 ≤ j + 2 by omega) (show j + 2 < (L : Int) by omega) hL ?_
  show w_W (z_P L xs) 1300 0 (315, [(3, .int (Int32.ofInt j)), (2, .ref 43), (1, .ref 0), (0, .ref 1900000)], [.int (Int32.ofInt ((xs (j + 2).toNat).toInt)), .int (Int32.ofInt ((xs (j + 1).toNat).toInt)), .ref 43], M) l_E
  refine w_call (d := 1299) (cm := 288) (as := [(0, .ref 43), (1, .int (Int32.ofInt ((xs (j + 1).toNat).toInt))), (2, .int (Int32.ofInt ((xs (j + 2).toNat).toInt)))]) (rest := []) (o := some (9, 43)) rfl (l_fitM h) (l_k288 ((xs (j + 1).toNat).toInt) ((xs (j + 2).toNat).toInt) (w_inI _) (w_inI _) h) (fun r134 M132 q133 => ?_)
  obtain ⟨v136, e135, e138⟩ := q133
  rw [e135, e138]
  show w_W (z_P L xs) 1300 0 (318, [(3, .int (Int32.ofInt j)), (2, .ref 43), (1, .ref 0), (0, .ref 1900000)], [.int (Int32.ofInt (v136))], M) l_E
  refine w_adv (n := 2) (F' := (368, [(3, .int (Int32.ofInt j)), (2, .ref 43), (1, .ref 0), (0, .ref 1900000)], [], M)) rfl ?_
  exact K (a) M (l_P_up h (Nat.le_succ n))
set_option maxRecDepth 100000 in
theorem l_c8 (hL : L ≤ 1536) (hj : j = 3 * (n : Int)) (hn : 3 * n + 3 ≤ L) (h : l_P n a a M) (K : ∀ (a' : Int) (M' : w_M), l_P (n + 1) a' a' M' → w_W (z_P L xs) 1300 0 (368, [(3, .int (Int32.ofInt j)), (2, .ref 43), (1, .ref 0), (0, .ref 1900000)], [], M') l_E) : w_W (z_P L xs) 1300 0 (322, [(3, .int (Int32.ofInt j)), (2, .ref 43), (1, .ref 0), (0, .ref 1900000)], [], M) l_E := by
  refine w_adv (n := 4) (F' := (326, [(3, .int (Int32.ofInt j)), (2, .ref 43), (1, .ref 0), (0, .ref 1900000)], [.int (Int32.ofInt (1)), .int (Int32.ofInt (j)), .ref 1900000, .ref 0], M)) rfl ?_
  refine w_add rfl ?_
  refine l_sget rfl (show 0 ≤ j + 1 by omega) (show j + 1 < (L : Int) by omega) hL ?_
  show w_W (z_P L xs) 1300 0 (328, [(3, .int (Int32.ofInt j)), (2, .ref 43), (1, .ref 0), (0, .ref 1900000)], [.int (Int32.ofInt ((xs (j + 1).toNat).toInt)), .ref 0], M) l_E
  refine w_adv (n := 3) (F' := (331, [(3, .int (Int32.ofInt j)), (2, .ref 43), (1, .ref 0), (0, .ref 1900000)], [.int (Int32.ofInt (2)), .int (Int32.ofInt (j)), .ref 1900000, .int (Int32.ofInt ((xs (j + 1).toNat).toInt)), .ref 0], M)) rfl ?_
  refine w_add rfl ?_
  refine l_sget rfl (show 0 ≤ j + 2 by omega) (show j + 2 < (L : Int) by omega) hL ?_
  show w_W (z_P L xs) 1300 0 (333, [(3, .int (Int32.ofInt j)), (2, .ref 43), (1, .ref 0), (0, .ref 1900000)], [.int (Int32.ofInt ((xs (j + 2).toNat).toInt)), .int (Int32.ofInt ((xs (j + 1).toNat).toInt)), .ref 0], M) l_E
  refine w_call (d := 1299) (cm := 201) (as := [(0, .ref 0), (1, .int (Int32.ofInt ((xs (j + 1).toNat).toInt))), (2, .int (Int32.ofInt ((xs (j + 2).toNat).toInt)))]) (rest := []) (o := some (0, 0)) rfl (l_fitC h) (l_k201 ((xs (j + 1).toNat).toInt) ((xs (j + 2).toNat).toInt) (w_inI _) (w_inI _) h) (fun r141 M139 q140 => ?_)
  obtain ⟨v143, e142, e145⟩ := q140
  rw [e142, e145]
  show w_W (z_P L xs) 1300 0 (336, [(3, .int (Int32.ofInt j)), (2, .ref 43), (1, .ref 0), (0, .ref 1900000)], [.int (Int32.ofInt (v143))], M) l_E
  refine w_adv (n := 5) (F' := (341, [(3, .int (Int32.ofInt j)), (2, .ref 43), (1, .ref 0), (0, .ref 1900000)], [.int (Int32.ofInt (1)), .int (Int32.ofInt (j)), .ref 1900000, .ref 43], M)) rfl ?_
  refine w_add rfl ?_
  refine l_sget rfl (show 0 ≤ j + 1 by omega) (show j + 1 < (L : Int) by omega) hL ?_
  show w_W (z_P L xs) 1300 0 (343, [(3, .int (Int32.ofInt j)), (2, .ref 43), (1, .ref 0), (0, .ref 1900000)], [.int (Int32.ofInt ((xs (j + 1).toNat).toInt)), .ref 43], M) l_E
  refine w_adv (n := 3) (F' := (346, [(3, .int (Int32.ofInt j)), (2, .ref 43), (1, .ref 0), (0, .ref 1900000)], [.int (Int32.ofInt (2)), .int (Int32.ofInt (j)), .ref 1900000, .int (Int32.ofInt ((xs (j + 1).toNat).toInt)), .ref 43], M)) rfl ?_
  refine w_add rfl ?_
  refine l_sget rfl (show 0 ≤ j + 2 by omega) (show j + 2 < (L : Int) by omega) hL ?_
  show w_W (z_P L xs) 1300 0 (348, [(3, .int (Int32.ofInt j)), (2, .ref 43), (1, .ref 0), (0, .ref 1900000)], [.int (Int32.ofInt ((xs (j + 2).toNat).toInt)), .int (Int32.ofInt ((xs (j + 1).toNat).toInt)), .ref 43], M) l_E
  refine w_call (d := 1299) (cm := 309) (as := [(0, .ref 43), (1, .int (Int32.ofInt ((xs (j + 1).toNat).toInt))), (2, .int (Int32.ofInt ((xs (j + 2).toNat).toInt)))]) (rest := []) (o := some (9, 43)) rfl (l_fitM h) (l_k309 ((xs (j + 1).toNat).toInt) ((xs (j + 2).toNat).toInt) (w_inI _) (w_inI _) h) (fun r148 M146 q147 => ?_)
  obtain ⟨v150, e149, e152⟩ := q147
  rw [e149, e152]
  show w_W (z_P L xs) 1300 0 (351, [(3, .int (Int32.ofInt j)), (2, .ref 43), (1, .ref 0), (0, .ref 1900000)], [.int (Int32.ofInt (v150))], M) l_E
  refine w_adv (n := 2) (F' := (368, [(3, .int (Int32.ofInt j)), (2, .ref 43), (1, .ref 0), (0, .ref 1900000)], [], M)) rfl ?_
  exact K (a) M (l_P_up h (Nat.le_succ n))
set_option maxRecDepth 100000 in
theorem l_c9 (hL : L ≤ 1536) (hj : j = 3 * (n : Int)) (hn : 3 * n + 3 ≤ L) (h : l_P n a a M) (K : ∀ (a' : Int) (M' : w_M), l_P (n + 1) a' a' M' → w_W (z_P L xs) 1300 0 (368, [(3, .int (Int32.ofInt j)), (2, .ref 43), (1, .ref 0), (0, .ref 1900000)], [], M') l_E) : w_W (z_P L xs) 1300 0 (355, [(3, .int (Int32.ofInt j)), (2, .ref 43), (1, .ref 0), (0, .ref 1900000)], [], M) l_E := by
  refine w_adv (n := 1) (F' := (356, [(3, .int (Int32.ofInt j)), (2, .ref 43), (1, .ref 0), (0, .ref 1900000)], [.ref 0], M)) rfl ?_
  refine w_call (d := 1299) (cm := 203) (as := [(0, .ref 0)]) (rest := []) (o := some (0, 0)) rfl (l_fitC h) (l_k203 h) (fun r155 M153 q154 => ?_)
  obtain ⟨v157, e156, e159⟩ := q154
  rw [e156, e159]
  show w_W (z_P L xs) 1300 0 (359, [(3, .int (Int32.ofInt j)), (2, .ref 43), (1, .ref 0), (0, .ref 1900000)], [.int (Int32.ofInt (v157))], M) l_E
  refine w_adv (n := 2) (F' := (361, [(3, .int (Int32.ofInt j)), (2, .ref 43), (1, .ref 0), (0, .ref 1900000)], [.ref 43], M)) rfl ?_
  refine w_call (d := 1299) (cm := 310) (as := [(0, .ref 43)]) (rest := []) (o := some (9, 43)) rfl (l_fitM h) (l_k310 h) (fun r162 M160 q161 => ?_)
  obtain ⟨v164, e163, e166⟩ := q161
  rw [e163, e166]
  show w_W (z_P L xs) 1300 0 (364, [(3, .int (Int32.ofInt j)), (2, .ref 43), (1, .ref 0), (0, .ref 1900000)], [.int (Int32.ofInt (v164))], M) l_E
  refine w_adv (n := 2) (F' := (368, [(3, .int (Int32.ofInt j)), (2, .ref 43), (1, .ref 0), (0, .ref 1900000)], [], M)) rfl ?_
  exact K (a) M (l_P_up h (Nat.le_succ n))
set_option maxRecDepth 100000 in
theorem l_exit (hL : L ≤ 1536) (hj : j = 3 * (n : Int)) (hn : L < 3 * n + 3) (hn2 : n ≤ 512) (h : l_P n a a M) : w_W (z_P L xs) 1300 0 (18, [(3, .int (Int32.ofInt j)), (2, .ref 43), (1, .ref 0), (0, .ref 1900000)], [], M) l_E := by
  refine w_adv (n := 2) (F' := (20, [(3, .int (Int32.ofInt j)), (2, .ref 43), (1, .ref 0), (0, .ref 1900000)], [.ref 1900000, .int (Int32.ofInt j)], M)) rfl ?_
  refine l_slen rfl ?_
  show w_W (z_P L xs) 1300 0 (21, [(3, .int (Int32.ofInt j)), (2, .ref 43), (1, .ref 0), (0, .ref 1900000)], [.int (Int32.ofInt (L : Int)), .int (Int32.ofInt j)], M) l_E
  refine w_adv (n := 1) (F' := (22, [(3, .int (Int32.ofInt j)), (2, .ref 43), (1, .ref 0), (0, .ref 1900000)], [.int (Int32.ofInt 3), .int (Int32.ofInt (L : Int)), .int (Int32.ofInt j)], M)) rfl ?_
  refine w_sub rfl ?_
  show w_W (z_P L xs) 1300 0 (23, [(3, .int (Int32.ofInt j)), (2, .ref 43), (1, .ref 0), (0, .ref 1900000)], [.int (Int32.ofInt ((L : Int) - 3)), .int (Int32.ofInt j)], M) l_E
  refine w_br2 (a := j) (b := (L : Int) - 3) rfl rfl ⟨by omega, by omega⟩ ⟨by omega, by omega⟩ (fun hx => ?_) (fun hx => ?_)
  · show w_W (z_P L xs) 1300 0 (374, [(3, .int (Int32.ofInt j)), (2, .ref 43), (1, .ref 0), (0, .ref 1900000)], [], M) l_E
    refine w_adv (n := 1) (F' := (375, [(3, .int (Int32.ofInt j)), (2, .ref 43), (1, .ref 0), (0, .ref 1900000)], [.int (Int32.ofInt 1)], M)) rfl ?_
    exact w_fin (r := .inl (some 1)) (M' := M) rfl ⟨rfl, n, a, a, hn2, h⟩
  · exfalso
    have hx : ¬ (j > (L : Int) - 3) := hx
    omega
set_option maxRecDepth 100000 in
theorem l_step (hL : L ≤ 1536) (hj : j = 3 * (n : Int)) (hn : 3 * n + 3 ≤ L) (h : l_P n a a M) (K : ∀ (a' : Int) (M' : w_M) (j' : Int), l_P (n + 1) a' a' M' → j' = 3 * ((n + 1 : Nat) : Int) → w_W (z_P L xs) 1300 0 (18, [(3, .int (Int32.ofInt j')), (2, .ref 43), (1, .ref 0), (0, .ref 1900000)], [], M') l_E) : w_W (z_P L xs) 1300 0 (18, [(3, .int (Int32.ofInt j)), (2, .ref 43), (1, .ref 0), (0, .ref 1900000)], [], M) l_E := by
  have K1 : ∀ (a' : Int) (M' : w_M), l_P (n + 1) a' a' M' → w_W (z_P L xs) 1300 0 (368, [(3, .int (Int32.ofInt j)), (2, .ref 43), (1, .ref 0), (0, .ref 1900000)], [], M') l_E := fun a' M' h' => by
    refine w_inc (nL := 4) (a := j) rfl rfl rfl (by decide) ?_
    refine w_adv (n := 1) (F' := (18, [(3, .int (Int32.ofInt (j + 3))), (2, .ref 43), (1, .ref 0), (0, .ref 1900000)], [], M')) rfl ?_
    exact K a' M' (j + 3) h' (by omega)
  refine w_adv (n := 2) (F' := (20, [(3, .int (Int32.ofInt j)), (2, .ref 43), (1, .ref 0), (0, .ref 1900000)], [.ref 1900000, .int (Int32.ofInt j)], M)) rfl ?_
  refine l_slen rfl ?_
  show w_W (z_P L xs) 1300 0 (21, [(3, .int (Int32.ofInt j)), (2, .ref 43), (1, .ref 0), (0, .ref 1900000)], [.int (Int32.ofInt (L : Int)), .int (Int32.ofInt j)], M) l_E
  refine w_adv (n := 1) (F' := (22, [(3, .int (Int32.ofInt j)), (2, .ref 43), (1, .ref 0), (0, .ref 1900000)], [.int (Int32.ofInt 3), .int (Int32.ofInt (L : Int)), .int (Int32.ofInt j)], M)) rfl ?_
  refine w_sub rfl ?_
  show w_W (z_P L xs) 1300 0 (23, [(3, .int (Int32.ofInt j)), (2, .ref 43), (1, .ref 0), (0, .ref 1900000)], [.int (Int32.ofInt ((L : Int) - 3)), .int (Int32.ofInt j)], M) l_E
  refine w_br2 (a := j) (b := (L : Int) - 3) rfl rfl ⟨by omega, by omega⟩ ⟨by omega, by omega⟩ (fun hx => ?_) (fun hx => ?_)
  · exfalso
    have hx : j > (L : Int) - 3 := hx
    omega
  · show w_W (z_P L xs) 1300 0 (26, [(3, .int (Int32.ofInt j)), (2, .ref 43), (1, .ref 0), (0, .ref 1900000)], [], M) l_E
    refine w_adv (n := 2) (F' := (28, [(3, .int (Int32.ofInt j)), (2, .ref 43), (1, .ref 0), (0, .ref 1900000)], [.int (Int32.ofInt j), .ref 1900000], M)) rfl ?_
    refine l_sget rfl (show 0 ≤ j by omega) (show j < (L : Int) by omega) hL ?_
    refine w_adv (n := 2) (F' := (32, [(3, .int (Int32.ofInt j)), (2, .ref 43), (1, .ref 0), (0, .ref 1900000)], [.int ((Int32.ofInt (xs j.toNat).toInt) &&& (Int32.ofInt 15))], M)) rfl ?_
    refine w_int (fun x rx ex => ?_)
    obtain ⟨rx1, rx2⟩ := rx
    rcases (show (x < 0 ∨ 9 < x) ∨ x = 0 ∨ x = 1 ∨ x = 2 ∨ x = 3 ∨ x = 4 ∨ x = 5 ∨ x = 6 ∨ x = 7 ∨ x = 8 ∨ x = 9 by omega) with hx2 | hx2 | hx2 | hx2 | hx2 | hx2 | hx2 | hx2 | hx2 | hx2 | hx2
    · refine w_swd rfl ⟨rx1, rx2⟩ hx2 rfl ?_
      exact K1 a M (l_P_up h (Nat.le_succ n))
    · refine w_sw (v := 0) (F' := (88, [(3, .int (Int32.ofInt j)), (2, .ref 43), (1, .ref 0), (0, .ref 1900000)], [], M)) hx2 rfl rfl ?_
      exact l_c0 hL hj hn h K1
    · refine w_sw (v := 1) (F' := (141, [(3, .int (Int32.ofInt j)), (2, .ref 43), (1, .ref 0), (0, .ref 1900000)], [], M)) hx2 rfl rfl ?_
      exact l_c1 hL hj hn h K1
    · refine w_sw (v := 2) (F' := (164, [(3, .int (Int32.ofInt j)), (2, .ref 43), (1, .ref 0), (0, .ref 1900000)], [], M)) hx2 rfl rfl ?_
      exact l_c2 hL hj hn h K1
    · refine w_sw (v := 3) (F' := (177, [(3, .int (Int32.ofInt j)), (2, .ref 43), (1, .ref 0), (0, .ref 1900000)], [], M)) hx2 rfl rfl ?_
      exact l_c3 hL hj hn h K1
    · refine w_sw (v := 4) (F' := (200, [(3, .int (Int32.ofInt j)), (2, .ref 43), (1, .ref 0), (0, .ref 1900000)], [], M)) hx2 rfl rfl ?_
      exact l_c4 hL hj hn h K1
    · refine w_sw (v := 5) (F' := (223, [(3, .int (Int32.ofInt j)), (2, .ref 43), (1, .ref 0), (0, .ref 1900000)], [], M)) hx2 rfl rfl ?_
      exact l_c5 hL hj hn h K1
    · refine w_sw (v := 6) (F' := (256, [(3, .int (Int32.ofInt j)), (2, .ref 43), (1, .ref 0), (0, .ref 1900000)], [], M)) hx2 rfl rfl ?_
      exact l_c6 hL hj hn h K1
    · refine w_sw (v := 7) (F' := (289, [(3, .int (Int32.ofInt j)), (2, .ref 43), (1, .ref 0), (0, .ref 1900000)], [], M)) hx2 rfl rfl ?_
      exact l_c7 hL hj hn h K1
    · refine w_sw (v := 8) (F' := (322, [(3, .int (Int32.ofInt j)), (2, .ref 43), (1, .ref 0), (0, .ref 1900000)], [], M)) hx2 rfl rfl ?_
      exact l_c8 hL hj hn h K1
    · refine w_sw (v := 9) (F' := (355, [(3, .int (Int32.ofInt j)), (2, .ref 43), (1, .ref 0), (0, .ref 1900000)], [], M)) hx2 rfl rfl ?_
      exact l_c9 hL hj hn h K1
theorem l_loop (hL : L ≤ 1536) : ∀ (fu n : Nat) (a : Int) (M : w_M) (j : Int), l_P n a a M → j = 3 * (n : Int) → L ≤ 3 * n + 3 * fu + 2 → 3 * n ≤ L → w_W (z_P L xs) 1300 0 (18, [(3, .int (Int32.ofInt j)), (2, .ref 43), (1, .ref 0), (0, .ref 1900000)], [], M) l_E
  | 0, n, a, M, j, h, hj, h1, h2 => l_exit hL hj (by omega) (by omega) h
  | fu + 1, n, a, M, j, h, hj, h1, h2 => by
    by_cases hn : 3 * n + 3 ≤ L
    · exact l_step hL hj hn h (fun a' M' j' h' hj' => l_loop hL fu (n + 1) a' M' j' h' hj' (by omega) (by omega))
    · exact l_exit hL hj (by omega) (by omega) h
end LLoop
