def m_nameByteC_Q (fr : Nat → Bool) (X : Nat → Option (q_C (Nat → Int32))) (u l : Nat) (I : Nat → Int) (A : Nat → Int → Int) (B C : Nat → Nat) (M : w_M) (v : Int) (k : Int) : w_X → w_M → Prop := fun r M' => (∃ y : Int, (r = .inl (some y)) ∧ (w_in y) ∧ (M' = M))
set_option maxHeartbeats 100000000 in
set_option maxRecDepth 100000 in
theorem m_nameByteC {L : Nat} {xs : Nat → Int32} {d : Nat} {fr : Nat → Bool} {X : Nat → Option (q_C (Nat → Int32))} {u l : Nat} {I : Nat → Int} {A : Nat → Int → Int} {B C : Nat → Nat} {M : w_M} (v : Int) (k : Int) (hR : w_Rep w_TM fr X u l I A B C M) (hd : 1 ≤ d) (r_v : w_in v) (r_k : w_in k) (hN : ((I 4737) = (I 4609) ∧ (I 4865) = (I 4609) ∧ (I 4993) = (I 4609) ∧ (I 5121) = (I 4609) ∧ (I 5249) = (I 4609) ∧ (I 5377) = (I 4609)) ∧ (0 ≤ (I 4609) ∧ 0 ≤ (I 4481) ∧ 0 ≤ (I 5505))) (hVN : m_VN I A) (hNA : m_NA I A) : w_W (z_P L xs) d 309 (0, [(0, .ref 43), (1, .int (Int32.ofInt (v))), (2, .int (Int32.ofInt (k)))], [], M) (m_nameByteC_Q fr X u l I A B C M v k) := by
  obtain ⟨ra_v, rb_v⟩ := r_v
  obtain ⟨ra_k, rb_k⟩ := r_k
  obtain ⟨d, rfl⟩ : ∃ d0, d = d0 + 1 := ⟨d - 1, by omega⟩
  refine w_adv (n := 1) (F' := (1, [(0, .ref 43), (1, .int (Int32.ofInt (v))), (2, .int (Int32.ofInt (k)))], [.int (Int32.ofInt (v))], M)) rfl ?_
  refine w_br1 (a := v) rfl rfl ⟨by omega, by omega⟩ (fun h1 => ?_) (fun h1 => ?_)
  · have h1 : v < 0 := h1
    show w_W _ _ _ (15, [(0, .ref 43), (1, .int (Int32.ofInt (v))), (2, .int (Int32.ofInt (k)))], [], M) _
    refine w_adv (n := 7) (F' := (72, [(3, .int (Int32.ofInt ((-1)))), (0, .ref 43), (1, .int (Int32.ofInt (v))), (2, .int (Int32.ofInt (k)))], [.int (Int32.ofInt ((-1)))], M)) rfl ?_
    refine w_fin (r := .inl (some ((-1)))) (M' := M) rfl ?_
    exact ⟨(-1), rfl, ⟨by omega, by omega⟩, rfl⟩
  · have h1 : ¬ (v < 0) := h1
    show w_W _ _ _ (4, [(0, .ref 43), (1, .int (Int32.ofInt (v))), (2, .int (Int32.ofInt (k)))], [], M) _
    refine w_adv (n := 2) (F' := (6, [(0, .ref 43), (1, .int (Int32.ofInt (v))), (2, .int (Int32.ofInt (k)))], [.ref 43, .int (Int32.ofInt (v))], M)) rfl ?_
    refine w_gf (v := .ref 70) hR rfl rfl rfl rfl ?_
    refine w_gf (v := .int (Int32.ofInt ((I 4481)))) hR rfl rfl rfl rfl ?_
    obtain ⟨r2, r3⟩ : -2147483648 ≤ (I 4481) ∧ (I 4481) ≤ 2147483647 := hR.ri 4481
    obtain ⟨r4a, r4b, r4c⟩ : 0 ≤ (I 4481) ∧ (I 4481) ≤ (C 70 : Int) ∧ (C 70 : Int) ≤ 131072 := hR.sz (show 70 ∈ w_TM.2.2 by decide)
    refine w_br2 (a := v) (b := (I 4481)) rfl rfl ⟨by omega, by omega⟩ ⟨by omega, by omega⟩ (fun h5 => ?_) (fun h5 => ?_)
    · have h5 : v < (I 4481) := h5
      show w_W _ _ _ (19, [(0, .ref 43), (1, .int (Int32.ofInt (v))), (2, .int (Int32.ofInt (k)))], [], M) _
      refine w_adv (n := 1) (F' := (20, [(0, .ref 43), (1, .int (Int32.ofInt (v))), (2, .int (Int32.ofInt (k)))], [.ref 43], M)) rfl ?_
      refine w_gf (v := .ref 70) hR rfl rfl rfl rfl ?_
      refine w_adv (n := 1) (F' := (24, [(0, .ref 43), (1, .int (Int32.ofInt (v))), (2, .int (Int32.ofInt (k)))], [.int (Int32.ofInt (v)), .ref 70], M)) rfl ?_
      refine w_call (cm := 238) (as := [(0, .ref 70), (1, .int (Int32.ofInt (v)))]) (rest := []) (o := some (10, 70)) rfl (w_fitR hR rfl) (m_get (v) 70 (by decide) rfl hR ⟨by omega, by omega⟩ (show 0 ≤ v by first | assumption | omega) (show v < (C 70 : Int) by first | assumption | omega)) (fun r6 M7 q8 => ?_)
      rcases q8 with ⟨e9, e10⟩
      rw [e9, e10]
      obtain ⟨r11, r12⟩ : -2147483648 ≤ (A 70) (v) ∧ (A 70) (v) ≤ 2147483647 := hR.ra 70 (v)
      obtain ⟨vb1, vb2⟩ := hVN v (by omega) (by omega)
      show w_W _ _ _ (27, [(0, .ref 43), (1, .int (Int32.ofInt (v))), (2, .int (Int32.ofInt (k)))], [.int (Int32.ofInt ((A 70) (v)))], M) _
      refine w_adv (n := 2) (F' := (29, [(3, .int (Int32.ofInt ((A 70) (v)))), (0, .ref 43), (1, .int (Int32.ofInt (v))), (2, .int (Int32.ofInt (k)))], [.int (Int32.ofInt ((A 70) (v)))], M)) rfl ?_
      refine w_br1 (a := (A 70) (v)) rfl rfl ⟨by omega, by omega⟩ (fun h13 => ?_) (fun h13 => ?_)
      · have h13 : (A 70) (v) < 0 := h13
        show w_W _ _ _ (55, [(3, .int (Int32.ofInt ((A 70) (v)))), (0, .ref 43), (1, .int (Int32.ofInt (v))), (2, .int (Int32.ofInt (k)))], [], M) _
        refine w_adv (n := 2) (F' := (72, [(3, .int (Int32.ofInt ((A 70) (v)))), (0, .ref 43), (1, .int (Int32.ofInt (v))), (2, .int (Int32.ofInt (k)))], [.int (Int32.ofInt ((-1)))], M)) rfl ?_
        refine w_fin (r := .inl (some ((-1)))) (M' := M) rfl ?_
        exact ⟨(-1), rfl, ⟨by omega, by omega⟩, rfl⟩
      · have h13 : ¬ ((A 70) (v) < 0) := h13
        show w_W _ _ _ (32, [(3, .int (Int32.ofInt ((A 70) (v)))), (0, .ref 43), (1, .int (Int32.ofInt (v))), (2, .int (Int32.ofInt (k)))], [], M) _
        refine w_adv (n := 1) (F' := (33, [(3, .int (Int32.ofInt ((A 70) (v)))), (0, .ref 43), (1, .int (Int32.ofInt (v))), (2, .int (Int32.ofInt (k)))], [.int (Int32.ofInt (k))], M)) rfl ?_
        refine w_br1 (a := k) rfl rfl ⟨by omega, by omega⟩ (fun h14 => ?_) (fun h14 => ?_)
        · have h14 : k < 0 := h14
          show w_W _ _ _ (55, [(3, .int (Int32.ofInt ((A 70) (v)))), (0, .ref 43), (1, .int (Int32.ofInt (v))), (2, .int (Int32.ofInt (k)))], [], M) _
          refine w_adv (n := 2) (F' := (72, [(3, .int (Int32.ofInt ((A 70) (v)))), (0, .ref 43), (1, .int (Int32.ofInt (v))), (2, .int (Int32.ofInt (k)))], [.int (Int32.ofInt ((-1)))], M)) rfl ?_
          refine w_fin (r := .inl (some ((-1)))) (M' := M) rfl ?_
          exact ⟨(-1), rfl, ⟨by omega, by omega⟩, rfl⟩
        · have h14 : ¬ (k < 0) := h14
          show w_W _ _ _ (36, [(3, .int (Int32.ofInt ((A 70) (v)))), (0, .ref 43), (1, .int (Int32.ofInt (v))), (2, .int (Int32.ofInt (k)))], [], M) _
          obtain ⟨-, ⟨nv1, nv2⟩⟩ := hNA.2 ((A 70) (v)) (by omega) (by omega)
          obtain ⟨-, ⟨nw1, nw2⟩⟩ := hNA.2 (((A 70) (v)) + 1) (by omega) (by omega)
          refine w_adv (n := 2) (F' := (38, [(3, .int (Int32.ofInt ((A 70) (v)))), (0, .ref 43), (1, .int (Int32.ofInt (v))), (2, .int (Int32.ofInt (k)))], [.ref 43, .int (Int32.ofInt (k))], M)) rfl ?_
          refine w_gf (v := .ref 51) hR rfl rfl rfl rfl ?_
          refine w_adv (n := 2) (F' := (43, [(3, .int (Int32.ofInt ((A 70) (v)))), (0, .ref 43), (1, .int (Int32.ofInt (v))), (2, .int (Int32.ofInt (k)))], [.int (Int32.ofInt (1)), .int (Int32.ofInt ((A 70) (v))), .ref 51, .int (Int32.ofInt (k))], M)) rfl ?_
          refine w_add rfl ?_
          refine w_la (n := 402) hR rfl (Or.inl ⟨rfl, rfl⟩) rfl (show 0 ≤ ((A 70) (v)) + 1 by omega) (show ((A 70) (v)) + 1 < (402 : Int) by omega) (by decide) ?_
          obtain ⟨r15, r16⟩ : -2147483648 ≤ (A 51) (((A 70) (v)) + 1) ∧ (A 51) (((A 70) (v)) + 1) ≤ 2147483647 := hR.ra 51 (((A 70) (v)) + 1)
          show w_W _ _ _ (45, [(3, .int (Int32.ofInt ((A 70) (v)))), (0, .ref 43), (1, .int (Int32.ofInt (v))), (2, .int (Int32.ofInt (k)))], [.int (Int32.ofInt ((A 51) (((A 70) (v)) + 1))), .int (Int32.ofInt (k))], M) _
          refine w_adv (n := 1) (F' := (46, [(3, .int (Int32.ofInt ((A 70) (v)))), (0, .ref 43), (1, .int (Int32.ofInt (v))), (2, .int (Int32.ofInt (k)))], [.ref 43, .int (Int32.ofInt ((A 51) (((A 70) (v)) + 1))), .int (Int32.ofInt (k))], M)) rfl ?_
          refine w_gf (v := .ref 51) hR rfl rfl rfl rfl ?_
          refine w_adv (n := 1) (F' := (50, [(3, .int (Int32.ofInt ((A 70) (v)))), (0, .ref 43), (1, .int (Int32.ofInt (v))), (2, .int (Int32.ofInt (k)))], [.int (Int32.ofInt ((A 70) (v))), .ref 51, .int (Int32.ofInt ((A 51) (((A 70) (v)) + 1))), .int (Int32.ofInt (k))], M)) rfl ?_
          refine w_la (n := 402) hR rfl (Or.inl ⟨rfl, rfl⟩) rfl (show 0 ≤ (A 70) (v) by omega) (show (A 70) (v) < (402 : Int) by omega) (by decide) ?_
          obtain ⟨r17, r18⟩ : -2147483648 ≤ (A 51) ((A 70) (v)) ∧ (A 51) ((A 70) (v)) ≤ 2147483647 := hR.ra 51 ((A 70) (v))
          show w_W _ _ _ (51, [(3, .int (Int32.ofInt ((A 70) (v)))), (0, .ref 43), (1, .int (Int32.ofInt (v))), (2, .int (Int32.ofInt (k)))], [.int (Int32.ofInt ((A 51) ((A 70) (v)))), .int (Int32.ofInt ((A 51) (((A 70) (v)) + 1))), .int (Int32.ofInt (k))], M) _
          refine w_sub rfl ?_
          refine w_br2 (a := k) (b := ((A 51) (((A 70) (v)) + 1)) - ((A 51) ((A 70) (v)))) rfl rfl ⟨by omega, by omega⟩ ⟨by omega, by omega⟩ (fun h19 => ?_) (fun h19 => ?_)
          · have h19 : k < ((A 51) (((A 70) (v)) + 1)) - ((A 51) ((A 70) (v))) := h19
            show w_W _ _ _ (59, [(3, .int (Int32.ofInt ((A 70) (v)))), (0, .ref 43), (1, .int (Int32.ofInt (v))), (2, .int (Int32.ofInt (k)))], [], M) _
            refine w_adv (n := 1) (F' := (60, [(3, .int (Int32.ofInt ((A 70) (v)))), (0, .ref 43), (1, .int (Int32.ofInt (v))), (2, .int (Int32.ofInt (k)))], [.ref 43], M)) rfl ?_
            refine w_gf (v := .ref 52) hR rfl rfl rfl rfl ?_
            refine w_adv (n := 1) (F' := (64, [(3, .int (Int32.ofInt ((A 70) (v)))), (0, .ref 43), (1, .int (Int32.ofInt (v))), (2, .int (Int32.ofInt (k)))], [.ref 43, .ref 52], M)) rfl ?_
            refine w_gf (v := .ref 51) hR rfl rfl rfl rfl ?_
            refine w_adv (n := 1) (F' := (68, [(3, .int (Int32.ofInt ((A 70) (v)))), (0, .ref 43), (1, .int (Int32.ofInt (v))), (2, .int (Int32.ofInt (k)))], [.int (Int32.ofInt ((A 70) (v))), .ref 51, .ref 52], M)) rfl ?_
            refine w_la (n := 402) hR rfl (Or.inl ⟨rfl, rfl⟩) rfl (show 0 ≤ (A 70) (v) by omega) (show (A 70) (v) < (402 : Int) by omega) (by decide) ?_
            show w_W _ _ _ (69, [(3, .int (Int32.ofInt ((A 70) (v)))), (0, .ref 43), (1, .int (Int32.ofInt (v))), (2, .int (Int32.ofInt (k)))], [.int (Int32.ofInt ((A 51) ((A 70) (v)))), .ref 52], M) _
            refine w_adv (n := 1) (F' := (70, [(3, .int (Int32.ofInt ((A 70) (v)))), (0, .ref 43), (1, .int (Int32.ofInt (v))), (2, .int (Int32.ofInt (k)))], [.int (Int32.ofInt (k)), .int (Int32.ofInt ((A 51) ((A 70) (v)))), .ref 52], M)) rfl ?_
            refine w_add rfl ?_
            refine w_la (n := 9648) hR rfl (Or.inr ⟨rfl, rfl⟩) rfl (show 0 ≤ ((A 51) ((A 70) (v))) + k by omega) (show ((A 51) ((A 70) (v))) + k < (9648 : Int) by omega) (by decide) ?_
            obtain ⟨r20, r21⟩ : -2147483648 ≤ (A 52) (((A 51) ((A 70) (v))) + k) ∧ (A 52) (((A 51) ((A 70) (v))) + k) ≤ 2147483647 := hR.ra 52 (((A 51) ((A 70) (v))) + k)
            show w_W _ _ _ (72, [(3, .int (Int32.ofInt ((A 70) (v)))), (0, .ref 43), (1, .int (Int32.ofInt (v))), (2, .int (Int32.ofInt (k)))], [.int (Int32.ofInt ((A 52) (((A 51) ((A 70) (v))) + k)))], M) _
            refine w_fin (r := .inl (some ((A 52) (((A 51) ((A 70) (v))) + k)))) (M' := M) rfl ?_
            exact ⟨(A 52) (((A 51) ((A 70) (v))) + k), rfl, ⟨by omega, by omega⟩, rfl⟩
          · have h19 : ¬ (k < ((A 51) (((A 70) (v)) + 1)) - ((A 51) ((A 70) (v)))) := h19
            show w_W _ _ _ (55, [(3, .int (Int32.ofInt ((A 70) (v)))), (0, .ref 43), (1, .int (Int32.ofInt (v))), (2, .int (Int32.ofInt (k)))], [], M) _
            refine w_adv (n := 2) (F' := (72, [(3, .int (Int32.ofInt ((A 70) (v)))), (0, .ref 43), (1, .int (Int32.ofInt (v))), (2, .int (Int32.ofInt (k)))], [.int (Int32.ofInt ((-1)))], M)) rfl ?_
            refine w_fin (r := .inl (some ((-1)))) (M' := M) rfl ?_
            exact ⟨(-1), rfl, ⟨by omega, by omega⟩, rfl⟩
    · have h5 : ¬ (v < (I 4481)) := h5
      show w_W _ _ _ (15, [(0, .ref 43), (1, .int (Int32.ofInt (v))), (2, .int (Int32.ofInt (k)))], [], M) _
      refine w_adv (n := 7) (F' := (72, [(3, .int (Int32.ofInt ((-1)))), (0, .ref 43), (1, .int (Int32.ofInt (v))), (2, .int (Int32.ofInt (k)))], [.int (Int32.ofInt ((-1)))], M)) rfl ?_
      refine w_fin (r := .inl (some ((-1)))) (M' := M) rfl ?_
      exact ⟨(-1), rfl, ⟨by omega, by omega⟩, rfl⟩
