def c_ksp_Q (fr : Nat → Bool) (X : Nat → Option (q_C (Nat → Int32))) (u l : Nat) (I : Nat → Int) (A : Nat → Int → Int) (B C : Nat → Nat) (M : w_M) (k : Int) : w_X → w_M → Prop := fun r M' => (∃ (I' : Nat → Int) (A' : Nat → Int → Int) (B' C' : Nat → Nat), (r = .inl none) ∧ (w_Rep w_TC fr X u l I' A' B' C' M') ∧ (c_bz I A I' A' 0 0 (I 2503)) ∧ ((I' 2503) = (I 2503) ∧ (0 ≤ (I' 1035) ∧ (I' 1035) ≤ 10000) ∧ (I' 200) = (I 200) ∧ (I' 202) = (I 202)) ∧ ((I' 2502) = (I 2502)))
set_option maxHeartbeats 100000000 in
set_option maxRecDepth 100000 in
theorem c_ksp {L : Nat} {xs : Nat → Int32} {d : Nat} {fr : Nat → Bool} {X : Nat → Option (q_C (Nat → Int32))} {u l : Nat} {I : Nat → Int} {A : Nat → Int → Int} {B C : Nat → Nat} {M : w_M} (k : Int) (hR : w_Rep w_TC fr X u l I A B C M) (hd : 4 ≤ d) (r_k : w_in k) (hKI : 0 ≤ (I 1035) ∧ (I 1035) ≤ 10000) (hKS : c_ks A) (hNM : 36 ≤ (I 200) ∧ (I 200) ≤ 419 ∧ 0 ≤ (I 202) ∧ (I 202) ≤ 24) (hLN : ∀ i, (A 5) i ≤ 24) (hW0 : 0 ≤ (I 2503)) (hk : 0 ≤ k ∧ k ≤ 2) : w_W (z_P L xs) d 165 (0, [(0, .ref 16), (1, .int (Int32.ofInt (k)))], [], M) (c_ksp_Q fr X u l I A B C M k) := by
  obtain ⟨ra_k, rb_k⟩ := r_k
  obtain ⟨d, rfl⟩ : ∃ d0, d = d0 + 1 := ⟨d - 1, by omega⟩
  refine w_adv (n := 1) (F' := (1, [(0, .ref 16), (1, .int (Int32.ofInt (k)))], [.ref 16], M)) rfl ?_
  refine w_gf (v := .ref 22) hR rfl rfl rfl rfl ?_
  refine w_adv (n := 1) (F' := (5, [(0, .ref 16), (1, .int (Int32.ofInt (k)))], [.ref 16, .ref 22], M)) rfl ?_
  refine w_gf (v := .int (Int32.ofInt ((I 1034)))) hR rfl rfl rfl rfl ?_
  obtain ⟨r1, r2⟩ : -2147483648 ≤ (I 1034) ∧ (I 1034) ≤ 2147483647 := hR.ri 1034
  refine w_adv (n := 1) (F' := (9, [(0, .ref 16), (1, .int (Int32.ofInt (k)))], [.int (Int32.ofInt (1)), .int (Int32.ofInt ((I 1034))), .ref 22], M)) rfl ?_
  refine w_sub rfl ?_
  refine w_int (fun x3 r4 e5 => ?_)
  obtain ⟨r4a, r4b⟩ := r4
  clear e5
  have hks := hKS (x3)
  refine w_call (cm := 21) (as := [(0, .ref 22), (1, .int (Int32.ofInt (x3)))]) (rest := []) (o := none) rfl (trivial) (c_at (x3) 22 3200 rfl (by decide) hR ⟨by omega, by omega⟩) (fun r6 M7 q8 => ?_)
  rcases q8 with ⟨v9, e10, ⟨r11, r12⟩, e13, f14⟩
  rw [e10, e13]
  replace f14 : ((0 ≤ x3 ∧ x3 < (3200 : Int) ∧ v9 = (A 22) (x3)) ∨ (¬ (0 ≤ x3 ∧ x3 < (3200 : Int)) ∧ v9 = -1)) := f14
  show w_W _ _ _ (13, [(0, .ref 16), (1, .int (Int32.ofInt (k)))], [.int (Int32.ofInt (v9))], M) _
  refine w_adv (n := 1) (F' := (14, [(0, .ref 16), (1, .int (Int32.ofInt (k)))], [.int (Int32.ofInt (k)), .int (Int32.ofInt (v9))], M)) rfl ?_
  refine w_add rfl ?_
  refine w_adv (n := 3) (F' := (18, [(2, .int (Int32.ofInt (v9 + k))), (0, .ref 16), (1, .int (Int32.ofInt (k)))], [.int (Int32.ofInt (2)), .int (Int32.ofInt (v9 + k))], M)) rfl ?_
  refine w_add rfl ?_
  refine w_adv (n := 1) (F' := (20, [(3, .int (Int32.ofInt ((v9 + k) + 2))), (2, .int (Int32.ofInt (v9 + k))), (0, .ref 16), (1, .int (Int32.ofInt (k)))], [], M)) rfl ?_
  have lp20 : ∀ fu20 : Nat, ∀ (y20_3 : Int) (ga20_24 : Int → Int) (M_20 : w_M) (hR_20 : w_Rep w_TC fr X u l I (w_upF A 24 ga20_24) B C M_20), w_in y20_3 → -1 ≤ y20_3 ∧ y20_3 ≤ 10005 → 10006 - y20_3 < (fu20 : Int) → w_W (z_P L xs) (d + 1) 165 (20, [(0, .ref 16), (1, .int (Int32.ofInt (k))), (2, .int (Int32.ofInt (v9 + k))), (3, .int (Int32.ofInt (y20_3)))], [], M_20) (c_ksp_Q fr X u l I A B C M k) := by
    intro fu20
    induction fu20 with
    | zero =>
      intro y20_3 ga20_24 M_20 hR_20 ⟨ra_y20_3, rb_y20_3⟩ hi20_0 hn20
      exfalso
      omega
    | succ fu20 ih20 =>
      intro y20_3 ga20_24 M_20 hR_20 ⟨ra_y20_3, rb_y20_3⟩ hi20_0 hn20
      refine w_adv (n := 2) (F' := (22, [(0, .ref 16), (1, .int (Int32.ofInt (k))), (2, .int (Int32.ofInt (v9 + k))), (3, .int (Int32.ofInt (y20_3)))], [.int (Int32.ofInt (1)), .int (Int32.ofInt (y20_3))], M_20)) rfl ?_
      refine w_add rfl ?_
      refine w_adv (n := 1) (F' := (24, [(0, .ref 16), (1, .int (Int32.ofInt (k))), (2, .int (Int32.ofInt (v9 + k))), (3, .int (Int32.ofInt (y20_3)))], [.ref 16, .int (Int32.ofInt (y20_3 + 1))], M_20)) rfl ?_
      refine w_gf (v := .int (Int32.ofInt ((I 1035)))) hR_20 rfl rfl rfl rfl ?_
      obtain ⟨r15, r16⟩ : -2147483648 ≤ (I 1035) ∧ (I 1035) ≤ 2147483647 := hR_20.ri 1035
      refine w_br2 (a := y20_3 + 1) (b := (I 1035)) rfl rfl ⟨by omega, by omega⟩ ⟨by omega, by omega⟩ (fun h17 => ?_) (fun h17 => ?_)
      · have h17 : y20_3 + 1 ≥ (I 1035) := h17
        show w_W _ _ _ (159, [(0, .ref 16), (1, .int (Int32.ofInt (k))), (2, .int (Int32.ofInt (v9 + k))), (3, .int (Int32.ofInt (y20_3)))], [], M_20) _
        refine w_fin (r := .inl none) (M' := M_20) rfl ?_
        exact ⟨I, (w_upF A 24 ga20_24), B, C, rfl, hR_20, (show c_bz I A I (w_upF A 24 ga20_24) 0 0 (I 2503) by exact (c_bz_upF c_bz_refl rfl)), (show (I 2503) = (I 2503) ∧ (0 ≤ (I 1035) ∧ (I 1035) ≤ 10000) ∧ (I 200) = (I 200) ∧ (I 202) = (I 202) by (repeat' apply And.intro) <;> first | assumption | omega), (show (I 2502) = (I 2502) by (repeat' apply And.intro) <;> first | assumption | omega)⟩
      · have h17 : ¬ (y20_3 + 1 ≥ (I 1035)) := h17
        show w_W _ _ _ (30, [(0, .ref 16), (1, .int (Int32.ofInt (k))), (2, .int (Int32.ofInt (v9 + k))), (3, .int (Int32.ofInt (y20_3)))], [], M_20) _
        refine w_adv (n := 1) (F' := (31, [(0, .ref 16), (1, .int (Int32.ofInt (k))), (2, .int (Int32.ofInt (v9 + k))), (3, .int (Int32.ofInt (y20_3)))], [.ref 16], M_20)) rfl ?_
        refine w_gf (v := .ref 24) hR_20 rfl rfl rfl rfl ?_
        refine w_adv (n := 1) (F' := (35, [(0, .ref 16), (1, .int (Int32.ofInt (k))), (2, .int (Int32.ofInt (v9 + k))), (3, .int (Int32.ofInt (y20_3)))], [.int (Int32.ofInt (y20_3)), .ref 24], M_20)) rfl ?_
        refine w_call (cm := 21) (as := [(0, .ref 24), (1, .int (Int32.ofInt (y20_3)))]) (rest := []) (o := none) rfl (trivial) (c_at (y20_3) 24 10000 rfl (by decide) hR_20 ⟨by omega, by omega⟩) (fun r18 M19 q20 => ?_)
        rcases q20 with ⟨v21, e22, ⟨r23, r24⟩, e25, f26⟩
        rw [e22, e25]
        replace f26 : ((0 ≤ y20_3 ∧ y20_3 < (10000 : Int) ∧ v21 = ga20_24 (y20_3)) ∨ (¬ (0 ≤ y20_3 ∧ y20_3 < (10000 : Int)) ∧ v21 = -1)) := f26
        show w_W _ _ _ (38, [(0, .ref 16), (1, .int (Int32.ofInt (k))), (2, .int (Int32.ofInt (v9 + k))), (3, .int (Int32.ofInt (y20_3)))], [.int (Int32.ofInt (v21))], M_20) _
        refine w_adv (n := 2) (F' := (41, [(4, .int (Int32.ofInt (v21))), (0, .ref 16), (1, .int (Int32.ofInt (k))), (2, .int (Int32.ofInt (v9 + k))), (3, .int (Int32.ofInt (y20_3)))], [.ref 16], M_20)) rfl ?_
        refine w_gf (v := .ref 24) hR_20 rfl rfl rfl rfl ?_
        refine w_adv (n := 2) (F' := (46, [(4, .int (Int32.ofInt (v21))), (0, .ref 16), (1, .int (Int32.ofInt (k))), (2, .int (Int32.ofInt (v9 + k))), (3, .int (Int32.ofInt (y20_3)))], [.int (Int32.ofInt (1)), .int (Int32.ofInt (y20_3)), .ref 24], M_20)) rfl ?_
        refine w_add rfl ?_
        refine w_call (cm := 21) (as := [(0, .ref 24), (1, .int (Int32.ofInt (y20_3 + 1)))]) (rest := []) (o := none) rfl (trivial) (c_at (y20_3 + 1) 24 10000 rfl (by decide) hR_20 ⟨by omega, by omega⟩) (fun r27 M28 q29 => ?_)
        rcases q29 with ⟨v30, e31, ⟨r32, r33⟩, e34, f35⟩
        rw [e31, e34]
        replace f35 : ((0 ≤ y20_3 + 1 ∧ y20_3 + 1 < (10000 : Int) ∧ v30 = ga20_24 (y20_3 + 1)) ∨ (¬ (0 ≤ y20_3 + 1 ∧ y20_3 + 1 < (10000 : Int)) ∧ v30 = -1)) := f35
        show w_W _ _ _ (50, [(4, .int (Int32.ofInt (v21))), (0, .ref 16), (1, .int (Int32.ofInt (k))), (2, .int (Int32.ofInt (v9 + k))), (3, .int (Int32.ofInt (y20_3)))], [.int (Int32.ofInt (v30))], M_20) _
        refine w_adv (n := 3) (F' := (55, [(6, .int (Int32.ofInt (y20_3))), (5, .int (Int32.ofInt (v30))), (4, .int (Int32.ofInt (v21))), (0, .ref 16), (1, .int (Int32.ofInt (k))), (2, .int (Int32.ofInt (v9 + k))), (3, .int (Int32.ofInt (y20_3)))], [], M_20)) rfl ?_
        have lp55 : ∀ fu55 : Nat, ∀ (y55_6 : Int) (ga55_24 : Int → Int) (M_55 : w_M) (hR_55 : w_Rep w_TC fr X u l I (w_upF A 24 ga55_24) B C M_55), w_in y55_6 → -4 ≤ y55_6 ∧ y55_6 ≤ 10005 → y55_6 + 4 < (fu55 : Int) → w_W (z_P L xs) (d + 1) 165 (55, [(0, .ref 16), (1, .int (Int32.ofInt (k))), (2, .int (Int32.ofInt (v9 + k))), (3, .int (Int32.ofInt (y20_3))), (4, .int (Int32.ofInt (v21))), (5, .int (Int32.ofInt (v30))), (6, .int (Int32.ofInt (y55_6)))], [], M_55) (c_ksp_Q fr X u l I A B C M k) := by
          intro fu55
          induction fu55 with
          | zero =>
            intro y55_6 ga55_24 M_55 hR_55 ⟨ra_y55_6, rb_y55_6⟩ hi55_0 hn55
            exfalso
            omega
          | succ fu55 ih55 =>
            intro y55_6 ga55_24 M_55 hR_55 ⟨ra_y55_6, rb_y55_6⟩ hi55_0 hn55
            refine w_adv (n := 2) (F' := (58, [(0, .ref 16), (1, .int (Int32.ofInt (k))), (2, .int (Int32.ofInt (v9 + k))), (3, .int (Int32.ofInt (y20_3))), (4, .int (Int32.ofInt (v21))), (5, .int (Int32.ofInt (v30))), (6, .int (Int32.ofInt (y55_6)))], [.int (Int32.ofInt (v9 + k)), .int (Int32.ofInt (y55_6))], M_55)) rfl ?_
            refine w_br2 (a := y55_6) (b := v9 + k) rfl rfl ⟨by omega, by omega⟩ ⟨by omega, by omega⟩ (fun h36 => ?_) (fun h36 => ?_)
            · have h36 : y55_6 ≤ v9 + k := h36
              show w_W _ _ _ (129, [(0, .ref 16), (1, .int (Int32.ofInt (k))), (2, .int (Int32.ofInt (v9 + k))), (3, .int (Int32.ofInt (y20_3))), (4, .int (Int32.ofInt (v21))), (5, .int (Int32.ofInt (v30))), (6, .int (Int32.ofInt (y55_6)))], [], M_55) _
              refine w_adv (n := 1) (F' := (130, [(0, .ref 16), (1, .int (Int32.ofInt (k))), (2, .int (Int32.ofInt (v9 + k))), (3, .int (Int32.ofInt (y20_3))), (4, .int (Int32.ofInt (v21))), (5, .int (Int32.ofInt (v30))), (6, .int (Int32.ofInt (y55_6)))], [.ref 16], M_55)) rfl ?_
              refine w_gf (v := .ref 24) hR_55 rfl rfl rfl rfl ?_
              refine w_adv (n := 2) (F' := (137, [(0, .ref 16), (1, .int (Int32.ofInt (k))), (2, .int (Int32.ofInt (v9 + k))), (3, .int (Int32.ofInt (y20_3))), (4, .int (Int32.ofInt (v21))), (5, .int (Int32.ofInt (v30))), (6, .int (Int32.ofInt (y55_6)))], [.int (Int32.ofInt (v21)), .int (Int32.ofInt (y55_6)), .ref 24], M_55)) rfl ?_
              refine w_call (cm := 25) (as := [(0, .ref 24), (1, .int (Int32.ofInt (y55_6))), (2, .int (Int32.ofInt (v21)))]) (rest := []) (o := none) rfl (trivial) (c_set (y55_6) (v21) 24 10000 rfl (by decide) hR_55 ⟨by omega, by omega⟩ ⟨by omega, by omega⟩) (fun r37 M38 q39 => ?_)
              rcases q39 with ⟨e40, hR39a⟩
              rw [e40]
              replace hR39a : w_Rep w_TC fr X u l I (w_upF (w_upF A 24 ga55_24) 24 (w_upG 10000 ga55_24 (y55_6) (v21))) B C M38 := hR39a
              show w_W _ _ _ (140, [(0, .ref 16), (1, .int (Int32.ofInt (k))), (2, .int (Int32.ofInt (v9 + k))), (3, .int (Int32.ofInt (y20_3))), (4, .int (Int32.ofInt (v21))), (5, .int (Int32.ofInt (v30))), (6, .int (Int32.ofInt (y55_6)))], [], M38) _
              refine w_adv (n := 1) (F' := (141, [(0, .ref 16), (1, .int (Int32.ofInt (k))), (2, .int (Int32.ofInt (v9 + k))), (3, .int (Int32.ofInt (y20_3))), (4, .int (Int32.ofInt (v21))), (5, .int (Int32.ofInt (v30))), (6, .int (Int32.ofInt (y55_6)))], [.ref 16], M38)) rfl ?_
              refine w_gf (v := .ref 24) hR39a rfl rfl rfl rfl ?_
              refine w_adv (n := 2) (F' := (147, [(0, .ref 16), (1, .int (Int32.ofInt (k))), (2, .int (Int32.ofInt (v9 + k))), (3, .int (Int32.ofInt (y20_3))), (4, .int (Int32.ofInt (v21))), (5, .int (Int32.ofInt (v30))), (6, .int (Int32.ofInt (y55_6)))], [.int (Int32.ofInt (1)), .int (Int32.ofInt (y55_6)), .ref 24], M38)) rfl ?_
              refine w_add rfl ?_
              refine w_adv (n := 1) (F' := (150, [(0, .ref 16), (1, .int (Int32.ofInt (k))), (2, .int (Int32.ofInt (v9 + k))), (3, .int (Int32.ofInt (y20_3))), (4, .int (Int32.ofInt (v21))), (5, .int (Int32.ofInt (v30))), (6, .int (Int32.ofInt (y55_6)))], [.int (Int32.ofInt (v30)), .int (Int32.ofInt (y55_6 + 1)), .ref 24], M38)) rfl ?_
              refine w_call (cm := 25) (as := [(0, .ref 24), (1, .int (Int32.ofInt (y55_6 + 1))), (2, .int (Int32.ofInt (v30)))]) (rest := []) (o := none) rfl (trivial) (c_set (y55_6 + 1) (v30) 24 10000 rfl (by decide) hR39a ⟨by omega, by omega⟩ ⟨by omega, by omega⟩) (fun r41 M42 q43 => ?_)
              rcases q43 with ⟨e44, hR43a⟩
              rw [e44]
              replace hR43a : w_Rep w_TC fr X u l I (w_upF (w_upF (w_upF A 24 ga55_24) 24 (w_upG 10000 ga55_24 (y55_6) (v21))) 24 (w_upG 10000 (w_upG 10000 ga55_24 (y55_6) (v21)) (y55_6 + 1) (v30))) B C M42 := hR43a
              show w_W _ _ _ (153, [(0, .ref 16), (1, .int (Int32.ofInt (k))), (2, .int (Int32.ofInt (v9 + k))), (3, .int (Int32.ofInt (y20_3))), (4, .int (Int32.ofInt (v21))), (5, .int (Int32.ofInt (v30))), (6, .int (Int32.ofInt (y55_6)))], [], M42) _
              refine w_inc (nL := 7) (a := y20_3) rfl rfl rfl (by decide) ?_
              refine w_adv (n := 1) (F' := (20, [(3, .int (Int32.ofInt (y20_3 + 2))), (0, .ref 16), (1, .int (Int32.ofInt (k))), (2, .int (Int32.ofInt (v9 + k))), (4, .int (Int32.ofInt (v21))), (5, .int (Int32.ofInt (v30))), (6, .int (Int32.ofInt (y55_6)))], [], M42)) rfl ?_
              refine w_ls (ls := [(0, .ref 16), (1, .int (Int32.ofInt (k))), (2, .int (Int32.ofInt (v9 + k))), (3, .int (Int32.ofInt (y20_3 + 2)))]) (show List.Nodup [0, 1, 2, 3] by decide) (show List.Nodup [3, 0, 1, 2, 4, 5, 6] by decide) (List.forall_mem_cons.mpr ⟨(List.Mem.tail _ (List.Mem.head _)), (List.forall_mem_cons.mpr ⟨(List.Mem.tail _ (List.Mem.tail _ (List.Mem.head _))), (List.forall_mem_cons.mpr ⟨(List.Mem.tail _ (List.Mem.tail _ (List.Mem.tail _ (List.Mem.head _)))), (List.forall_mem_cons.mpr ⟨(List.Mem.head _), (fun _ h => by cases h)⟩)⟩)⟩)⟩) ?_
              exact ih20  (y20_3 + 2) ((w_upG 10000 (w_upG 10000 ga55_24 (y55_6) (v21)) (y55_6 + 1) (v30))) M42 (w_Rep.up hR43a (show I = I from rfl) (show (w_upF A 24 (w_upG 10000 (w_upG 10000 ga55_24 (y55_6) (v21)) (y55_6 + 1) (v30))) = (w_upF (w_upF (w_upF A 24 ga55_24) 24 (w_upG 10000 ga55_24 (y55_6) (v21))) 24 (w_upG 10000 (w_upG 10000 ga55_24 (y55_6) (v21)) (y55_6 + 1) (v30))) from (funext fun s => if e0 : s = 24 then (by subst e0; rfl) else (by simp only [w_upF_ne e0])))) ⟨by omega, by omega⟩ (show -1 ≤ (y20_3 + 2) ∧ (y20_3 + 2) ≤ 10005 by omega) (show 10006 - (y20_3 + 2) < (fu20 : Int) by omega)
            · have h36 : ¬ (y55_6 ≤ v9 + k) := h36
              show w_W _ _ _ (61, [(0, .ref 16), (1, .int (Int32.ofInt (k))), (2, .int (Int32.ofInt (v9 + k))), (3, .int (Int32.ofInt (y20_3))), (4, .int (Int32.ofInt (v21))), (5, .int (Int32.ofInt (v30))), (6, .int (Int32.ofInt (y55_6)))], [], M_55) _
              refine w_adv (n := 3) (F' := (65, [(0, .ref 16), (1, .int (Int32.ofInt (k))), (2, .int (Int32.ofInt (v9 + k))), (3, .int (Int32.ofInt (y20_3))), (4, .int (Int32.ofInt (v21))), (5, .int (Int32.ofInt (v30))), (6, .int (Int32.ofInt (y55_6)))], [.ref 16, .int (Int32.ofInt (v21)), .ref 16], M_55)) rfl ?_
              refine w_gf (v := .ref 24) hR_55 rfl rfl rfl rfl ?_
              refine w_adv (n := 2) (F' := (71, [(0, .ref 16), (1, .int (Int32.ofInt (k))), (2, .int (Int32.ofInt (v9 + k))), (3, .int (Int32.ofInt (y20_3))), (4, .int (Int32.ofInt (v21))), (5, .int (Int32.ofInt (v30))), (6, .int (Int32.ofInt (y55_6)))], [.int (Int32.ofInt (2)), .int (Int32.ofInt (y55_6)), .ref 24, .int (Int32.ofInt (v21)), .ref 16], M_55)) rfl ?_
              refine w_sub rfl ?_
              refine w_call (cm := 21) (as := [(0, .ref 24), (1, .int (Int32.ofInt (y55_6 - 2)))]) (rest := [.int (Int32.ofInt (v21)), .ref 16]) (o := none) rfl (trivial) (c_at (y55_6 - 2) 24 10000 rfl (by decide) hR_55 ⟨by omega, by omega⟩) (fun r45 M46 q47 => ?_)
              rcases q47 with ⟨v48, e49, ⟨r50, r51⟩, e52, f53⟩
              rw [e49, e52]
              replace f53 : ((0 ≤ y55_6 - 2 ∧ y55_6 - 2 < (10000 : Int) ∧ v48 = ga55_24 (y55_6 - 2)) ∨ (¬ (0 ≤ y55_6 - 2 ∧ y55_6 - 2 < (10000 : Int)) ∧ v48 = -1)) := f53
              show w_W _ _ _ (75, [(0, .ref 16), (1, .int (Int32.ofInt (k))), (2, .int (Int32.ofInt (v9 + k))), (3, .int (Int32.ofInt (y20_3))), (4, .int (Int32.ofInt (v21))), (5, .int (Int32.ofInt (v30))), (6, .int (Int32.ofInt (y55_6)))], [.int (Int32.ofInt (v48)), .int (Int32.ofInt (v21)), .ref 16], M_55) _
              refine w_call (cm := 166) (as := [(0, .ref 16), (1, .int (Int32.ofInt (v21))), (2, .int (Int32.ofInt (v48)))]) (rest := []) (o := some (2, 16)) rfl (w_fitR hR_55 rfl) (c_Kernel_isBefore (v21) (v48) hR_55 (show 3 ≤ d by omega) ⟨by omega, by omega⟩ ⟨by omega, by omega⟩ (show 36 ≤ (I 200) ∧ (I 200) ≤ 419 ∧ 0 ≤ (I 202) ∧ (I 202) ≤ 24 by (repeat' apply And.intro) <;> first | assumption | omega) (show ∀ i, (A 5) i ≤ 24 by rw [show (A 5) = (A 5) from (show c_bz I A I (w_upF A 24 ga55_24) 0 0 (I 2503) from (c_bz_upF c_bz_refl rfl)).2.1 5 rfl]; exact hLN)) (fun r54 M55 q56 => ?_)
              rcases q56 with ⟨e57, e58⟩ | ⟨e59, e60⟩
              · rw [e57, e58]
                show w_W _ _ _ (78, [(0, .ref 16), (1, .int (Int32.ofInt (k))), (2, .int (Int32.ofInt (v9 + k))), (3, .int (Int32.ofInt (y20_3))), (4, .int (Int32.ofInt (v21))), (5, .int (Int32.ofInt (v30))), (6, .int (Int32.ofInt (y55_6)))], [.int (Int32.ofInt (1))], M_55) _
                refine w_adv (n := 2) (F' := (82, [(0, .ref 16), (1, .int (Int32.ofInt (k))), (2, .int (Int32.ofInt (v9 + k))), (3, .int (Int32.ofInt (y20_3))), (4, .int (Int32.ofInt (v21))), (5, .int (Int32.ofInt (v30))), (6, .int (Int32.ofInt (y55_6)))], [.ref 16], M_55)) rfl ?_
                refine w_gf (v := .ref 24) hR_55 rfl rfl rfl rfl ?_
                refine w_adv (n := 2) (F' := (88, [(0, .ref 16), (1, .int (Int32.ofInt (k))), (2, .int (Int32.ofInt (v9 + k))), (3, .int (Int32.ofInt (y20_3))), (4, .int (Int32.ofInt (v21))), (5, .int (Int32.ofInt (v30))), (6, .int (Int32.ofInt (y55_6)))], [.ref 16, .int (Int32.ofInt (y55_6)), .ref 24], M_55)) rfl ?_
                refine w_gf (v := .ref 24) hR_55 rfl rfl rfl rfl ?_
                refine w_adv (n := 2) (F' := (94, [(0, .ref 16), (1, .int (Int32.ofInt (k))), (2, .int (Int32.ofInt (v9 + k))), (3, .int (Int32.ofInt (y20_3))), (4, .int (Int32.ofInt (v21))), (5, .int (Int32.ofInt (v30))), (6, .int (Int32.ofInt (y55_6)))], [.int (Int32.ofInt (2)), .int (Int32.ofInt (y55_6)), .ref 24, .int (Int32.ofInt (y55_6)), .ref 24], M_55)) rfl ?_
                refine w_sub rfl ?_
                refine w_call (cm := 21) (as := [(0, .ref 24), (1, .int (Int32.ofInt (y55_6 - 2)))]) (rest := [.int (Int32.ofInt (y55_6)), .ref 24]) (o := none) rfl (trivial) (c_at (y55_6 - 2) 24 10000 rfl (by decide) hR_55 ⟨by omega, by omega⟩) (fun r61 M62 q63 => ?_)
                rcases q63 with ⟨v64, e65, ⟨r66, r67⟩, e68, f69⟩
                rw [e65, e68]
                replace f69 : ((0 ≤ y55_6 - 2 ∧ y55_6 - 2 < (10000 : Int) ∧ v64 = ga55_24 (y55_6 - 2)) ∨ (¬ (0 ≤ y55_6 - 2 ∧ y55_6 - 2 < (10000 : Int)) ∧ v64 = -1)) := f69
                show w_W _ _ _ (98, [(0, .ref 16), (1, .int (Int32.ofInt (k))), (2, .int (Int32.ofInt (v9 + k))), (3, .int (Int32.ofInt (y20_3))), (4, .int (Int32.ofInt (v21))), (5, .int (Int32.ofInt (v30))), (6, .int (Int32.ofInt (y55_6)))], [.int (Int32.ofInt (v64)), .int (Int32.ofInt (y55_6)), .ref 24], M_55) _
                refine w_call (cm := 25) (as := [(0, .ref 24), (1, .int (Int32.ofInt (y55_6))), (2, .int (Int32.ofInt (v64)))]) (rest := []) (o := none) rfl (trivial) (c_set (y55_6) (v64) 24 10000 rfl (by decide) hR_55 ⟨by omega, by omega⟩ ⟨by omega, by omega⟩) (fun r70 M71 q72 => ?_)
                rcases q72 with ⟨e73, hR72a⟩
                rw [e73]
                replace hR72a : w_Rep w_TC fr X u l I (w_upF (w_upF A 24 ga55_24) 24 (w_upG 10000 ga55_24 (y55_6) (v64))) B C M71 := hR72a
                show w_W _ _ _ (101, [(0, .ref 16), (1, .int (Int32.ofInt (k))), (2, .int (Int32.ofInt (v9 + k))), (3, .int (Int32.ofInt (y20_3))), (4, .int (Int32.ofInt (v21))), (5, .int (Int32.ofInt (v30))), (6, .int (Int32.ofInt (y55_6)))], [], M71) _
                refine w_adv (n := 1) (F' := (102, [(0, .ref 16), (1, .int (Int32.ofInt (k))), (2, .int (Int32.ofInt (v9 + k))), (3, .int (Int32.ofInt (y20_3))), (4, .int (Int32.ofInt (v21))), (5, .int (Int32.ofInt (v30))), (6, .int (Int32.ofInt (y55_6)))], [.ref 16], M71)) rfl ?_
                refine w_gf (v := .ref 24) hR72a rfl rfl rfl rfl ?_
                refine w_adv (n := 2) (F' := (108, [(0, .ref 16), (1, .int (Int32.ofInt (k))), (2, .int (Int32.ofInt (v9 + k))), (3, .int (Int32.ofInt (y20_3))), (4, .int (Int32.ofInt (v21))), (5, .int (Int32.ofInt (v30))), (6, .int (Int32.ofInt (y55_6)))], [.int (Int32.ofInt (1)), .int (Int32.ofInt (y55_6)), .ref 24], M71)) rfl ?_
                refine w_add rfl ?_
                refine w_adv (n := 1) (F' := (110, [(0, .ref 16), (1, .int (Int32.ofInt (k))), (2, .int (Int32.ofInt (v9 + k))), (3, .int (Int32.ofInt (y20_3))), (4, .int (Int32.ofInt (v21))), (5, .int (Int32.ofInt (v30))), (6, .int (Int32.ofInt (y55_6)))], [.ref 16, .int (Int32.ofInt (y55_6 + 1)), .ref 24], M71)) rfl ?_
                refine w_gf (v := .ref 24) hR72a rfl rfl rfl rfl ?_
                refine w_adv (n := 2) (F' := (116, [(0, .ref 16), (1, .int (Int32.ofInt (k))), (2, .int (Int32.ofInt (v9 + k))), (3, .int (Int32.ofInt (y20_3))), (4, .int (Int32.ofInt (v21))), (5, .int (Int32.ofInt (v30))), (6, .int (Int32.ofInt (y55_6)))], [.int (Int32.ofInt (1)), .int (Int32.ofInt (y55_6)), .ref 24, .int (Int32.ofInt (y55_6 + 1)), .ref 24], M71)) rfl ?_
                refine w_sub rfl ?_
                refine w_call (cm := 21) (as := [(0, .ref 24), (1, .int (Int32.ofInt (y55_6 - 1)))]) (rest := [.int (Int32.ofInt (y55_6 + 1)), .ref 24]) (o := none) rfl (trivial) (c_at (y55_6 - 1) 24 10000 rfl (by decide) hR72a ⟨by omega, by omega⟩) (fun r74 M75 q76 => ?_)
                rcases q76 with ⟨v77, e78, ⟨r79, r80⟩, e81, f82⟩
                rw [e78, e81]
                replace f82 : ((0 ≤ y55_6 - 1 ∧ y55_6 - 1 < (10000 : Int) ∧ v77 = (w_upG 10000 ga55_24 (y55_6) (v64)) (y55_6 - 1)) ∨ (¬ (0 ≤ y55_6 - 1 ∧ y55_6 - 1 < (10000 : Int)) ∧ v77 = -1)) := f82
                show w_W _ _ _ (120, [(0, .ref 16), (1, .int (Int32.ofInt (k))), (2, .int (Int32.ofInt (v9 + k))), (3, .int (Int32.ofInt (y20_3))), (4, .int (Int32.ofInt (v21))), (5, .int (Int32.ofInt (v30))), (6, .int (Int32.ofInt (y55_6)))], [.int (Int32.ofInt (v77)), .int (Int32.ofInt (y55_6 + 1)), .ref 24], M71) _
                refine w_call (cm := 25) (as := [(0, .ref 24), (1, .int (Int32.ofInt (y55_6 + 1))), (2, .int (Int32.ofInt (v77)))]) (rest := []) (o := none) rfl (trivial) (c_set (y55_6 + 1) (v77) 24 10000 rfl (by decide) hR72a ⟨by omega, by omega⟩ ⟨by omega, by omega⟩) (fun r83 M84 q85 => ?_)
                rcases q85 with ⟨e86, hR85a⟩
                rw [e86]
                replace hR85a : w_Rep w_TC fr X u l I (w_upF (w_upF (w_upF A 24 ga55_24) 24 (w_upG 10000 ga55_24 (y55_6) (v64))) 24 (w_upG 10000 (w_upG 10000 ga55_24 (y55_6) (v64)) (y55_6 + 1) (v77))) B C M84 := hR85a
                show w_W _ _ _ (123, [(0, .ref 16), (1, .int (Int32.ofInt (k))), (2, .int (Int32.ofInt (v9 + k))), (3, .int (Int32.ofInt (y20_3))), (4, .int (Int32.ofInt (v21))), (5, .int (Int32.ofInt (v30))), (6, .int (Int32.ofInt (y55_6)))], [], M84) _
                refine w_inc (nL := 7) (a := y55_6) rfl rfl rfl (by decide) ?_
                refine w_adv (n := 1) (F' := (55, [(6, .int (Int32.ofInt (y55_6 + (-2)))), (0, .ref 16), (1, .int (Int32.ofInt (k))), (2, .int (Int32.ofInt (v9 + k))), (3, .int (Int32.ofInt (y20_3))), (4, .int (Int32.ofInt (v21))), (5, .int (Int32.ofInt (v30)))], [], M84)) rfl ?_
                refine w_ls (ls := [(0, .ref 16), (1, .int (Int32.ofInt (k))), (2, .int (Int32.ofInt (v9 + k))), (3, .int (Int32.ofInt (y20_3))), (4, .int (Int32.ofInt (v21))), (5, .int (Int32.ofInt (v30))), (6, .int (Int32.ofInt (y55_6 + (-2))))]) (show List.Nodup [0, 1, 2, 3, 4, 5, 6] by decide) (show List.Nodup [6, 0, 1, 2, 3, 4, 5] by decide) (List.forall_mem_cons.mpr ⟨(List.Mem.tail _ (List.Mem.head _)), (List.forall_mem_cons.mpr ⟨(List.Mem.tail _ (List.Mem.tail _ (List.Mem.head _))), (List.forall_mem_cons.mpr ⟨(List.Mem.tail _ (List.Mem.tail _ (List.Mem.tail _ (List.Mem.head _)))), (List.forall_mem_cons.mpr ⟨(List.Mem.tail _ (List.Mem.tail _ (List.Mem.tail _ (List.Mem.tail _ (List.Mem.head _))))), (List.forall_mem_cons.mpr ⟨(List.Mem.tail _ (List.Mem.tail _ (List.Mem.tail _ (List.Mem.tail _ (List.Mem.tail _ (List.Mem.head _)))))), (List.forall_mem_cons.mpr ⟨(List.Mem.tail _ (List.Mem.tail _ (List.Mem.tail _ (List.Mem.tail _ (List.Mem.tail _ (List.Mem.tail _ (List.Mem.head _))))))), (List.forall_mem_cons.mpr ⟨(List.Mem.head _), (fun _ h => by cases h)⟩)⟩)⟩)⟩)⟩)⟩)⟩) ?_
                exact ih55  (y55_6 + (-2)) ((w_upG 10000 (w_upG 10000 ga55_24 (y55_6) (v64)) (y55_6 + 1) (v77))) M84 (w_Rep.up hR85a (show I = I from rfl) (show (w_upF A 24 (w_upG 10000 (w_upG 10000 ga55_24 (y55_6) (v64)) (y55_6 + 1) (v77))) = (w_upF (w_upF (w_upF A 24 ga55_24) 24 (w_upG 10000 ga55_24 (y55_6) (v64))) 24 (w_upG 10000 (w_upG 10000 ga55_24 (y55_6) (v64)) (y55_6 + 1) (v77))) from (funext fun s => if e0 : s = 24 then (by subst e0; rfl) else (by simp only [w_upF_ne e0])))) ⟨by omega, by omega⟩ (show -4 ≤ (y55_6 + (-2)) ∧ (y55_6 + (-2)) ≤ 10005 by omega) (show (y55_6 + (-2)) + 4 < (fu55 : Int) by omega)
              · rw [e59, e60]
                show w_W _ _ _ (78, [(0, .ref 16), (1, .int (Int32.ofInt (k))), (2, .int (Int32.ofInt (v9 + k))), (3, .int (Int32.ofInt (y20_3))), (4, .int (Int32.ofInt (v21))), (5, .int (Int32.ofInt (v30))), (6, .int (Int32.ofInt (y55_6)))], [.int (Int32.ofInt (0))], M_55) _
                refine w_adv (n := 2) (F' := (130, [(0, .ref 16), (1, .int (Int32.ofInt (k))), (2, .int (Int32.ofInt (v9 + k))), (3, .int (Int32.ofInt (y20_3))), (4, .int (Int32.ofInt (v21))), (5, .int (Int32.ofInt (v30))), (6, .int (Int32.ofInt (y55_6)))], [.ref 16], M_55)) rfl ?_
                refine w_gf (v := .ref 24) hR_55 rfl rfl rfl rfl ?_
                refine w_adv (n := 2) (F' := (137, [(0, .ref 16), (1, .int (Int32.ofInt (k))), (2, .int (Int32.ofInt (v9 + k))), (3, .int (Int32.ofInt (y20_3))), (4, .int (Int32.ofInt (v21))), (5, .int (Int32.ofInt (v30))), (6, .int (Int32.ofInt (y55_6)))], [.int (Int32.ofInt (v21)), .int (Int32.ofInt (y55_6)), .ref 24], M_55)) rfl ?_
                refine w_call (cm := 25) (as := [(0, .ref 24), (1, .int (Int32.ofInt (y55_6))), (2, .int (Int32.ofInt (v21)))]) (rest := []) (o := none) rfl (trivial) (c_set (y55_6) (v21) 24 10000 rfl (by decide) hR_55 ⟨by omega, by omega⟩ ⟨by omega, by omega⟩) (fun r87 M88 q89 => ?_)
                rcases q89 with ⟨e90, hR89a⟩
                rw [e90]
                replace hR89a : w_Rep w_TC fr X u l I (w_upF (w_upF A 24 ga55_24) 24 (w_upG 10000 ga55_24 (y55_6) (v21))) B C M88 := hR89a
                show w_W _ _ _ (140, [(0, .ref 16), (1, .int (Int32.ofInt (k))), (2, .int (Int32.ofInt (v9 + k))), (3, .int (Int32.ofInt (y20_3))), (4, .int (Int32.ofInt (v21))), (5, .int (Int32.ofInt (v30))), (6, .int (Int32.ofInt (y55_6)))], [], M88) _
                refine w_adv (n := 1) (F' := (141, [(0, .ref 16), (1, .int (Int32.ofInt (k))), (2, .int (Int32.ofInt (v9 + k))), (3, .int (Int32.ofInt (y20_3))), (4, .int (Int32.ofInt (v21))), (5, .int (Int32.ofInt (v30))), (6, .int (Int32.ofInt (y55_6)))], [.ref 16], M88)) rfl ?_
                refine w_gf (v := .ref 24) hR89a rfl rfl rfl rfl ?_
                refine w_adv (n := 2) (F' := (147, [(0, .ref 16), (1, .int (Int32.ofInt (k))), (2, .int (Int32.ofInt (v9 + k))), (3, .int (Int32.ofInt (y20_3))), (4, .int (Int32.ofInt (v21))), (5, .int (Int32.ofInt (v30))), (6, .int (Int32.ofInt (y55_6)))], [.int (Int32.ofInt (1)), .int (Int32.ofInt (y55_6)), .ref 24], M88)) rfl ?_
                refine w_add rfl ?_
                refine w_adv (n := 1) (F' := (150, [(0, .ref 16), (1, .int (Int32.ofInt (k))), (2, .int (Int32.ofInt (v9 + k))), (3, .int (Int32.ofInt (y20_3))), (4, .int (Int32.ofInt (v21))), (5, .int (Int32.ofInt (v30))), (6, .int (Int32.ofInt (y55_6)))], [.int (Int32.ofInt (v30)), .int (Int32.ofInt (y55_6 + 1)), .ref 24], M88)) rfl ?_
                refine w_call (cm := 25) (as := [(0, .ref 24), (1, .int (Int32.ofInt (y55_6 + 1))), (2, .int (Int32.ofInt (v30)))]) (rest := []) (o := none) rfl (trivial) (c_set (y55_6 + 1) (v30) 24 10000 rfl (by decide) hR89a ⟨by omega, by omega⟩ ⟨by omega, by omega⟩) (fun r91 M92 q93 => ?_)
                rcases q93 with ⟨e94, hR93a⟩
                rw [e94]
                replace hR93a : w_Rep w_TC fr X u l I (w_upF (w_upF (w_upF A 24 ga55_24) 24 (w_upG 10000 ga55_24 (y55_6) (v21))) 24 (w_upG 10000 (w_upG 10000 ga55_24 (y55_6) (v21)) (y55_6 + 1) (v30))) B C M92 := hR93a
                show w_W _ _ _ (153, [(0, .ref 16), (1, .int (Int32.ofInt (k))), (2, .int (Int32.ofInt (v9 + k))), (3, .int (Int32.ofInt (y20_3))), (4, .int (Int32.ofInt (v21))), (5, .int (Int32.ofInt (v30))), (6, .int (Int32.ofInt (y55_6)))], [], M92) _
                refine w_inc (nL := 7) (a := y20_3) rfl rfl rfl (by decide) ?_
                refine w_adv (n := 1) (F' := (20, [(3, .int (Int32.ofInt (y20_3 + 2))), (0, .ref 16), (1, .int (Int32.ofInt (k))), (2, .int (Int32.ofInt (v9 + k))), (4, .int (Int32.ofInt (v21))), (5, .int (Int32.ofInt (v30))), (6, .int (Int32.ofInt (y55_6)))], [], M92)) rfl ?_
                refine w_ls (ls := [(0, .ref 16), (1, .int (Int32.ofInt (k))), (2, .int (Int32.ofInt (v9 + k))), (3, .int (Int32.ofInt (y20_3 + 2)))]) (show List.Nodup [0, 1, 2, 3] by decide) (show List.Nodup [3, 0, 1, 2, 4, 5, 6] by decide) (List.forall_mem_cons.mpr ⟨(List.Mem.tail _ (List.Mem.head _)), (List.forall_mem_cons.mpr ⟨(List.Mem.tail _ (List.Mem.tail _ (List.Mem.head _))), (List.forall_mem_cons.mpr ⟨(List.Mem.tail _ (List.Mem.tail _ (List.Mem.tail _ (List.Mem.head _)))), (List.forall_mem_cons.mpr ⟨(List.Mem.head _), (fun _ h => by cases h)⟩)⟩)⟩)⟩) ?_
                exact ih20  (y20_3 + 2) ((w_upG 10000 (w_upG 10000 ga55_24 (y55_6) (v21)) (y55_6 + 1) (v30))) M92 (w_Rep.up hR93a (show I = I from rfl) (show (w_upF A 24 (w_upG 10000 (w_upG 10000 ga55_24 (y55_6) (v21)) (y55_6 + 1) (v30))) = (w_upF (w_upF (w_upF A 24 ga55_24) 24 (w_upG 10000 ga55_24 (y55_6) (v21))) 24 (w_upG 10000 (w_upG 10000 ga55_24 (y55_6) (v21)) (y55_6 + 1) (v30))) from (funext fun s => if e0 : s = 24 then (by subst e0; rfl) else (by simp only [w_upF_ne e0])))) ⟨by omega, by omega⟩ (show -1 ≤ (y20_3 + 2) ∧ (y20_3 + 2) ≤ 10005 by omega) (show 10006 - (y20_3 + 2) < (fu20 : Int) by omega)
        refine w_ls (ls := [(0, .ref 16), (1, .int (Int32.ofInt (k))), (2, .int (Int32.ofInt (v9 + k))), (3, .int (Int32.ofInt (y20_3))), (4, .int (Int32.ofInt (v21))), (5, .int (Int32.ofInt (v30))), (6, .int (Int32.ofInt (y20_3)))]) (show List.Nodup [0, 1, 2, 3, 4, 5, 6] by decide) (show List.Nodup [6, 5, 4, 0, 1, 2, 3] by decide) (List.forall_mem_cons.mpr ⟨(List.Mem.tail _ (List.Mem.tail _ (List.Mem.tail _ (List.Mem.head _)))), (List.forall_mem_cons.mpr ⟨(List.Mem.tail _ (List.Mem.tail _ (List.Mem.tail _ (List.Mem.tail _ (List.Mem.head _))))), (List.forall_mem_cons.mpr ⟨(List.Mem.tail _ (List.Mem.tail _ (List.Mem.tail _ (List.Mem.tail _ (List.Mem.tail _ (List.Mem.head _)))))), (List.forall_mem_cons.mpr ⟨(List.Mem.tail _ (List.Mem.tail _ (List.Mem.tail _ (List.Mem.tail _ (List.Mem.tail _ (List.Mem.tail _ (List.Mem.head _))))))), (List.forall_mem_cons.mpr ⟨(List.Mem.tail _ (List.Mem.tail _ (List.Mem.head _))), (List.forall_mem_cons.mpr ⟨(List.Mem.tail _ (List.Mem.head _)), (List.forall_mem_cons.mpr ⟨(List.Mem.head _), (fun _ h => by cases h)⟩)⟩)⟩)⟩)⟩)⟩)⟩) ?_
        exact lp55 ((y20_3 + 4 : Int).toNat + 1)  (y20_3) (ga20_24) M_20 hR_20 ⟨by omega, by omega⟩ (show -4 ≤ y20_3 ∧ y20_3 ≤ 10005 by omega) (show y20_3 + 4 < (((y20_3 + 4 : Int).toNat + 1 : Nat) : Int) by omega)
  refine w_ls (ls := [(0, .ref 16), (1, .int (Int32.ofInt (k))), (2, .int (Int32.ofInt (v9 + k))), (3, .int (Int32.ofInt ((v9 + k) + 2)))]) (show List.Nodup [0, 1, 2, 3] by decide) (show List.Nodup [3, 2, 0, 1] by decide) (List.forall_mem_cons.mpr ⟨(List.Mem.tail _ (List.Mem.tail _ (List.Mem.head _))), (List.forall_mem_cons.mpr ⟨(List.Mem.tail _ (List.Mem.tail _ (List.Mem.tail _ (List.Mem.head _)))), (List.forall_mem_cons.mpr ⟨(List.Mem.tail _ (List.Mem.head _)), (List.forall_mem_cons.mpr ⟨(List.Mem.head _), (fun _ h => by cases h)⟩)⟩)⟩)⟩) ?_
  exact lp20 ((10006 - ((v9 + k) + 2) : Int).toNat + 1)  ((v9 + k) + 2) ((A 24)) M (w_Rep.up hR (show I = I from rfl) (show (w_upF A 24 (A 24)) = A from (funext fun s => if e0 : s = 24 then (by subst e0; rfl) else (by simp only [w_upF_ne e0])))) ⟨by omega, by omega⟩ (show -1 ≤ ((v9 + k) + 2) ∧ ((v9 + k) + 2) ≤ 10005 by omega) (show 10006 - ((v9 + k) + 2) < (((10006 - ((v9 + k) + 2) : Int).toNat + 1 : Nat) : Int) by omega)
def c_tsv_Q (fr : Nat → Bool) (X : Nat → Option (q_C (Nat → Int32))) (u l : Nat) (I : Nat → Int) (A : Nat → Int → Int) (B C : Nat → Nat) (M : w_M) (i : Int) (v : Int) : w_X → w_M → Prop := fun r M' => (∃ (I' : Nat → Int) (A' : Nat → Int → Int) (B' C' : Nat → Nat), (r = .inl none) ∧ (w_Rep w_TC fr X u l I' A' B' C' M') ∧ (c_bz I A I' A' 0 0 (I 2503)) ∧ ((I' 2503) = (I 2503) ∧ (0 ≤ (I' 1035) ∧ (I' 1035) ≤ 10000) ∧ (I' 200) = (I 200) ∧ (I' 202) = (I 202)) ∧ ((I' 2502) = (I 2502)))
set_option maxHeartbeats 100000000 in
set_option maxRecDepth 100000 in
theorem c_tsv {L : Nat} {xs : Nat → Int32} {d : Nat} {fr : Nat → Bool} {X : Nat → Option (q_C (Nat → Int32))} {u l : Nat} {I : Nat → Int} {A : Nat → Int → Int} {B C : Nat → Nat} {M : w_M} (i : Int) (v : Int) (hR : w_Rep w_TC fr X u l I A B C M) (hd : 2 ≤ d) (r_i : w_in i) (r_v : w_in v) (hKI : 0 ≤ (I 1035) ∧ (I 1035) ≤ 10000) (hW0 : 0 ≤ (I 2503)) : w_W (z_P L xs) d 160 (0, [(0, .ref 26), (1, .int (Int32.ofInt (i))), (2, .int (Int32.ofInt (v)))], [], M) (c_tsv_Q fr X u l I A B C M i v) := by
  obtain ⟨ra_i, rb_i⟩ := r_i
  obtain ⟨ra_v, rb_v⟩ := r_v
  obtain ⟨d, rfl⟩ : ∃ d0, d = d0 + 1 := ⟨d - 1, by omega⟩
  refine w_adv (n := 1) (F' := (1, [(0, .ref 26), (1, .int (Int32.ofInt (i))), (2, .int (Int32.ofInt (v)))], [.ref 26], M)) rfl ?_
  refine w_gf (v := .ref 32) hR rfl rfl rfl rfl ?_
  refine w_adv (n := 2) (F' := (6, [(0, .ref 26), (1, .int (Int32.ofInt (i))), (2, .int (Int32.ofInt (v)))], [.int (Int32.ofInt (v)), .int (Int32.ofInt (i)), .ref 32], M)) rfl ?_
  refine w_call (cm := 25) (as := [(0, .ref 32), (1, .int (Int32.ofInt (i))), (2, .int (Int32.ofInt (v)))]) (rest := []) (o := none) rfl (trivial) (c_set (i) (v) 32 3016 rfl (by decide) hR ⟨by omega, by omega⟩ ⟨by omega, by omega⟩) (fun r1 M2 q3 => ?_)
  rcases q3 with ⟨e4, hR3a⟩
  rw [e4]
  replace hR3a : w_Rep w_TC fr X u l I (w_upF A 32 (w_upG 3016 (A 32) (i) (v))) B C M2 := hR3a
  show w_W _ _ _ (9, [(0, .ref 26), (1, .int (Int32.ofInt (i))), (2, .int (Int32.ofInt (v)))], [], M2) _
  refine w_fin (r := .inl none) (M' := M2) rfl ?_
  exact ⟨I, (w_upF A 32 (w_upG 3016 (A 32) (i) (v))), B, C, rfl, hR3a, (show c_bz I A I (w_upF A 32 (w_upG 3016 (A 32) (i) (v))) 0 0 (I 2503) by exact (c_bz_upF c_bz_refl rfl)), (show (I 2503) = (I 2503) ∧ (0 ≤ (I 1035) ∧ (I 1035) ≤ 10000) ∧ (I 200) = (I 200) ∧ (I 202) = (I 202) by (repeat' apply And.intro) <;> first | assumption | omega), (show (I 2502) = (I 2502) by (repeat' apply And.intro) <;> first | assumption | omega)⟩
def c_ssv_Q (fr : Nat → Bool) (X : Nat → Option (q_C (Nat → Int32))) (u l : Nat) (I : Nat → Int) (A : Nat → Int → Int) (B C : Nat → Nat) (M : w_M) (i : Int) (v : Int) : w_X → w_M → Prop := fun r M' => (∃ (I' : Nat → Int) (A' : Nat → Int → Int) (B' C' : Nat → Nat), (r = .inl none) ∧ (w_Rep w_TC fr X u l I' A' B' C' M') ∧ (c_bz I A I' A' 0 0 (I 2503)) ∧ ((I' 2503) = (I 2503) ∧ (0 ≤ (I' 1035) ∧ (I' 1035) ≤ 10000) ∧ (I' 200) = (I 200) ∧ (I' 202) = (I 202)) ∧ ((I' 2502) = (I 2502)))
set_option maxHeartbeats 100000000 in
set_option maxRecDepth 100000 in
theorem c_ssv {L : Nat} {xs : Nat → Int32} {d : Nat} {fr : Nat → Bool} {X : Nat → Option (q_C (Nat → Int32))} {u l : Nat} {I : Nat → Int} {A : Nat → Int → Int} {B C : Nat → Nat} {M : w_M} (i : Int) (v : Int) (hR : w_Rep w_TC fr X u l I A B C M) (hd : 2 ≤ d) (r_i : w_in i) (r_v : w_in v) (hKI : 0 ≤ (I 1035) ∧ (I 1035) ≤ 10000) (hW0 : 0 ≤ (I 2503)) : w_W (z_P L xs) d 79 (0, [(0, .ref 33), (1, .int (Int32.ofInt (i))), (2, .int (Int32.ofInt (v)))], [], M) (c_ssv_Q fr X u l I A B C M i v) := by
  obtain ⟨ra_i, rb_i⟩ := r_i
  obtain ⟨ra_v, rb_v⟩ := r_v
  obtain ⟨d, rfl⟩ : ∃ d0, d = d0 + 1 := ⟨d - 1, by omega⟩
  refine w_adv (n := 1) (F' := (1, [(0, .ref 33), (1, .int (Int32.ofInt (i))), (2, .int (Int32.ofInt (v)))], [.ref 33], M)) rfl ?_
  refine w_gf (v := .ref 36) hR rfl rfl rfl rfl ?_
  refine w_adv (n := 2) (F' := (6, [(0, .ref 33), (1, .int (Int32.ofInt (i))), (2, .int (Int32.ofInt (v)))], [.int (Int32.ofInt (v)), .int (Int32.ofInt (i)), .ref 36], M)) rfl ?_
  refine w_call (cm := 25) (as := [(0, .ref 36), (1, .int (Int32.ofInt (i))), (2, .int (Int32.ofInt (v)))]) (rest := []) (o := none) rfl (trivial) (c_set (i) (v) 36 1508 rfl (by decide) hR ⟨by omega, by omega⟩ ⟨by omega, by omega⟩) (fun r1 M2 q3 => ?_)
  rcases q3 with ⟨e4, hR3a⟩
  rw [e4]
  replace hR3a : w_Rep w_TC fr X u l I (w_upF A 36 (w_upG 1508 (A 36) (i) (v))) B C M2 := hR3a
  show w_W _ _ _ (9, [(0, .ref 33), (1, .int (Int32.ofInt (i))), (2, .int (Int32.ofInt (v)))], [], M2) _
  refine w_fin (r := .inl none) (M' := M2) rfl ?_
  exact ⟨I, (w_upF A 36 (w_upG 1508 (A 36) (i) (v))), B, C, rfl, hR3a, (show c_bz I A I (w_upF A 36 (w_upG 1508 (A 36) (i) (v))) 0 0 (I 2503) by exact (c_bz_upF c_bz_refl rfl)), (show (I 2503) = (I 2503) ∧ (0 ≤ (I 1035) ∧ (I 1035) ≤ 10000) ∧ (I 200) = (I 200) ∧ (I 202) = (I 202) by (repeat' apply And.intro) <;> first | assumption | omega), (show (I 2502) = (I 2502) by (repeat' apply And.intro) <;> first | assumption | omega)⟩
