/-! PUT, BEGIN of the reference. -/
def m_putC_Q (fr : Nat → Bool) (X : Nat → Option (q_C (Nat → Int32))) (u l : Nat) (I : Nat → Int) (A : Nat → Int → Int) (B C : Nat → Nat) (M : w_M) (e0 : Int64) : w_X → w_M → Prop := fun r M' => (∃ zn : Int, (r = .inl (some (-2))) ∧ (M' = M) ∧ (c_nbp e0 zn ∧ 8192 < (I 2753) + zn)) ∨ (∃ v : Int, ∃ gb : Int → Int, ∃ zl : Int, ∃ zn : Int, (r = .inl (some v)) ∧ (w_in v) ∧ (w_Rep w_TM fr X u l (w_up I 2753 (zl)) (w_upF A 44 gb) B C M') ∧ (c_nbp e0 zn ∧ zl = v ∧ v = (I 2753) + zn ∧ v ≤ 8192))
set_option maxHeartbeats 100000000 in
set_option maxRecDepth 100000 in
theorem m_putC {L : Nat} {xs : Nat → Int32} {d : Nat} {fr : Nat → Bool} {X : Nat → Option (q_C (Nat → Int32))} {u l : Nat} {I : Nat → Int} {A : Nat → Int → Int} {B C : Nat → Nat} {M : w_M} (e0 : Int64) (hR : w_Rep w_TM fr X u l I A B C M) (hsz : 0 ≤ (I 2753) ∧ (I 2753) ≤ 8192) : w_W (z_P L xs) d 208 (0, [(0, .ref 43), (1, .long (e0))], [], M) (m_putC_Q fr X u l I A B C M e0) := by
  refine w_adv (n := 2) (F' := (2, [(3, .int (Int32.ofInt (0))), (0, .ref 43), (1, .long (e0))], [], M)) rfl ?_
  have lp2 : ∀ fu2 : Nat, ∀ (y2_3 : Int), w_in y2_3 → 0 ≤ y2_3 ∧ y2_3 ≤ 8 → (∀ j, 0 ≤ j → j < y2_3 → c_by e0 j ≠ 0) → 8 - y2_3 < (fu2 : Int) → w_W (z_P L xs) d 208 (2, [(0, .ref 43), (1, .long (e0)), (3, .int (Int32.ofInt (y2_3)))], [], M) (m_putC_Q fr X u l I A B C M e0) := by
    intro fu2
    induction fu2 with
    | zero =>
      intro y2_3 ⟨ra_y2_3, rb_y2_3⟩ hi2_0 hi2_1 hn2
      exfalso
      omega
    | succ fu2 ih2 =>
      intro y2_3 ⟨ra_y2_3, rb_y2_3⟩ hi2_0 hi2_1 hn2
      refine w_adv (n := 2) (F' := (5, [(0, .ref 43), (1, .long (e0)), (3, .int (Int32.ofInt (y2_3)))], [.int (Int32.ofInt (8)), .int (Int32.ofInt (y2_3))], M)) rfl ?_
      refine w_br2 (a := y2_3) (b := 8) rfl rfl ⟨by omega, by omega⟩ ⟨by omega, by omega⟩ (fun h1 => ?_) (fun h1 => ?_)
      · have h1 : y2_3 ≥ 8 := h1
        show w_W _ _ _ (29, [(0, .ref 43), (1, .long (e0)), (3, .int (Int32.ofInt (y2_3)))], [], M) _
        have znf : c_nbp e0 y2_3 := by first | exact (show (8 : Int) = y2_3 by omega) ▸ c_nb_8 hi2_1 (by omega) | exact c_nb_end hi2_1 ⟨by omega, by omega⟩ (show Int32.ofInt x = c_by e0 _ from x) (by omega)
        refine w_adv (n := 1) (F' := (30, [(0, .ref 43), (1, .long (e0)), (3, .int (Int32.ofInt (y2_3)))], [.ref 43], M)) rfl ?_
        refine w_gf (v := .int (Int32.ofInt ((I 2753)))) hR rfl rfl rfl rfl ?_
        obtain ⟨r2, r3⟩ : -2147483648 ≤ (I 2753) ∧ (I 2753) ≤ 2147483647 := hR.ri 2753
        refine w_adv (n := 1) (F' := (34, [(0, .ref 43), (1, .long (e0)), (3, .int (Int32.ofInt (y2_3)))], [.int (Int32.ofInt (y2_3)), .int (Int32.ofInt ((I 2753)))], M)) rfl ?_
        refine w_add rfl ?_
        refine w_adv (n := 1) (F' := (38, [(0, .ref 43), (1, .long (e0)), (3, .int (Int32.ofInt (y2_3)))], [.int (Int32.ofInt (8192)), .int (Int32.ofInt ((I 2753) + y2_3))], M)) rfl ?_
        refine w_br2 (a := (I 2753) + y2_3) (b := 8192) rfl rfl ⟨by omega, by omega⟩ ⟨by omega, by omega⟩ (fun h4 => ?_) (fun h4 => ?_)
        · have h4 : (I 2753) + y2_3 ≤ 8192 := h4
          show w_W _ _ _ (44, [(0, .ref 43), (1, .long (e0)), (3, .int (Int32.ofInt (y2_3)))], [], M) _
          refine w_adv (n := 2) (F' := (47, [(4, .int (Int32.ofInt (0))), (0, .ref 43), (1, .long (e0)), (3, .int (Int32.ofInt (y2_3)))], [], M)) rfl ?_
          have lp47 : ∀ fu47 : Nat, ∀ (y47_4 : Int) (ga47_44 : Int → Int) (gi47_2753 : Int) (M_47 : w_M) (hR_47 : w_Rep w_TM fr X u l (w_up I 2753 (gi47_2753)) (w_upF A 44 ga47_44) B C M_47), w_in y47_4 → 0 ≤ y47_4 ∧ y47_4 ≤ y2_3 ∧ gi47_2753 = (I 2753) + y47_4 → y2_3 - y47_4 < (fu47 : Int) → w_W (z_P L xs) d 208 (47, [(0, .ref 43), (1, .long (e0)), (3, .int (Int32.ofInt (y2_3))), (4, .int (Int32.ofInt (y47_4)))], [], M_47) (m_putC_Q fr X u l I A B C M e0) := by
            intro fu47
            induction fu47 with
            | zero =>
              intro y47_4 ga47_44 gi47_2753 M_47 hR_47 ⟨ra_y47_4, rb_y47_4⟩ hi47_0 hn47
              exfalso
              omega
            | succ fu47 ih47 =>
              intro y47_4 ga47_44 gi47_2753 M_47 hR_47 ⟨ra_y47_4, rb_y47_4⟩ hi47_0 hn47
              refine w_adv (n := 2) (F' := (50, [(0, .ref 43), (1, .long (e0)), (3, .int (Int32.ofInt (y2_3))), (4, .int (Int32.ofInt (y47_4)))], [.int (Int32.ofInt (y2_3)), .int (Int32.ofInt (y47_4))], M_47)) rfl ?_
              refine w_br2 (a := y47_4) (b := y2_3) rfl rfl ⟨by omega, by omega⟩ ⟨by omega, by omega⟩ (fun h5 => ?_) (fun h5 => ?_)
              · have h5 : y47_4 ≥ y2_3 := h5
                show w_W _ _ _ (87, [(0, .ref 43), (1, .long (e0)), (3, .int (Int32.ofInt (y2_3))), (4, .int (Int32.ofInt (y47_4)))], [], M_47) _
                refine w_adv (n := 1) (F' := (88, [(0, .ref 43), (1, .long (e0)), (3, .int (Int32.ofInt (y2_3))), (4, .int (Int32.ofInt (y47_4)))], [.ref 43], M_47)) rfl ?_
                refine w_gf (v := .int (Int32.ofInt (gi47_2753))) hR_47 rfl rfl rfl rfl ?_
                obtain ⟨r6, r7⟩ : -2147483648 ≤ gi47_2753 ∧ gi47_2753 ≤ 2147483647 := hR_47.ri 2753
                refine w_fin (r := .inl (some (gi47_2753))) (M' := M_47) rfl ?_
                exact Or.inr (⟨gi47_2753, ga47_44, gi47_2753, y2_3, rfl, ⟨by omega, by omega⟩, hR_47, (show c_nbp e0 y2_3 ∧ gi47_2753 = gi47_2753 ∧ gi47_2753 = (I 2753) + y2_3 ∧ gi47_2753 ≤ 8192 by exact ⟨znf, by omega, by omega, by omega⟩)⟩)
              · have h5 : ¬ (y47_4 ≥ y2_3) := h5
                show w_W _ _ _ (53, [(0, .ref 43), (1, .long (e0)), (3, .int (Int32.ofInt (y2_3))), (4, .int (Int32.ofInt (y47_4)))], [], M_47) _
                refine w_adv (n := 1) (F' := (54, [(0, .ref 43), (1, .long (e0)), (3, .int (Int32.ofInt (y2_3))), (4, .int (Int32.ofInt (y47_4)))], [.ref 43], M_47)) rfl ?_
                refine w_gf (v := .ref 44) hR_47 rfl rfl rfl rfl ?_
                refine w_adv (n := 1) (F' := (58, [(0, .ref 43), (1, .long (e0)), (3, .int (Int32.ofInt (y2_3))), (4, .int (Int32.ofInt (y47_4)))], [.ref 43, .ref 44], M_47)) rfl ?_
                refine w_gf (v := .int (Int32.ofInt (gi47_2753))) hR_47 rfl rfl rfl rfl ?_
                obtain ⟨r8, r9⟩ : -2147483648 ≤ gi47_2753 ∧ gi47_2753 ≤ 2147483647 := hR_47.ri 2753
                refine w_adv (n := 3) (F' := (66, [(0, .ref 43), (1, .long (e0)), (3, .int (Int32.ofInt (y2_3))), (4, .int (Int32.ofInt (y47_4)))], [.int (Int32.ofInt (y47_4)), .int (Int32.ofInt (8)), .long (e0), .int (Int32.ofInt (gi47_2753)), .ref 44], M_47)) rfl ?_
                refine w_mul rfl ?_
                refine w_adv (n := 2) (F' := (69, [(0, .ref 43), (1, .long (e0)), (3, .int (Int32.ofInt (y2_3))), (4, .int (Int32.ofInt (y47_4)))], [.int ((((e0).toUInt64 >>> ((Int32.ofInt (8 * y47_4)).toInt64.toUInt64 &&& Int64.toUInt64 63)).toInt64).toInt32), .int (Int32.ofInt (gi47_2753)), .ref 44], M_47)) rfl ?_
                refine w_int (fun x10 r11 e12 => ?_)
                obtain ⟨r11a, r11b⟩ := r11
                refine w_adv (n := 1) (F' := (70, [(0, .ref 43), (1, .long (e0)), (3, .int (Int32.ofInt (y2_3))), (4, .int (Int32.ofInt (y47_4)))], [.int ((Int32.ofInt (x10)).toInt8.toInt32), .int (Int32.ofInt (gi47_2753)), .ref 44], M_47)) rfl ?_
                refine w_int (fun x13 r14 e15 => ?_)
                obtain ⟨r14a, r14b⟩ := r14
                refine w_sab (n := 8192) hR_47 rfl rfl (show 0 ≤ gi47_2753 by omega) (show gi47_2753 < (8192 : Int) by omega) (by decide) (fun M16 hR17 => ?_)
                replace hR17 : w_Rep w_TM fr X u l (w_up I 2753 (gi47_2753)) (w_upF (w_upF A 44 ga47_44) 44 (w_upA ga47_44 (gi47_2753) (w_nb (x13)))) B C M16 := hR17
                refine w_adv (n := 2) (F' := (73, [(0, .ref 43), (1, .long (e0)), (3, .int (Int32.ofInt (y2_3))), (4, .int (Int32.ofInt (y47_4)))], [.ref 43, .ref 43], M16)) rfl ?_
                refine w_gf (v := .int (Int32.ofInt (gi47_2753))) hR17 rfl rfl rfl rfl ?_
                refine w_adv (n := 1) (F' := (77, [(0, .ref 43), (1, .long (e0)), (3, .int (Int32.ofInt (y2_3))), (4, .int (Int32.ofInt (y47_4)))], [.int (Int32.ofInt (1)), .int (Int32.ofInt (gi47_2753)), .ref 43], M16)) rfl ?_
                refine w_add rfl ?_
                refine w_pf hR17 rfl rfl rfl rfl (show w_in (gi47_2753 + 1) from ⟨by omega, by omega⟩) (fun h => absurd h (by decide)) (fun M18 hR19 => ?_)
                replace hR19 : w_Rep w_TM fr X u l (w_up I 2753 (gi47_2753 + 1)) (w_upF (w_upF A 44 ga47_44) 44 (w_upA ga47_44 (gi47_2753) (w_nb (x13)))) B C M18 := w_Rep.up hR19 (show (w_up I 2753 (gi47_2753 + 1)) = _ from (funext fun s => if e0 : s = 2753 then (by subst e0; rfl) else (by simp only [w_up_ne e0]))) rfl
                refine w_inc (nL := 5) (a := y47_4) rfl rfl rfl (by decide) ?_
                refine w_adv (n := 1) (F' := (47, [(4, .int (Int32.ofInt (y47_4 + 1))), (0, .ref 43), (1, .long (e0)), (3, .int (Int32.ofInt (y2_3)))], [], M18)) rfl ?_
                refine w_ls (ls := [(0, .ref 43), (1, .long (e0)), (3, .int (Int32.ofInt (y2_3))), (4, .int (Int32.ofInt (y47_4 + 1)))]) (show List.Nodup [0, 1, 3, 4] by decide) (show List.Nodup [4, 0, 1, 3] by decide) (List.forall_mem_cons.mpr ⟨(List.Mem.tail _ (List.Mem.head _)), (List.forall_mem_cons.mpr ⟨(List.Mem.tail _ (List.Mem.tail _ (List.Mem.head _))), (List.forall_mem_cons.mpr ⟨(List.Mem.tail _ (List.Mem.tail _ (List.Mem.tail _ (List.Mem.head _)))), (List.forall_mem_cons.mpr ⟨(List.Mem.head _), (fun _ h => by cases h)⟩)⟩)⟩)⟩) ?_
                exact ih47  (y47_4 + 1) ((w_upA ga47_44 (gi47_2753) (w_nb (x13)))) (gi47_2753 + 1) M18 (w_Rep.up hR19 (show (w_up I 2753 (gi47_2753 + 1)) = (w_up I 2753 (gi47_2753 + 1)) from rfl) (show (w_upF A 44 (w_upA ga47_44 (gi47_2753) (w_nb (x13)))) = (w_upF (w_upF A 44 ga47_44) 44 (w_upA ga47_44 (gi47_2753) (w_nb (x13)))) from (funext fun s => if e0 : s = 44 then (by subst e0; rfl) else (by simp only [w_upF_ne e0])))) ⟨by omega, by omega⟩ (show 0 ≤ (y47_4 + 1) ∧ (y47_4 + 1) ≤ y2_3 ∧ gi47_2753 + 1 = (I 2753) + (y47_4 + 1) by omega) (show y2_3 - (y47_4 + 1) < (fu47 : Int) by omega)
          refine w_ls (ls := [(0, .ref 43), (1, .long (e0)), (3, .int (Int32.ofInt (y2_3))), (4, .int (Int32.ofInt (0)))]) (show List.Nodup [0, 1, 3, 4] by decide) (show List.Nodup [4, 0, 1, 3] by decide) (List.forall_mem_cons.mpr ⟨(List.Mem.tail _ (List.Mem.head _)), (List.forall_mem_cons.mpr ⟨(List.Mem.tail _ (List.Mem.tail _ (List.Mem.head _))), (List.forall_mem_cons.mpr ⟨(List.Mem.tail _ (List.Mem.tail _ (List.Mem.tail _ (List.Mem.head _)))), (List.forall_mem_cons.mpr ⟨(List.Mem.head _), (fun _ h => by cases h)⟩)⟩)⟩)⟩) ?_
          exact lp47 ((y2_3 - 0 : Int).toNat + 1)  (0) ((A 44)) ((I 2753)) M (w_Rep.up hR (show (w_up I 2753 ((I 2753))) = I from (funext fun s => if e0 : s = 2753 then (by subst e0; rfl) else (by simp only [w_up_ne e0]))) (show (w_upF A 44 (A 44)) = A from (funext fun s => if e0 : s = 44 then (by subst e0; rfl) else (by simp only [w_upF_ne e0])))) ⟨by omega, by omega⟩ (show 0 ≤ (0 : Int) ∧ (0 : Int) ≤ y2_3 ∧ (I 2753) = (I 2753) + (0 : Int) by omega) (show y2_3 - 0 < (((y2_3 - 0 : Int).toNat + 1 : Nat) : Int) by omega)
        · have h4 : ¬ ((I 2753) + y2_3 ≤ 8192) := h4
          show w_W _ _ _ (41, [(0, .ref 43), (1, .long (e0)), (3, .int (Int32.ofInt (y2_3)))], [], M) _
          refine w_adv (n := 1) (F' := (43, [(0, .ref 43), (1, .long (e0)), (3, .int (Int32.ofInt (y2_3)))], [.int (Int32.ofInt ((-2)))], M)) rfl ?_
          refine w_fin (r := .inl (some ((-2)))) (M' := M) rfl ?_
          first
            | exact Or.inl ⟨y2_3, rfl, rfl, (show c_nbp e0 y2_3 ∧ 8192 < (I 2753) + y2_3 by exact ⟨znf, by omega⟩)⟩
            | exact Or.inr (⟨(-2), (A 44), (I 2753), y2_3, rfl, ⟨by omega, by omega⟩, (w_Rep.up hR (show (w_up I 2753 ((I 2753))) = I from (funext fun s => if e0 : s = 2753 then (by subst e0; rfl) else (by simp only [w_up_ne e0]))) (show (w_upF A 44 (A 44)) = A from (funext fun s => if e0 : s = 44 then (by subst e0; rfl) else (by simp only [w_upF_ne e0])))), (show c_nbp e0 y2_3 ∧ (I 2753) = (-2) ∧ (-2) = (I 2753) + y2_3 ∧ (-2) ≤ 8192 by exact ⟨znf, by omega, by omega, by omega⟩)⟩)
      · have h1 : ¬ (y2_3 ≥ 8) := h1
        show w_W _ _ _ (8, [(0, .ref 43), (1, .long (e0)), (3, .int (Int32.ofInt (y2_3)))], [], M) _
        refine w_adv (n := 3) (F' := (12, [(0, .ref 43), (1, .long (e0)), (3, .int (Int32.ofInt (y2_3)))], [.int (Int32.ofInt (y2_3)), .int (Int32.ofInt (8)), .long (e0)], M)) rfl ?_
        refine w_mul rfl ?_
        refine w_adv (n := 5) (F' := (20, [(0, .ref 43), (1, .long (e0)), (3, .int (Int32.ofInt (y2_3)))], [.int (lg_cmp ((((e0).toUInt64 >>> ((Int32.ofInt (8 * y2_3)).toInt64.toUInt64 &&& Int64.toUInt64 63)).toInt64) &&& (255)) (0))], M)) rfl ?_
        refine w_int (fun x20 r21 e22 => ?_)
        obtain ⟨r21a, r21b⟩ := r21
        refine w_br1 (a := x20) rfl rfl ⟨by omega, by omega⟩ (fun h23 => ?_) (fun h23 => ?_)
        · have h23 : x20 = 0 := h23
          show w_W _ _ _ (29, [(0, .ref 43), (1, .long (e0)), (3, .int (Int32.ofInt (y2_3)))], [], M) _
          have znf : c_nbp e0 y2_3 := by first | exact (show (8 : Int) = y2_3 by omega) ▸ c_nb_8 hi2_1 (by omega) | exact c_nb_end hi2_1 ⟨by omega, by omega⟩ (show Int32.ofInt x20 = c_by e0 _ from e22) (by omega)
          refine w_adv (n := 1) (F' := (30, [(0, .ref 43), (1, .long (e0)), (3, .int (Int32.ofInt (y2_3)))], [.ref 43], M)) rfl ?_
          refine w_gf (v := .int (Int32.ofInt ((I 2753)))) hR rfl rfl rfl rfl ?_
          obtain ⟨r24, r25⟩ : -2147483648 ≤ (I 2753) ∧ (I 2753) ≤ 2147483647 := hR.ri 2753
          refine w_adv (n := 1) (F' := (34, [(0, .ref 43), (1, .long (e0)), (3, .int (Int32.ofInt (y2_3)))], [.int (Int32.ofInt (y2_3)), .int (Int32.ofInt ((I 2753)))], M)) rfl ?_
          refine w_add rfl ?_
          refine w_adv (n := 1) (F' := (38, [(0, .ref 43), (1, .long (e0)), (3, .int (Int32.ofInt (y2_3)))], [.int (Int32.ofInt (8192)), .int (Int32.ofInt ((I 2753) + y2_3))], M)) rfl ?_
          refine w_br2 (a := (I 2753) + y2_3) (b := 8192) rfl rfl ⟨by omega, by omega⟩ ⟨by omega, by omega⟩ (fun h26 => ?_) (fun h26 => ?_)
          · have h26 : (I 2753) + y2_3 ≤ 8192 := h26
            show w_W _ _ _ (44, [(0, .ref 43), (1, .long (e0)), (3, .int (Int32.ofInt (y2_3)))], [], M) _
            refine w_adv (n := 2) (F' := (47, [(4, .int (Int32.ofInt (0))), (0, .ref 43), (1, .long (e0)), (3, .int (Int32.ofInt (y2_3)))], [], M)) rfl ?_
            have lp47 : ∀ fu47 : Nat, ∀ (y47_4 : Int) (ga47_44 : Int → Int) (gi47_2753 : Int) (M_47 : w_M) (hR_47 : w_Rep w_TM fr X u l (w_up I 2753 (gi47_2753)) (w_upF A 44 ga47_44) B C M_47), w_in y47_4 → 0 ≤ y47_4 ∧ y47_4 ≤ y2_3 ∧ gi47_2753 = (I 2753) + y47_4 → y2_3 - y47_4 < (fu47 : Int) → w_W (z_P L xs) d 208 (47, [(0, .ref 43), (1, .long (e0)), (3, .int (Int32.ofInt (y2_3))), (4, .int (Int32.ofInt (y47_4)))], [], M_47) (m_putC_Q fr X u l I A B C M e0) := by
              intro fu47
              induction fu47 with
              | zero =>
                intro y47_4 ga47_44 gi47_2753 M_47 hR_47 ⟨ra_y47_4, rb_y47_4⟩ hi47_0 hn47
                exfalso
                omega
              | succ fu47 ih47 =>
                intro y47_4 ga47_44 gi47_2753 M_47 hR_47 ⟨ra_y47_4, rb_y47_4⟩ hi47_0 hn47
                refine w_adv (n := 2) (F' := (50, [(0, .ref 43), (1, .long (e0)), (3, .int (Int32.ofInt (y2_3))), (4, .int (Int32.ofInt (y47_4)))], [.int (Int32.ofInt (y2_3)), .int (Int32.ofInt (y47_4))], M_47)) rfl ?_
                refine w_br2 (a := y47_4) (b := y2_3) rfl rfl ⟨by omega, by omega⟩ ⟨by omega, by omega⟩ (fun h27 => ?_) (fun h27 => ?_)
                · have h27 : y47_4 ≥ y2_3 := h27
                  show w_W _ _ _ (87, [(0, .ref 43), (1, .long (e0)), (3, .int (Int32.ofInt (y2_3))), (4, .int (Int32.ofInt (y47_4)))], [], M_47) _
                  refine w_adv (n := 1) (F' := (88, [(0, .ref 43), (1, .long (e0)), (3, .int (Int32.ofInt (y2_3))), (4, .int (Int32.ofInt (y47_4)))], [.ref 43], M_47)) rfl ?_
                  refine w_gf (v := .int (Int32.ofInt (gi47_2753))) hR_47 rfl rfl rfl rfl ?_
                  obtain ⟨r28, r29⟩ : -2147483648 ≤ gi47_2753 ∧ gi47_2753 ≤ 2147483647 := hR_47.ri 2753
                  refine w_fin (r := .inl (some (gi47_2753))) (M' := M_47) rfl ?_
                  exact Or.inr (⟨gi47_2753, ga47_44, gi47_2753, y2_3, rfl, ⟨by omega, by omega⟩, hR_47, (show c_nbp e0 y2_3 ∧ gi47_2753 = gi47_2753 ∧ gi47_2753 = (I 2753) + y2_3 ∧ gi47_2753 ≤ 8192 by exact ⟨znf, by omega, by omega, by omega⟩)⟩)
                · have h27 : ¬ (y47_4 ≥ y2_3) := h27
                  show w_W _ _ _ (53, [(0, .ref 43), (1, .long (e0)), (3, .int (Int32.ofInt (y2_3))), (4, .int (Int32.ofInt (y47_4)))], [], M_47) _
                  refine w_adv (n := 1) (F' := (54, [(0, .ref 43), (1, .long (e0)), (3, .int (Int32.ofInt (y2_3))), (4, .int (Int32.ofInt (y47_4)))], [.ref 43], M_47)) rfl ?_
                  refine w_gf (v := .ref 44) hR_47 rfl rfl rfl rfl ?_
                  refine w_adv (n := 1) (F' := (58, [(0, .ref 43), (1, .long (e0)), (3, .int (Int32.ofInt (y2_3))), (4, .int (Int32.ofInt (y47_4)))], [.ref 43, .ref 44], M_47)) rfl ?_
                  refine w_gf (v := .int (Int32.ofInt (gi47_2753))) hR_47 rfl rfl rfl rfl ?_
                  obtain ⟨r30, r31⟩ : -2147483648 ≤ gi47_2753 ∧ gi47_2753 ≤ 2147483647 := hR_47.ri 2753
                  refine w_adv (n := 3) (F' := (66, [(0, .ref 43), (1, .long (e0)), (3, .int (Int32.ofInt (y2_3))), (4, .int (Int32.ofInt (y47_4)))], [.int (Int32.ofInt (y47_4)), .int (Int32.ofInt (8)), .long (e0), .int (Int32.ofInt (gi47_2753)), .ref 44], M_47)) rfl ?_
                  refine w_mul rfl ?_
                  refine w_adv (n := 2) (F' := (69, [(0, .ref 43), (1, .long (e0)), (3, .int (Int32.ofInt (y2_3))), (4, .int (Int32.ofInt (y47_4)))], [.int ((((e0).toUInt64 >>> ((Int32.ofInt (8 * y47_4)).toInt64.toUInt64 &&& Int64.toUInt64 63)).toInt64).toInt32), .int (Int32.ofInt (gi47_2753)), .ref 44], M_47)) rfl ?_
                  refine w_int (fun x32 r33 e34 => ?_)
                  obtain ⟨r33a, r33b⟩ := r33
                  refine w_adv (n := 1) (F' := (70, [(0, .ref 43), (1, .long (e0)), (3, .int (Int32.ofInt (y2_3))), (4, .int (Int32.ofInt (y47_4)))], [.int ((Int32.ofInt (x32)).toInt8.toInt32), .int (Int32.ofInt (gi47_2753)), .ref 44], M_47)) rfl ?_
                  refine w_int (fun x35 r36 e37 => ?_)
                  obtain ⟨r36a, r36b⟩ := r36
                  refine w_sab (n := 8192) hR_47 rfl rfl (show 0 ≤ gi47_2753 by omega) (show gi47_2753 < (8192 : Int) by omega) (by decide) (fun M38 hR39 => ?_)
                  replace hR39 : w_Rep w_TM fr X u l (w_up I 2753 (gi47_2753)) (w_upF (w_upF A 44 ga47_44) 44 (w_upA ga47_44 (gi47_2753) (w_nb (x35)))) B C M38 := hR39
                  refine w_adv (n := 2) (F' := (73, [(0, .ref 43), (1, .long (e0)), (3, .int (Int32.ofInt (y2_3))), (4, .int (Int32.ofInt (y47_4)))], [.ref 43, .ref 43], M38)) rfl ?_
                  refine w_gf (v := .int (Int32.ofInt (gi47_2753))) hR39 rfl rfl rfl rfl ?_
                  refine w_adv (n := 1) (F' := (77, [(0, .ref 43), (1, .long (e0)), (3, .int (Int32.ofInt (y2_3))), (4, .int (Int32.ofInt (y47_4)))], [.int (Int32.ofInt (1)), .int (Int32.ofInt (gi47_2753)), .ref 43], M38)) rfl ?_
                  refine w_add rfl ?_
                  refine w_pf hR39 rfl rfl rfl rfl (show w_in (gi47_2753 + 1) from ⟨by omega, by omega⟩) (fun h => absurd h (by decide)) (fun M40 hR41 => ?_)
                  replace hR41 : w_Rep w_TM fr X u l (w_up I 2753 (gi47_2753 + 1)) (w_upF (w_upF A 44 ga47_44) 44 (w_upA ga47_44 (gi47_2753) (w_nb (x35)))) B C M40 := w_Rep.up hR41 (show (w_up I 2753 (gi47_2753 + 1)) = _ from (funext fun s => if e0 : s = 2753 then (by subst e0; rfl) else (by simp only [w_up_ne e0]))) rfl
                  refine w_inc (nL := 5) (a := y47_4) rfl rfl rfl (by decide) ?_
                  refine w_adv (n := 1) (F' := (47, [(4, .int (Int32.ofInt (y47_4 + 1))), (0, .ref 43), (1, .long (e0)), (3, .int (Int32.ofInt (y2_3)))], [], M40)) rfl ?_
                  refine w_ls (ls := [(0, .ref 43), (1, .long (e0)), (3, .int (Int32.ofInt (y2_3))), (4, .int (Int32.ofInt (y47_4 + 1)))]) (show List.Nodup [0, 1, 3, 4] by decide) (show List.Nodup [4, 0, 1, 3] by decide) (List.forall_mem_cons.mpr ⟨(List.Mem.tail _ (List.Mem.head _)), (List.forall_mem_cons.mpr ⟨(List.Mem.tail _ (List.Mem.tail _ (List.Mem.head _))), (List.forall_mem_cons.mpr ⟨(List.Mem.tail _ (List.Mem.tail _ (List.Mem.tail _ (List.Mem.head _)))), (List.forall_mem_cons.mpr ⟨(List.Mem.head _), (fun _ h => by cases h)⟩)⟩)⟩)⟩) ?_
                  exact ih47  (y47_4 + 1) ((w_upA ga47_44 (gi47_2753) (w_nb (x35)))) (gi47_2753 + 1) M40 (w_Rep.up hR41 (show (w_up I 2753 (gi47_2753 + 1)) = (w_up I 2753 (gi47_2753 + 1)) from rfl) (show (w_upF A 44 (w_upA ga47_44 (gi47_2753) (w_nb (x35)))) = (w_upF (w_upF A 44 ga47_44) 44 (w_upA ga47_44 (gi47_2753) (w_nb (x35)))) from (funext fun s => if e0 : s = 44 then (by subst e0; rfl) else (by simp only [w_upF_ne e0])))) ⟨by omega, by omega⟩ (show 0 ≤ (y47_4 + 1) ∧ (y47_4 + 1) ≤ y2_3 ∧ gi47_2753 + 1 = (I 2753) + (y47_4 + 1) by omega) (show y2_3 - (y47_4 + 1) < (fu47 : Int) by omega)
            refine w_ls (ls := [(0, .ref 43), (1, .long (e0)), (3, .int (Int32.ofInt (y2_3))), (4, .int (Int32.ofInt (0)))]) (show List.Nodup [0, 1, 3, 4] by decide) (show List.Nodup [4, 0, 1, 3] by decide) (List.forall_mem_cons.mpr ⟨(List.Mem.tail _ (List.Mem.head _)), (List.forall_mem_cons.mpr ⟨(List.Mem.tail _ (List.Mem.tail _ (List.Mem.head _))), (List.forall_mem_cons.mpr ⟨(List.Mem.tail _ (List.Mem.tail _ (List.Mem.tail _ (List.Mem.head _)))), (List.forall_mem_cons.mpr ⟨(List.Mem.head _), (fun _ h => by cases h)⟩)⟩)⟩)⟩) ?_
            exact lp47 ((y2_3 - 0 : Int).toNat + 1)  (0) ((A 44)) ((I 2753)) M (w_Rep.up hR (show (w_up I 2753 ((I 2753))) = I from (funext fun s => if e0 : s = 2753 then (by subst e0; rfl) else (by simp only [w_up_ne e0]))) (show (w_upF A 44 (A 44)) = A from (funext fun s => if e0 : s = 44 then (by subst e0; rfl) else (by simp only [w_upF_ne e0])))) ⟨by omega, by omega⟩ (show 0 ≤ (0 : Int) ∧ (0 : Int) ≤ y2_3 ∧ (I 2753) = (I 2753) + (0 : Int) by omega) (show y2_3 - 0 < (((y2_3 - 0 : Int).toNat + 1 : Nat) : Int) by omega)
          · have h26 : ¬ ((I 2753) + y2_3 ≤ 8192) := h26
            show w_W _ _ _ (41, [(0, .ref 43), (1, .long (e0)), (3, .int (Int32.ofInt (y2_3)))], [], M) _
            refine w_adv (n := 1) (F' := (43, [(0, .ref 43), (1, .long (e0)), (3, .int (Int32.ofInt (y2_3)))], [.int (Int32.ofInt ((-2)))], M)) rfl ?_
            refine w_fin (r := .inl (some ((-2)))) (M' := M) rfl ?_
            first
              | exact Or.inl ⟨y2_3, rfl, rfl, (show c_nbp e0 y2_3 ∧ 8192 < (I 2753) + y2_3 by exact ⟨znf, by omega⟩)⟩
              | exact Or.inr (⟨(-2), (A 44), (I 2753), y2_3, rfl, ⟨by omega, by omega⟩, (w_Rep.up hR (show (w_up I 2753 ((I 2753))) = I from (funext fun s => if e0 : s = 2753 then (by subst e0; rfl) else (by simp only [w_up_ne e0]))) (show (w_upF A 44 (A 44)) = A from (funext fun s => if e0 : s = 44 then (by subst e0; rfl) else (by simp only [w_upF_ne e0])))), (show c_nbp e0 y2_3 ∧ (I 2753) = (-2) ∧ (-2) = (I 2753) + y2_3 ∧ (-2) ≤ 8192 by exact ⟨znf, by omega, by omega, by omega⟩)⟩)
        · have h23 : ¬ (x20 = 0) := h23
          show w_W _ _ _ (23, [(0, .ref 43), (1, .long (e0)), (3, .int (Int32.ofInt (y2_3)))], [], M) _
          refine w_inc (nL := 5) (a := y2_3) rfl rfl rfl (by decide) ?_
          refine w_adv (n := 1) (F' := (2, [(3, .int (Int32.ofInt (y2_3 + 1))), (0, .ref 43), (1, .long (e0))], [], M)) rfl ?_
          refine w_ls (ls := [(0, .ref 43), (1, .long (e0)), (3, .int (Int32.ofInt (y2_3 + 1)))]) (show List.Nodup [0, 1, 3] by decide) (show List.Nodup [3, 0, 1] by decide) (List.forall_mem_cons.mpr ⟨(List.Mem.tail _ (List.Mem.head _)), (List.forall_mem_cons.mpr ⟨(List.Mem.tail _ (List.Mem.tail _ (List.Mem.head _))), (List.forall_mem_cons.mpr ⟨(List.Mem.head _), (fun _ h => by cases h)⟩)⟩)⟩) ?_
          exact ih2  (y2_3 + 1) ⟨by omega, by omega⟩ (show 0 ≤ (y2_3 + 1) ∧ (y2_3 + 1) ≤ 8 by omega) (show ∀ j, 0 ≤ j → j < (y2_3 + 1) → c_by e0 j ≠ 0 by exact c_nb_step hi2_1 (show Int32.ofInt x20 = c_by e0 _ from e22) (by omega) ⟨by omega, by omega⟩) (show 8 - (y2_3 + 1) < (fu2 : Int) by omega)
  refine w_ls (ls := [(0, .ref 43), (1, .long (e0)), (3, .int (Int32.ofInt (0)))]) (show List.Nodup [0, 1, 3] by decide) (show List.Nodup [3, 0, 1] by decide) (List.forall_mem_cons.mpr ⟨(List.Mem.tail _ (List.Mem.head _)), (List.forall_mem_cons.mpr ⟨(List.Mem.tail _ (List.Mem.tail _ (List.Mem.head _))), (List.forall_mem_cons.mpr ⟨(List.Mem.head _), (fun _ h => by cases h)⟩)⟩)⟩) ?_
  exact lp2 ((8 - 0 : Int).toNat + 1)  (0) ⟨by omega, by omega⟩ (show 0 ≤ (0 : Int) ∧ (0 : Int) ≤ 8 by omega) (show ∀ j, 0 ≤ j → j < (0 : Int) → c_by e0 j ≠ 0 by intro j h1 h2; omega) (show 8 - 0 < (((8 - 0 : Int).toNat + 1 : Nat) : Int) by omega)
