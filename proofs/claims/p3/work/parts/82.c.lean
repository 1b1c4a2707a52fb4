/-! TREE, SCOPE, KERNEL of the class: loops. -/
def c_Tree_has_Q (fr : Nat → Bool) (X : Nat → Option (q_C (Nat → Int32))) (u l : Nat) (I : Nat → Int) (A : Nat → Int → Int) (B C : Nat → Nat) (M : w_M) (f : Int) (g : Int) : w_X → w_M → Prop := fun r M' => ((r = .inl (some 1)) ∧ (M' = M)) ∨ ((r = .inl (some 0)) ∧ (M' = M))
set_option maxHeartbeats 100000000 in
set_option maxRecDepth 100000 in
theorem c_Tree_has {L : Nat} {xs : Nat → Int32} {d : Nat} {fr : Nat → Bool} {X : Nat → Option (q_C (Nat → Int32))} {u l : Nat} {I : Nat → Int} {A : Nat → Int → Int} {B C : Nat → Nat} {M : w_M} (f : Int) (g : Int) (hR : w_Rep w_TC fr X u l I A B C M) (hd : 1 ≤ d) (r_f : w_in f) (r_g : w_in g) : w_W (z_P L xs) d 104 (0, [(0, .ref 26), (1, .int (Int32.ofInt (f))), (2, .int (Int32.ofInt (g)))], [], M) (c_Tree_has_Q fr X u l I A B C M f g) := by
  obtain ⟨ra_f, rb_f⟩ := r_f
  obtain ⟨ra_g, rb_g⟩ := r_g
  obtain ⟨d, rfl⟩ : ∃ d0, d = d0 + 1 := ⟨d - 1, by omega⟩
  refine w_adv (n := 4) (F' := (5, [(4, .int (Int32.ofInt (0))), (3, .int (Int32.ofInt (f))), (0, .ref 26), (1, .int (Int32.ofInt (f))), (2, .int (Int32.ofInt (g)))], [], M)) rfl ?_
  have lp5 : ∀ fu5 : Nat, ∀ (y5_3 : Int) (y5_4 : Int), w_in y5_3 → w_in y5_4 → 0 ≤ y5_4 ∧ y5_4 ≤ 3016 → 3016 - y5_4 < (fu5 : Int) → w_W (z_P L xs) (d + 1) 104 (5, [(0, .ref 26), (1, .int (Int32.ofInt (f))), (2, .int (Int32.ofInt (g))), (3, .int (Int32.ofInt (y5_3))), (4, .int (Int32.ofInt (y5_4)))], [], M) (c_Tree_has_Q fr X u l I A B C M f g) := by
    intro fu5
    induction fu5 with
    | zero =>
      intro y5_3 y5_4 ⟨ra_y5_3, rb_y5_3⟩ ⟨ra_y5_4, rb_y5_4⟩ hi5_0 hn5
      exfalso
      omega
    | succ fu5 ih5 =>
      intro y5_3 y5_4 ⟨ra_y5_3, rb_y5_3⟩ ⟨ra_y5_4, rb_y5_4⟩ hi5_0 hn5
      refine w_adv (n := 2) (F' := (10, [(0, .ref 26), (1, .int (Int32.ofInt (f))), (2, .int (Int32.ofInt (g))), (3, .int (Int32.ofInt (y5_3))), (4, .int (Int32.ofInt (y5_4)))], [.int (Int32.ofInt (3016)), .int (Int32.ofInt (y5_4))], M)) rfl ?_
      refine w_br2 (a := y5_4) (b := 3016) rfl rfl ⟨by omega, by omega⟩ ⟨by omega, by omega⟩ (fun h1 => ?_) (fun h1 => ?_)
      · have h1 : y5_4 ≥ 3016 := h1
        show w_W _ _ _ (47, [(0, .ref 26), (1, .int (Int32.ofInt (f))), (2, .int (Int32.ofInt (g))), (3, .int (Int32.ofInt (y5_3))), (4, .int (Int32.ofInt (y5_4)))], [], M) _
        refine w_adv (n := 1) (F' := (48, [(0, .ref 26), (1, .int (Int32.ofInt (f))), (2, .int (Int32.ofInt (g))), (3, .int (Int32.ofInt (y5_3))), (4, .int (Int32.ofInt (y5_4)))], [.int (Int32.ofInt (0))], M)) rfl ?_
        refine w_fin (r := .inl (some (0))) (M' := M) rfl ?_
        exact Or.inr (⟨rfl, rfl⟩)
      · have h1 : ¬ (y5_4 ≥ 3016) := h1
        show w_W _ _ _ (13, [(0, .ref 26), (1, .int (Int32.ofInt (f))), (2, .int (Int32.ofInt (g))), (3, .int (Int32.ofInt (y5_3))), (4, .int (Int32.ofInt (y5_4)))], [], M) _
        refine w_adv (n := 2) (F' := (15, [(0, .ref 26), (1, .int (Int32.ofInt (f))), (2, .int (Int32.ofInt (g))), (3, .int (Int32.ofInt (y5_3))), (4, .int (Int32.ofInt (y5_4)))], [.int (Int32.ofInt ((-1))), .int (Int32.ofInt (y5_3))], M)) rfl ?_
        refine w_br2 (a := y5_3) (b := (-1)) rfl rfl ⟨by omega, by omega⟩ ⟨by omega, by omega⟩ (fun h2 => ?_) (fun h2 => ?_)
        · have h2 : y5_3 = (-1) := h2
          show w_W _ _ _ (47, [(0, .ref 26), (1, .int (Int32.ofInt (f))), (2, .int (Int32.ofInt (g))), (3, .int (Int32.ofInt (y5_3))), (4, .int (Int32.ofInt (y5_4)))], [], M) _
          refine w_adv (n := 1) (F' := (48, [(0, .ref 26), (1, .int (Int32.ofInt (f))), (2, .int (Int32.ofInt (g))), (3, .int (Int32.ofInt (y5_3))), (4, .int (Int32.ofInt (y5_4)))], [.int (Int32.ofInt (0))], M)) rfl ?_
          refine w_fin (r := .inl (some (0))) (M' := M) rfl ?_
          exact Or.inr (⟨rfl, rfl⟩)
        · have h2 : ¬ (y5_3 = (-1)) := h2
          show w_W _ _ _ (18, [(0, .ref 26), (1, .int (Int32.ofInt (f))), (2, .int (Int32.ofInt (g))), (3, .int (Int32.ofInt (y5_3))), (4, .int (Int32.ofInt (y5_4)))], [], M) _
          refine w_adv (n := 1) (F' := (19, [(0, .ref 26), (1, .int (Int32.ofInt (f))), (2, .int (Int32.ofInt (g))), (3, .int (Int32.ofInt (y5_3))), (4, .int (Int32.ofInt (y5_4)))], [.ref 26], M)) rfl ?_
          refine w_gf (v := .ref 28) hR rfl rfl rfl rfl ?_
          refine w_adv (n := 1) (F' := (23, [(0, .ref 26), (1, .int (Int32.ofInt (f))), (2, .int (Int32.ofInt (g))), (3, .int (Int32.ofInt (y5_3))), (4, .int (Int32.ofInt (y5_4)))], [.int (Int32.ofInt (y5_3)), .ref 28], M)) rfl ?_
          refine w_call (cm := 21) (as := [(0, .ref 28), (1, .int (Int32.ofInt (y5_3)))]) (rest := []) (o := none) rfl (trivial) (c_at (y5_3) 28 3016 rfl (by decide) hR ⟨by omega, by omega⟩) (fun r3 M4 q5 => ?_)
          rcases q5 with ⟨v6, e7, ⟨r8, r9⟩, e10, f11⟩
          rw [e7, e10]
          replace f11 : ((0 ≤ y5_3 ∧ y5_3 < (3016 : Int) ∧ v6 = (A 28) (y5_3)) ∨ (¬ (0 ≤ y5_3 ∧ y5_3 < (3016 : Int)) ∧ v6 = -1)) := f11
          show w_W _ _ _ (26, [(0, .ref 26), (1, .int (Int32.ofInt (f))), (2, .int (Int32.ofInt (g))), (3, .int (Int32.ofInt (y5_3))), (4, .int (Int32.ofInt (y5_4)))], [.int (Int32.ofInt (v6))], M) _
          refine w_adv (n := 1) (F' := (27, [(0, .ref 26), (1, .int (Int32.ofInt (f))), (2, .int (Int32.ofInt (g))), (3, .int (Int32.ofInt (y5_3))), (4, .int (Int32.ofInt (y5_4)))], [.int (Int32.ofInt (g)), .int (Int32.ofInt (v6))], M)) rfl ?_
          refine w_br2 (a := v6) (b := g) rfl rfl ⟨by omega, by omega⟩ ⟨by omega, by omega⟩ (fun h12 => ?_) (fun h12 => ?_)
          · have h12 : ¬ v6 = g := h12
            show w_W _ _ _ (32, [(0, .ref 26), (1, .int (Int32.ofInt (f))), (2, .int (Int32.ofInt (g))), (3, .int (Int32.ofInt (y5_3))), (4, .int (Int32.ofInt (y5_4)))], [], M) _
            refine w_adv (n := 1) (F' := (33, [(0, .ref 26), (1, .int (Int32.ofInt (f))), (2, .int (Int32.ofInt (g))), (3, .int (Int32.ofInt (y5_3))), (4, .int (Int32.ofInt (y5_4)))], [.ref 26], M)) rfl ?_
            refine w_gf (v := .ref 31) hR rfl rfl rfl rfl ?_
            refine w_adv (n := 1) (F' := (37, [(0, .ref 26), (1, .int (Int32.ofInt (f))), (2, .int (Int32.ofInt (g))), (3, .int (Int32.ofInt (y5_3))), (4, .int (Int32.ofInt (y5_4)))], [.int (Int32.ofInt (y5_3)), .ref 31], M)) rfl ?_
            refine w_call (cm := 21) (as := [(0, .ref 31), (1, .int (Int32.ofInt (y5_3)))]) (rest := []) (o := none) rfl (trivial) (c_at (y5_3) 31 3016 rfl (by decide) hR ⟨by omega, by omega⟩) (fun r13 M14 q15 => ?_)
            rcases q15 with ⟨v16, e17, ⟨r18, r19⟩, e20, f21⟩
            rw [e17, e20]
            replace f21 : ((0 ≤ y5_3 ∧ y5_3 < (3016 : Int) ∧ v16 = (A 31) (y5_3)) ∨ (¬ (0 ≤ y5_3 ∧ y5_3 < (3016 : Int)) ∧ v16 = -1)) := f21
            show w_W _ _ _ (40, [(0, .ref 26), (1, .int (Int32.ofInt (f))), (2, .int (Int32.ofInt (g))), (3, .int (Int32.ofInt (y5_3))), (4, .int (Int32.ofInt (y5_4)))], [.int (Int32.ofInt (v16))], M) _
            refine w_adv (n := 1) (F' := (41, [(3, .int (Int32.ofInt (v16))), (0, .ref 26), (1, .int (Int32.ofInt (f))), (2, .int (Int32.ofInt (g))), (4, .int (Int32.ofInt (y5_4)))], [], M)) rfl ?_
            refine w_inc (nL := 5) (a := y5_4) rfl rfl rfl (by decide) ?_
            refine w_adv (n := 1) (F' := (5, [(4, .int (Int32.ofInt (y5_4 + 1))), (3, .int (Int32.ofInt (v16))), (0, .ref 26), (1, .int (Int32.ofInt (f))), (2, .int (Int32.ofInt (g)))], [], M)) rfl ?_
            refine w_ls (ls := [(0, .ref 26), (1, .int (Int32.ofInt (f))), (2, .int (Int32.ofInt (g))), (3, .int (Int32.ofInt (v16))), (4, .int (Int32.ofInt (y5_4 + 1)))]) (show List.Nodup [0, 1, 2, 3, 4] by decide) (show List.Nodup [4, 3, 0, 1, 2] by decide) (List.forall_mem_cons.mpr ⟨(List.Mem.tail _ (List.Mem.tail _ (List.Mem.head _))), (List.forall_mem_cons.mpr ⟨(List.Mem.tail _ (List.Mem.tail _ (List.Mem.tail _ (List.Mem.head _)))), (List.forall_mem_cons.mpr ⟨(List.Mem.tail _ (List.Mem.tail _ (List.Mem.tail _ (List.Mem.tail _ (List.Mem.head _))))), (List.forall_mem_cons.mpr ⟨(List.Mem.tail _ (List.Mem.head _)), (List.forall_mem_cons.mpr ⟨(List.Mem.head _), (fun _ h => by cases h)⟩)⟩)⟩)⟩)⟩) ?_
            exact ih5  (v16) (y5_4 + 1) ⟨by omega, by omega⟩ ⟨by omega, by omega⟩ (show 0 ≤ (y5_4 + 1) ∧ (y5_4 + 1) ≤ 3016 by omega) (show 3016 - (y5_4 + 1) < (fu5 : Int) by omega)
          · have h12 : ¬ (¬ v6 = g) := h12
            show w_W _ _ _ (30, [(0, .ref 26), (1, .int (Int32.ofInt (f))), (2, .int (Int32.ofInt (g))), (3, .int (Int32.ofInt (y5_3))), (4, .int (Int32.ofInt (y5_4)))], [], M) _
            refine w_adv (n := 1) (F' := (31, [(0, .ref 26), (1, .int (Int32.ofInt (f))), (2, .int (Int32.ofInt (g))), (3, .int (Int32.ofInt (y5_3))), (4, .int (Int32.ofInt (y5_4)))], [.int (Int32.ofInt (1))], M)) rfl ?_
            refine w_fin (r := .inl (some (1))) (M' := M) rfl ?_
            exact Or.inl ⟨rfl, rfl⟩
  refine w_ls (ls := [(0, .ref 26), (1, .int (Int32.ofInt (f))), (2, .int (Int32.ofInt (g))), (3, .int (Int32.ofInt (f))), (4, .int (Int32.ofInt (0)))]) (show List.Nodup [0, 1, 2, 3, 4] by decide) (show List.Nodup [4, 3, 0, 1, 2] by decide) (List.forall_mem_cons.mpr ⟨(List.Mem.tail _ (List.Mem.tail _ (List.Mem.head _))), (List.forall_mem_cons.mpr ⟨(List.Mem.tail _ (List.Mem.tail _ (List.Mem.tail _ (List.Mem.head _)))), (List.forall_mem_cons.mpr ⟨(List.Mem.tail _ (List.Mem.tail _ (List.Mem.tail _ (List.Mem.tail _ (List.Mem.head _))))), (List.forall_mem_cons.mpr ⟨(List.Mem.tail _ (List.Mem.head _)), (List.forall_mem_cons.mpr ⟨(List.Mem.head _), (fun _ h => by cases h)⟩)⟩)⟩)⟩)⟩) ?_
  exact lp5 ((3016 - 0 : Int).toNat + 1)  (f) (0) ⟨by omega, by omega⟩ ⟨by omega, by omega⟩ (show 0 ≤ (0 : Int) ∧ (0 : Int) ≤ 3016 by omega) (show 3016 - 0 < (((3016 - 0 : Int).toNat + 1 : Nat) : Int) by omega)
def c_fill_Q (fr : Nat → Bool) (X : Nat → Option (q_C (Nat → Int32))) (u l : Nat) (I : Nat → Int) (A : Nat → Int → Int) (B C : Nat → Nat) (M : w_M) (v : Int) : w_X → w_M → Prop := fun r M' => (∃ gf : Int → Int, (r = .inl none) ∧ (w_Rep w_TC fr X u l I (w_upF A 37 gf) B C M'))
set_option maxHeartbeats 100000000 in
set_option maxRecDepth 100000 in
theorem c_fill {L : Nat} {xs : Nat → Int32} {d : Nat} {fr : Nat → Bool} {X : Nat → Option (q_C (Nat → Int32))} {u l : Nat} {I : Nat → Int} {A : Nat → Int → Int} {B C : Nat → Nat} {M : w_M} (v : Int) (hR : w_Rep w_TC fr X u l I A B C M) (r_v : w_in v) : w_W (z_P L xs) d 5 (0, [(0, .ref 37), (1, .int (Int32.ofInt (v)))], [], M) (c_fill_Q fr X u l I A B C M v) := by
  obtain ⟨ra_v, rb_v⟩ := r_v
  refine w_adv (n := 3) (F' := (3, [(2, .int (Int32.ofInt (0))), (0, .ref 37), (1, .int (Int32.ofInt (v)))], [.ref 37], M)) rfl ?_
  refine w_lena (n := 420) hR rfl rfl rfl ?_
  show w_W _ _ _ (4, [(2, .int (Int32.ofInt (0))), (0, .ref 37), (1, .int (Int32.ofInt (v)))], [.int (Int32.ofInt (420))], M) _
  refine w_adv (n := 1) (F' := (5, [(3, .int (Int32.ofInt (420))), (2, .int (Int32.ofInt (0))), (0, .ref 37), (1, .int (Int32.ofInt (v)))], [], M)) rfl ?_
  have lp5 : ∀ fu5 : Nat, ∀ (y5_2 : Int) (ga5_37 : Int → Int) (M_5 : w_M) (hR_5 : w_Rep w_TC fr X u l I (w_upF A 37 ga5_37) B C M_5), w_in y5_2 → 0 ≤ y5_2 ∧ y5_2 ≤ 420 → 420 - y5_2 < (fu5 : Int) → w_W (z_P L xs) d 5 (5, [(0, .ref 37), (1, .int (Int32.ofInt (v))), (2, .int (Int32.ofInt (y5_2))), (3, .int (Int32.ofInt (420)))], [], M_5) (c_fill_Q fr X u l I A B C M v) := by
    intro fu5
    induction fu5 with
    | zero =>
      intro y5_2 ga5_37 M_5 hR_5 ⟨ra_y5_2, rb_y5_2⟩ hi5_0 hn5
      exfalso
      omega
    | succ fu5 ih5 =>
      intro y5_2 ga5_37 M_5 hR_5 ⟨ra_y5_2, rb_y5_2⟩ hi5_0 hn5
      refine w_adv (n := 2) (F' := (7, [(0, .ref 37), (1, .int (Int32.ofInt (v))), (2, .int (Int32.ofInt (y5_2))), (3, .int (Int32.ofInt (420)))], [.int (Int32.ofInt (420)), .int (Int32.ofInt (y5_2))], M_5)) rfl ?_
      refine w_br2 (a := y5_2) (b := 420) rfl rfl ⟨by omega, by omega⟩ ⟨by omega, by omega⟩ (fun h1 => ?_) (fun h1 => ?_)
      · have h1 : y5_2 ≥ 420 := h1
        show w_W _ _ _ (20, [(0, .ref 37), (1, .int (Int32.ofInt (v))), (2, .int (Int32.ofInt (y5_2))), (3, .int (Int32.ofInt (420)))], [], M_5) _
        refine w_fin (r := .inl none) (M' := M_5) rfl ?_
        exact ⟨ga5_37, rfl, hR_5⟩
      · have h1 : ¬ (y5_2 ≥ 420) := h1
        show w_W _ _ _ (10, [(0, .ref 37), (1, .int (Int32.ofInt (v))), (2, .int (Int32.ofInt (y5_2))), (3, .int (Int32.ofInt (420)))], [], M_5) _
        refine w_adv (n := 3) (F' := (13, [(0, .ref 37), (1, .int (Int32.ofInt (v))), (2, .int (Int32.ofInt (y5_2))), (3, .int (Int32.ofInt (420)))], [.int (Int32.ofInt (v)), .int (Int32.ofInt (y5_2)), .ref 37], M_5)) rfl ?_
        refine w_sai (n := 420) hR_5 rfl rfl (show 0 ≤ y5_2 by omega) (show y5_2 < (420 : Int) by omega) (by decide) (show w_in (v) from ⟨by omega, by omega⟩) (fun M2 hR3 => ?_)
        replace hR3 : w_Rep w_TC fr X u l I (w_upF (w_upF A 37 ga5_37) 37 (w_upA ga5_37 (y5_2) (v))) B C M2 := hR3
        refine w_inc (nL := 4) (a := y5_2) rfl rfl rfl (by decide) ?_
        refine w_adv (n := 1) (F' := (5, [(2, .int (Int32.ofInt (y5_2 + 1))), (0, .ref 37), (1, .int (Int32.ofInt (v))), (3, .int (Int32.ofInt (420)))], [], M2)) rfl ?_
        refine w_ls (ls := [(0, .ref 37), (1, .int (Int32.ofInt (v))), (2, .int (Int32.ofInt (y5_2 + 1))), (3, .int (Int32.ofInt (420)))]) (show List.Nodup [0, 1, 2, 3] by decide) (show List.Nodup [2, 0, 1, 3] by decide) (List.forall_mem_cons.mpr ⟨(List.Mem.tail _ (List.Mem.head _)), (List.forall_mem_cons.mpr ⟨(List.Mem.tail _ (List.Mem.tail _ (List.Mem.head _))), (List.forall_mem_cons.mpr ⟨(List.Mem.head _), (List.forall_mem_cons.mpr ⟨(List.Mem.tail _ (List.Mem.tail _ (List.Mem.tail _ (List.Mem.head _)))), (fun _ h => by cases h)⟩)⟩)⟩)⟩) ?_
        exact ih5  (y5_2 + 1) ((w_upA ga5_37 (y5_2) (v))) M2 (w_Rep.up hR3 (show I = I from rfl) (show (w_upF A 37 (w_upA ga5_37 (y5_2) (v))) = (w_upF (w_upF A 37 ga5_37) 37 (w_upA ga5_37 (y5_2) (v))) from (funext fun s => if e0 : s = 37 then (by subst e0; rfl) else (by simp only [w_upF_ne e0])))) ⟨by omega, by omega⟩ (show 0 ≤ (y5_2 + 1) ∧ (y5_2 + 1) ≤ 420 by omega) (show 420 - (y5_2 + 1) < (fu5 : Int) by omega)
  refine w_ls (ls := [(0, .ref 37), (1, .int (Int32.ofInt (v))), (2, .int (Int32.ofInt (0))), (3, .int (Int32.ofInt (420)))]) (show List.Nodup [0, 1, 2, 3] by decide) (show List.Nodup [3, 2, 0, 1] by decide) (List.forall_mem_cons.mpr ⟨(List.Mem.tail _ (List.Mem.tail _ (List.Mem.head _))), (List.forall_mem_cons.mpr ⟨(List.Mem.tail _ (List.Mem.tail _ (List.Mem.tail _ (List.Mem.head _)))), (List.forall_mem_cons.mpr ⟨(List.Mem.tail _ (List.Mem.head _)), (List.forall_mem_cons.mpr ⟨(List.Mem.head _), (fun _ h => by cases h)⟩)⟩)⟩)⟩) ?_
  exact lp5 ((420 - 0 : Int).toNat + 1)  (0) ((A 37)) M (w_Rep.up hR (show I = I from rfl) (show (w_upF A 37 (A 37)) = A from (funext fun s => if e0 : s = 37 then (by subst e0; rfl) else (by simp only [w_upF_ne e0])))) ⟨by omega, by omega⟩ (show 0 ≤ (0 : Int) ∧ (0 : Int) ≤ 420 by omega) (show 420 - 0 < (((420 - 0 : Int).toNat + 1 : Nat) : Int) by omega)
def c_Scope_leave_Q (fr : Nat → Bool) (X : Nat → Option (q_C (Nat → Int32))) (u l : Nat) (I : Nat → Int) (A : Nat → Int → Int) (B C : Nat → Nat) (M : w_M) (f : Int) (g : Int) : w_X → w_M → Prop := fun r M' => (∃ gf : Int → Int, (r = .inl none) ∧ (w_Rep w_TC fr X u l I (w_upF A 37 gf) B C M'))
set_option maxHeartbeats 100000000 in
set_option maxRecDepth 100000 in
theorem c_Scope_leave {L : Nat} {xs : Nat → Int32} {d : Nat} {fr : Nat → Bool} {X : Nat → Option (q_C (Nat → Int32))} {u l : Nat} {I : Nat → Int} {A : Nat → Int → Int} {B C : Nat → Nat} {M : w_M} (f : Int) (g : Int) (hR : w_Rep w_TC fr X u l I A B C M) (hd : 1 ≤ d) (r_f : w_in f) (r_g : w_in g) (hfg : -5 ≤ f ∧ -5 ≤ g) : w_W (z_P L xs) d 121 (0, [(0, .ref 33), (1, .int (Int32.ofInt (f))), (2, .int (Int32.ofInt (g)))], [], M) (c_Scope_leave_Q fr X u l I A B C M f g) := by
  obtain ⟨ra_f, rb_f⟩ := r_f
  obtain ⟨ra_g, rb_g⟩ := r_g
  obtain ⟨d, rfl⟩ : ∃ d0, d = d0 + 1 := ⟨d - 1, by omega⟩
  refine w_adv (n := 2) (F' := (2, [(0, .ref 33), (1, .int (Int32.ofInt (f))), (2, .int (Int32.ofInt (g)))], [.int (Int32.ofInt (1)), .int (Int32.ofInt (g))], M)) rfl ?_
  refine w_sub rfl ?_
  refine w_adv (n := 1) (F' := (4, [(3, .int (Int32.ofInt (g - 1))), (0, .ref 33), (1, .int (Int32.ofInt (f))), (2, .int (Int32.ofInt (g)))], [], M)) rfl ?_
  have lp4 : ∀ fu4 : Nat, ∀ (y4_3 : Int) (ga4_37 : Int → Int) (M_4 : w_M) (hR_4 : w_Rep w_TC fr X u l I (w_upF A 37 ga4_37) B C M_4), w_in y4_3 → -7 ≤ y4_3 → y4_3 + 7 < (fu4 : Int) → w_W (z_P L xs) (d + 1) 121 (4, [(0, .ref 33), (1, .int (Int32.ofInt (f))), (2, .int (Int32.ofInt (g))), (3, .int (Int32.ofInt (y4_3)))], [], M_4) (c_Scope_leave_Q fr X u l I A B C M f g) := by
    intro fu4
    induction fu4 with
    | zero =>
      intro y4_3 ga4_37 M_4 hR_4 ⟨ra_y4_3, rb_y4_3⟩ hi4_0 hn4
      exfalso
      omega
    | succ fu4 ih4 =>
      intro y4_3 ga4_37 M_4 hR_4 ⟨ra_y4_3, rb_y4_3⟩ hi4_0 hn4
      refine w_adv (n := 2) (F' := (6, [(0, .ref 33), (1, .int (Int32.ofInt (f))), (2, .int (Int32.ofInt (g))), (3, .int (Int32.ofInt (y4_3)))], [.int (Int32.ofInt (f)), .int (Int32.ofInt (y4_3))], M_4)) rfl ?_
      refine w_br2 (a := y4_3) (b := f) rfl rfl ⟨by omega, by omega⟩ ⟨by omega, by omega⟩ (fun h1 => ?_) (fun h1 => ?_)
      · have h1 : y4_3 < f := h1
        show w_W _ _ _ (38, [(0, .ref 33), (1, .int (Int32.ofInt (f))), (2, .int (Int32.ofInt (g))), (3, .int (Int32.ofInt (y4_3)))], [], M_4) _
        refine w_fin (r := .inl none) (M' := M_4) rfl ?_
        exact ⟨ga4_37, rfl, hR_4⟩
      · have h1 : ¬ (y4_3 < f) := h1
        show w_W _ _ _ (9, [(0, .ref 33), (1, .int (Int32.ofInt (f))), (2, .int (Int32.ofInt (g))), (3, .int (Int32.ofInt (y4_3)))], [], M_4) _
        refine w_adv (n := 1) (F' := (10, [(0, .ref 33), (1, .int (Int32.ofInt (f))), (2, .int (Int32.ofInt (g))), (3, .int (Int32.ofInt (y4_3)))], [.ref 33], M_4)) rfl ?_
        refine w_gf (v := .ref 37) hR_4 rfl rfl rfl rfl ?_
        refine w_adv (n := 1) (F' := (14, [(0, .ref 33), (1, .int (Int32.ofInt (f))), (2, .int (Int32.ofInt (g))), (3, .int (Int32.ofInt (y4_3)))], [.ref 33, .ref 37], M_4)) rfl ?_
        refine w_gf (v := .ref 34) hR_4 rfl rfl rfl rfl ?_
        refine w_adv (n := 1) (F' := (18, [(0, .ref 33), (1, .int (Int32.ofInt (f))), (2, .int (Int32.ofInt (g))), (3, .int (Int32.ofInt (y4_3)))], [.int (Int32.ofInt (y4_3)), .ref 34, .ref 37], M_4)) rfl ?_
        refine w_call (cm := 21) (as := [(0, .ref 34), (1, .int (Int32.ofInt (y4_3)))]) (rest := [.ref 37]) (o := none) rfl (trivial) (c_at (y4_3) 34 1508 rfl (by decide) hR_4 ⟨by omega, by omega⟩) (fun r2 M3 q4 => ?_)
        rcases q4 with ⟨v5, e6, ⟨r7, r8⟩, e9, f10⟩
        rw [e6, e9]
        replace f10 : ((0 ≤ y4_3 ∧ y4_3 < (1508 : Int) ∧ v5 = (A 34) (y4_3)) ∨ (¬ (0 ≤ y4_3 ∧ y4_3 < (1508 : Int)) ∧ v5 = -1)) := f10
        show w_W _ _ _ (21, [(0, .ref 33), (1, .int (Int32.ofInt (f))), (2, .int (Int32.ofInt (g))), (3, .int (Int32.ofInt (y4_3)))], [.int (Int32.ofInt (v5)), .ref 37], M_4) _
        refine w_adv (n := 1) (F' := (22, [(0, .ref 33), (1, .int (Int32.ofInt (f))), (2, .int (Int32.ofInt (g))), (3, .int (Int32.ofInt (y4_3)))], [.ref 33, .int (Int32.ofInt (v5)), .ref 37], M_4)) rfl ?_
        refine w_gf (v := .ref 35) hR_4 rfl rfl rfl rfl ?_
        refine w_adv (n := 1) (F' := (26, [(0, .ref 33), (1, .int (Int32.ofInt (f))), (2, .int (Int32.ofInt (g))), (3, .int (Int32.ofInt (y4_3)))], [.int (Int32.ofInt (y4_3)), .ref 35, .int (Int32.ofInt (v5)), .ref 37], M_4)) rfl ?_
        refine w_call (cm := 21) (as := [(0, .ref 35), (1, .int (Int32.ofInt (y4_3)))]) (rest := [.int (Int32.ofInt (v5)), .ref 37]) (o := none) rfl (trivial) (c_at (y4_3) 35 1508 rfl (by decide) hR_4 ⟨by omega, by omega⟩) (fun r11 M12 q13 => ?_)
        rcases q13 with ⟨v14, e15, ⟨r16, r17⟩, e18, f19⟩
        rw [e15, e18]
        replace f19 : ((0 ≤ y4_3 ∧ y4_3 < (1508 : Int) ∧ v14 = (A 35) (y4_3)) ∨ (¬ (0 ≤ y4_3 ∧ y4_3 < (1508 : Int)) ∧ v14 = -1)) := f19
        show w_W _ _ _ (29, [(0, .ref 33), (1, .int (Int32.ofInt (f))), (2, .int (Int32.ofInt (g))), (3, .int (Int32.ofInt (y4_3)))], [.int (Int32.ofInt (v14)), .int (Int32.ofInt (v5)), .ref 37], M_4) _
        refine w_call (cm := 25) (as := [(0, .ref 37), (1, .int (Int32.ofInt (v5))), (2, .int (Int32.ofInt (v14)))]) (rest := []) (o := none) rfl (trivial) (c_set (v5) (v14) 37 420 rfl (by decide) hR_4 ⟨by omega, by omega⟩ ⟨by omega, by omega⟩) (fun r20 M21 q22 => ?_)
        rcases q22 with ⟨e23, hR22a⟩
        rw [e23]
        replace hR22a : w_Rep w_TC fr X u l I (w_upF (w_upF A 37 ga4_37) 37 (w_upG 420 ga4_37 (v5) (v14))) B C M21 := hR22a
        show w_W _ _ _ (32, [(0, .ref 33), (1, .int (Int32.ofInt (f))), (2, .int (Int32.ofInt (g))), (3, .int (Int32.ofInt (y4_3)))], [], M21) _
        refine w_inc (nL := 4) (a := y4_3) rfl rfl rfl (by decide) ?_
        refine w_adv (n := 1) (F' := (4, [(3, .int (Int32.ofInt (y4_3 + (-1)))), (0, .ref 33), (1, .int (Int32.ofInt (f))), (2, .int (Int32.ofInt (g)))], [], M21)) rfl ?_
        refine w_ls (ls := [(0, .ref 33), (1, .int (Int32.ofInt (f))), (2, .int (Int32.ofInt (g))), (3, .int (Int32.ofInt (y4_3 + (-1))))]) (show List.Nodup [0, 1, 2, 3] by decide) (show List.Nodup [3, 0, 1, 2] by decide) (List.forall_mem_cons.mpr ⟨(List.Mem.tail _ (List.Mem.head _)), (List.forall_mem_cons.mpr ⟨(List.Mem.tail _ (List.Mem.tail _ (List.Mem.head _))), (List.forall_mem_cons.mpr ⟨(List.Mem.tail _ (List.Mem.tail _ (List.Mem.tail _ (List.Mem.head _)))), (List.forall_mem_cons.mpr ⟨(List.Mem.head _), (fun _ h => by cases h)⟩)⟩)⟩)⟩) ?_
        exact ih4  (y4_3 + (-1)) ((w_upG 420 ga4_37 (v5) (v14))) M21 (w_Rep.up hR22a (show I = I from rfl) (show (w_upF A 37 (w_upG 420 ga4_37 (v5) (v14))) = (w_upF (w_upF A 37 ga4_37) 37 (w_upG 420 ga4_37 (v5) (v14))) from (funext fun s => if e0 : s = 37 then (by subst e0; rfl) else (by simp only [w_upF_ne e0])))) ⟨by omega, by omega⟩ (show -7 ≤ (y4_3 + (-1)) by omega) (show (y4_3 + (-1)) + 7 < (fu4 : Int) by omega)
  refine w_ls (ls := [(0, .ref 33), (1, .int (Int32.ofInt (f))), (2, .int (Int32.ofInt (g))), (3, .int (Int32.ofInt (g - 1)))]) (show List.Nodup [0, 1, 2, 3] by decide) (show List.Nodup [3, 0, 1, 2] by decide) (List.forall_mem_cons.mpr ⟨(List.Mem.tail _ (List.Mem.head _)), (List.forall_mem_cons.mpr ⟨(List.Mem.tail _ (List.Mem.tail _ (List.Mem.head _))), (List.forall_mem_cons.mpr ⟨(List.Mem.tail _ (List.Mem.tail _ (List.Mem.tail _ (List.Mem.head _)))), (List.forall_mem_cons.mpr ⟨(List.Mem.head _), (fun _ h => by cases h)⟩)⟩)⟩)⟩) ?_
  exact lp4 (((g - 1) + 7 : Int).toNat + 1)  (g - 1) ((A 37)) M (w_Rep.up hR (show I = I from rfl) (show (w_upF A 37 (A 37)) = A from (funext fun s => if e0 : s = 37 then (by subst e0; rfl) else (by simp only [w_upF_ne e0])))) ⟨by omega, by omega⟩ (show -7 ≤ (g - 1) by omega) (show (g - 1) + 7 < ((((g - 1) + 7 : Int).toNat + 1 : Nat) : Int) by omega)
def c_Kernel_add_Q (fr : Nat → Bool) (X : Nat → Option (q_C (Nat → Int32))) (u l : Nat) (I : Nat → Int) (A : Nat → Int → Int) (B C : Nat → Nat) (M : w_M) (v : Int) : w_X → w_M → Prop := fun r M' => (∃ gi : Int → Int, ∃ gc : Int → Int, ∃ zi : Int, (r = .inl none) ∧ (w_Rep w_TC fr X u l (w_up I 1035 (zi)) (w_upF (w_upF A 24 gi) 23 gc) B C M') ∧ (0 ≤ zi ∧ zi ≤ 10000))
set_option maxHeartbeats 100000000 in
set_option maxRecDepth 100000 in
theorem c_Kernel_add {L : Nat} {xs : Nat → Int32} {d : Nat} {fr : Nat → Bool} {X : Nat → Option (q_C (Nat → Int32))} {u l : Nat} {I : Nat → Int} {A : Nat → Int → Int} {B C : Nat → Nat} {M : w_M} (v : Int) (hR : w_Rep w_TC fr X u l I A B C M) (hd : 1 ≤ d) (r_v : w_in v) (hKI : 0 ≤ (I 1035) ∧ (I 1035) ≤ 10000) : w_W (z_P L xs) d 164 (0, [(0, .ref 16), (1, .int (Int32.ofInt (v)))], [], M) (c_Kernel_add_Q fr X u l I A B C M v) := by
  obtain ⟨ra_v, rb_v⟩ := r_v
  obtain ⟨d, rfl⟩ : ∃ d0, d = d0 + 1 := ⟨d - 1, by omega⟩
  refine w_adv (n := 1) (F' := (1, [(0, .ref 16), (1, .int (Int32.ofInt (v)))], [.ref 16], M)) rfl ?_
  refine w_gf (v := .int (Int32.ofInt ((I 1035)))) hR rfl rfl rfl rfl ?_
  obtain ⟨r1, r2⟩ : -2147483648 ≤ (I 1035) ∧ (I 1035) ≤ 2147483647 := hR.ri 1035
  refine w_adv (n := 1) (F' := (7, [(0, .ref 16), (1, .int (Int32.ofInt (v)))], [.int (Int32.ofInt (10000)), .int (Int32.ofInt ((I 1035)))], M)) rfl ?_
  refine w_br2 (a := (I 1035)) (b := 10000) rfl rfl ⟨by omega, by omega⟩ ⟨by omega, by omega⟩ (fun h3 => ?_) (fun h3 => ?_)
  · have h3 : (I 1035) ≥ 10000 := h3
    show w_W _ _ _ (60, [(0, .ref 16), (1, .int (Int32.ofInt (v)))], [], M) _
    refine w_fin (r := .inl none) (M' := M) rfl ?_
    exact ⟨(A 24), (A 23), (I 1035), rfl, (w_Rep.up hR (show (w_up I 1035 ((I 1035))) = I from (funext fun s => if e0 : s = 1035 then (by subst e0; rfl) else (by simp only [w_up_ne e0]))) (show (w_upF (w_upF A 24 (A 24)) 23 (A 23)) = A from (funext fun s => if e0 : s = 23 then (by subst e0; rfl) else if e1 : s = 24 then (by subst e1; rfl) else (by simp only [w_upF_ne e0, w_upF_ne e1])))), (show 0 ≤ (I 1035) ∧ (I 1035) ≤ 10000 by first | assumption | omega)⟩
  · have h3 : ¬ ((I 1035) ≥ 10000) := h3
    show w_W _ _ _ (10, [(0, .ref 16), (1, .int (Int32.ofInt (v)))], [], M) _
    refine w_adv (n := 1) (F' := (11, [(0, .ref 16), (1, .int (Int32.ofInt (v)))], [.ref 16], M)) rfl ?_
    refine w_gf (v := .ref 24) hR rfl rfl rfl rfl ?_
    refine w_adv (n := 1) (F' := (15, [(0, .ref 16), (1, .int (Int32.ofInt (v)))], [.ref 16, .ref 24], M)) rfl ?_
    refine w_gf (v := .int (Int32.ofInt ((I 1035)))) hR rfl rfl rfl rfl ?_
    refine w_adv (n := 1) (F' := (19, [(0, .ref 16), (1, .int (Int32.ofInt (v)))], [.int (Int32.ofInt (v)), .int (Int32.ofInt ((I 1035))), .ref 24], M)) rfl ?_
    refine w_call (cm := 25) (as := [(0, .ref 24), (1, .int (Int32.ofInt ((I 1035)))), (2, .int (Int32.ofInt (v)))]) (rest := []) (o := none) rfl (trivial) (c_set ((I 1035)) (v) 24 10000 rfl (by decide) hR ⟨by omega, by omega⟩ ⟨by omega, by omega⟩) (fun r4 M5 q6 => ?_)
    rcases q6 with ⟨e7, hR6a⟩
    rw [e7]
    replace hR6a : w_Rep w_TC fr X u l I (w_upF A 24 (w_upG 10000 (A 24) ((I 1035)) (v))) B C M5 := hR6a
    show w_W _ _ _ (22, [(0, .ref 16), (1, .int (Int32.ofInt (v)))], [], M5) _
    refine w_adv (n := 2) (F' := (24, [(0, .ref 16), (1, .int (Int32.ofInt (v)))], [.ref 16, .ref 16], M5)) rfl ?_
    refine w_gf (v := .int (Int32.ofInt ((I 1035)))) hR6a rfl rfl rfl rfl ?_
    refine w_adv (n := 1) (F' := (28, [(0, .ref 16), (1, .int (Int32.ofInt (v)))], [.int (Int32.ofInt (1)), .int (Int32.ofInt ((I 1035))), .ref 16], M5)) rfl ?_
    refine w_add rfl ?_
    refine w_pf hR6a rfl rfl rfl rfl (show w_in ((I 1035) + 1) from ⟨by omega, by omega⟩) (fun h => absurd h (by decide)) (fun M8 hR9 => ?_)
    replace hR9 : w_Rep w_TC fr X u l (w_up I 1035 ((I 1035) + 1)) (w_upF A 24 (w_upG 10000 (A 24) ((I 1035)) (v))) B C M8 := hR9
    refine w_adv (n := 1) (F' := (33, [(0, .ref 16), (1, .int (Int32.ofInt (v)))], [.ref 16], M8)) rfl ?_
    refine w_gf (v := .ref 23) hR9 rfl rfl rfl rfl ?_
    refine w_adv (n := 1) (F' := (37, [(0, .ref 16), (1, .int (Int32.ofInt (v)))], [.ref 16, .ref 23], M8)) rfl ?_
    refine w_gf (v := .int (Int32.ofInt ((I 1034)))) hR9 rfl rfl rfl rfl ?_
    obtain ⟨r10, r11⟩ : -2147483648 ≤ (I 1034) ∧ (I 1034) ≤ 2147483647 := hR9.ri 1034
    refine w_adv (n := 1) (F' := (41, [(0, .ref 16), (1, .int (Int32.ofInt (v)))], [.int (Int32.ofInt (1)), .int (Int32.ofInt ((I 1034))), .ref 23], M8)) rfl ?_
    refine w_sub rfl ?_
    refine w_int (fun x12 r13 e14 => ?_)
    obtain ⟨r13a, r13b⟩ := r13
    clear e14
    refine w_adv (n := 1) (F' := (43, [(0, .ref 16), (1, .int (Int32.ofInt (v)))], [.ref 16, .int (Int32.ofInt (x12)), .ref 23], M8)) rfl ?_
    refine w_gf (v := .ref 23) hR9 rfl rfl rfl rfl ?_
    refine w_adv (n := 1) (F' := (47, [(0, .ref 16), (1, .int (Int32.ofInt (v)))], [.ref 16, .ref 23, .int (Int32.ofInt (x12)), .ref 23], M8)) rfl ?_
    refine w_gf (v := .int (Int32.ofInt ((I 1034)))) hR9 rfl rfl rfl rfl ?_
    refine w_adv (n := 1) (F' := (51, [(0, .ref 16), (1, .int (Int32.ofInt (v)))], [.int (Int32.ofInt (1)), .int (Int32.ofInt ((I 1034))), .ref 23, .int (Int32.ofInt (x12)), .ref 23], M8)) rfl ?_
    refine w_sub rfl ?_
    refine w_int (fun x15 r16 e17 => ?_)
    obtain ⟨r16a, r16b⟩ := r16
    clear e17
    refine w_call (cm := 21) (as := [(0, .ref 23), (1, .int (Int32.ofInt (x15)))]) (rest := [.int (Int32.ofInt (x12)), .ref 23]) (o := none) rfl (trivial) (c_at (x15) 23 3200 rfl (by decide) hR9 ⟨by omega, by omega⟩) (fun r18 M19 q20 => ?_)
    rcases q20 with ⟨v21, e22, ⟨r23, r24⟩, e25, f26⟩
    rw [e22, e25]
    replace f26 : ((0 ≤ x15 ∧ x15 < (3200 : Int) ∧ v21 = (A 23) (x15)) ∨ (¬ (0 ≤ x15 ∧ x15 < (3200 : Int)) ∧ v21 = -1)) := f26
    show w_W _ _ _ (55, [(0, .ref 16), (1, .int (Int32.ofInt (v)))], [.int (Int32.ofInt (v21)), .int (Int32.ofInt (x12)), .ref 23], M8) _
    refine w_adv (n := 1) (F' := (56, [(0, .ref 16), (1, .int (Int32.ofInt (v)))], [.int (Int32.ofInt (1)), .int (Int32.ofInt (v21)), .int (Int32.ofInt (x12)), .ref 23], M8)) rfl ?_
    refine w_add rfl ?_
    refine w_int (fun x27 r28 e29 => ?_)
    obtain ⟨r28a, r28b⟩ := r28
    clear e29
    refine w_call (cm := 25) (as := [(0, .ref 23), (1, .int (Int32.ofInt (x12))), (2, .int (Int32.ofInt (x27)))]) (rest := []) (o := none) rfl (trivial) (c_set (x12) (x27) 23 3200 rfl (by decide) hR9 ⟨by omega, by omega⟩ ⟨by omega, by omega⟩) (fun r30 M31 q32 => ?_)
    rcases q32 with ⟨e33, hR32a⟩
    rw [e33]
    replace hR32a : w_Rep w_TC fr X u l (w_up I 1035 ((I 1035) + 1)) (w_upF (w_upF A 24 (w_upG 10000 (A 24) ((I 1035)) (v))) 23 (w_upG 3200 (A 23) (x12) (x27))) B C M31 := hR32a
    show w_W _ _ _ (60, [(0, .ref 16), (1, .int (Int32.ofInt (v)))], [], M31) _
    refine w_fin (r := .inl none) (M' := M31) rfl ?_
    exact ⟨(w_upG 10000 (A 24) ((I 1035)) (v)), (w_upG 3200 (A 23) (x12) (x27)), (I 1035) + 1, rfl, hR32a, (show 0 ≤ (I 1035) + 1 ∧ (I 1035) + 1 ≤ 10000 by first | assumption | omega)⟩
def c_Kernel_addPair_Q (fr : Nat → Bool) (X : Nat → Option (q_C (Nat → Int32))) (u l : Nat) (I : Nat → Int) (A : Nat → Int → Int) (B C : Nat → Nat) (M : w_M) (f : Int) (v : Int) : w_X → w_M → Prop := fun r M' => (∃ gi : Int → Int, ∃ gc : Int → Int, ∃ zi : Int, (r = .inl none) ∧ (w_Rep w_TC fr X u l (w_up I 1035 (zi)) (w_upF (w_upF A 24 gi) 23 gc) B C M') ∧ (0 ≤ zi ∧ zi ≤ 10000))
set_option maxHeartbeats 100000000 in
set_option maxRecDepth 100000 in
theorem c_Kernel_addPair {L : Nat} {xs : Nat → Int32} {d : Nat} {fr : Nat → Bool} {X : Nat → Option (q_C (Nat → Int32))} {u l : Nat} {I : Nat → Int} {A : Nat → Int → Int} {B C : Nat → Nat} {M : w_M} (f : Int) (v : Int) (hR : w_Rep w_TC fr X u l I A B C M) (hd : 2 ≤ d) (r_f : w_in f) (r_v : w_in v) (hKI : 0 ≤ (I 1035) ∧ (I 1035) ≤ 10000) : w_W (z_P L xs) d 163 (0, [(0, .ref 16), (1, .int (Int32.ofInt (f))), (2, .int (Int32.ofInt (v)))], [], M) (c_Kernel_addPair_Q fr X u l I A B C M f v) := by
  obtain ⟨ra_f, rb_f⟩ := r_f
  obtain ⟨ra_v, rb_v⟩ := r_v
  obtain ⟨d, rfl⟩ : ∃ d0, d = d0 + 1 := ⟨d - 1, by omega⟩
  refine w_adv (n := 2) (F' := (2, [(0, .ref 16), (1, .int (Int32.ofInt (f))), (2, .int (Int32.ofInt (v)))], [.int (Int32.ofInt (f)), .ref 16], M)) rfl ?_
  refine w_call (cm := 164) (as := [(0, .ref 16), (1, .int (Int32.ofInt (f)))]) (rest := []) (o := some (2, 16)) rfl (w_fitR hR rfl) (c_Kernel_add (f) hR (show 1 ≤ d by omega) ⟨by omega, by omega⟩ (show 0 ≤ (I 1035) ∧ (I 1035) ≤ 10000 by first | assumption | omega)) (fun r1 M2 q3 => ?_)
  rcases q3 with ⟨gi4, gc5, zi6, e7, hR3a, f8⟩
  rw [e7]
  replace hR3a : w_Rep w_TC fr X u l (w_up I 1035 (zi6)) (w_upF (w_upF A 24 gi4) 23 gc5) B C M2 := hR3a
  replace f8 : 0 ≤ zi6 ∧ zi6 ≤ 10000 := f8
  obtain ⟨n9, n10⟩ := id f8
  clear f8
  show w_W _ _ _ (5, [(0, .ref 16), (1, .int (Int32.ofInt (f))), (2, .int (Int32.ofInt (v)))], [], M2) _
  refine w_adv (n := 2) (F' := (7, [(0, .ref 16), (1, .int (Int32.ofInt (f))), (2, .int (Int32.ofInt (v)))], [.int (Int32.ofInt (v)), .ref 16], M2)) rfl ?_
  refine w_call (cm := 164) (as := [(0, .ref 16), (1, .int (Int32.ofInt (v)))]) (rest := []) (o := some (2, 16)) rfl (w_fitR hR3a rfl) (c_Kernel_add (v) hR3a (show 1 ≤ d by omega) ⟨by omega, by omega⟩ (show 0 ≤ zi6 ∧ zi6 ≤ 10000 by first | assumption | omega)) (fun r11 M12 q13 => ?_)
  rcases q13 with ⟨gi14, gc15, zi16, e17, hR13a, f18⟩
  rw [e17]
  replace hR13a : w_Rep w_TC fr X u l (w_up I 1035 (zi16)) (w_upF (w_upF (w_upF (w_upF A 24 gi4) 23 gc5) 24 gi14) 23 gc15) B C M12 := w_Rep.up hR13a (show (w_up I 1035 (zi16)) = _ from (funext fun s => if e0 : s = 1035 then (by subst e0; rfl) else (by simp only [w_up_ne e0]))) rfl
  replace f18 : 0 ≤ zi16 ∧ zi16 ≤ 10000 := f18
  obtain ⟨n19, n20⟩ := id f18
  clear f18
  show w_W _ _ _ (10, [(0, .ref 16), (1, .int (Int32.ofInt (f))), (2, .int (Int32.ofInt (v)))], [], M12) _
  refine w_fin (r := .inl none) (M' := M12) rfl ?_
  exact ⟨gi14, gc15, zi16, rfl, (w_Rep.up hR13a (show (w_up I 1035 (zi16)) = (w_up I 1035 (zi16)) from rfl) (show (w_upF (w_upF A 24 gi14) 23 gc15) = (w_upF (w_upF (w_upF (w_upF A 24 gi4) 23 gc5) 24 gi14) 23 gc15) from (funext fun s => if e0 : s = 23 then (by subst e0; rfl) else if e1 : s = 24 then (by subst e1; rfl) else (by simp only [w_upF_ne e0, w_upF_ne e1])))), (show 0 ≤ zi16 ∧ zi16 ≤ 10000 by first | assumption | omega)⟩
def c_Kernel_itemOf_Q (fr : Nat → Bool) (X : Nat → Option (q_C (Nat → Int32))) (u l : Nat) (I : Nat → Int) (A : Nat → Int → Int) (B C : Nat → Nat) (M : w_M) (s : Int) (i : Int) : w_X → w_M → Prop := fun r M' => (∃ v : Int, (r = .inl (some v)) ∧ (w_in v) ∧ (M' = M))
set_option maxHeartbeats 100000000 in
set_option maxRecDepth 100000 in
theorem c_Kernel_itemOf {L : Nat} {xs : Nat → Int32} {d : Nat} {fr : Nat → Bool} {X : Nat → Option (q_C (Nat → Int32))} {u l : Nat} {I : Nat → Int} {A : Nat → Int → Int} {B C : Nat → Nat} {M : w_M} (s : Int) (i : Int) (hR : w_Rep w_TC fr X u l I A B C M) (hd : 1 ≤ d) (r_s : w_in s) (r_i : w_in i) : w_W (z_P L xs) d 199 (0, [(0, .ref 16), (1, .int (Int32.ofInt (s))), (2, .int (Int32.ofInt (i)))], [], M) (c_Kernel_itemOf_Q fr X u l I A B C M s i) := by
  obtain ⟨ra_s, rb_s⟩ := r_s
  obtain ⟨ra_i, rb_i⟩ := r_i
  obtain ⟨d, rfl⟩ : ∃ d0, d = d0 + 1 := ⟨d - 1, by omega⟩
  refine w_adv (n := 1) (F' := (1, [(0, .ref 16), (1, .int (Int32.ofInt (s))), (2, .int (Int32.ofInt (i)))], [.int (Int32.ofInt (s))], M)) rfl ?_
  refine w_br1 (a := s) rfl rfl ⟨by omega, by omega⟩ (fun h1 => ?_) (fun h1 => ?_)
  · have h1 : s < 0 := h1
    show w_W _ _ _ (28, [(0, .ref 16), (1, .int (Int32.ofInt (s))), (2, .int (Int32.ofInt (i)))], [], M) _
    refine w_adv (n := 1) (F' := (30, [(0, .ref 16), (1, .int (Int32.ofInt (s))), (2, .int (Int32.ofInt (i)))], [.int (Int32.ofInt ((-2147483648)))], M)) rfl ?_
    refine w_fin (r := .inl (some ((-2147483648)))) (M' := M) rfl ?_
    exact ⟨(-2147483648), rfl, ⟨by omega, by omega⟩, rfl⟩
  · have h1 : ¬ (s < 0) := h1
    show w_W _ _ _ (4, [(0, .ref 16), (1, .int (Int32.ofInt (s))), (2, .int (Int32.ofInt (i)))], [], M) _
    refine w_adv (n := 2) (F' := (6, [(0, .ref 16), (1, .int (Int32.ofInt (s))), (2, .int (Int32.ofInt (i)))], [.ref 16, .int (Int32.ofInt (s))], M)) rfl ?_
    refine w_gf (v := .int (Int32.ofInt ((I 1034)))) hR rfl rfl rfl rfl ?_
    obtain ⟨r2, r3⟩ : -2147483648 ≤ (I 1034) ∧ (I 1034) ≤ 2147483647 := hR.ri 1034
    refine w_br2 (a := s) (b := (I 1034)) rfl rfl ⟨by omega, by omega⟩ ⟨by omega, by omega⟩ (fun h4 => ?_) (fun h4 => ?_)
    · have h4 : s ≥ (I 1034) := h4
      show w_W _ _ _ (28, [(0, .ref 16), (1, .int (Int32.ofInt (s))), (2, .int (Int32.ofInt (i)))], [], M) _
      refine w_adv (n := 1) (F' := (30, [(0, .ref 16), (1, .int (Int32.ofInt (s))), (2, .int (Int32.ofInt (i)))], [.int (Int32.ofInt ((-2147483648)))], M)) rfl ?_
      refine w_fin (r := .inl (some ((-2147483648)))) (M' := M) rfl ?_
      exact ⟨(-2147483648), rfl, ⟨by omega, by omega⟩, rfl⟩
    · have h4 : ¬ (s ≥ (I 1034)) := h4
      show w_W _ _ _ (12, [(0, .ref 16), (1, .int (Int32.ofInt (s))), (2, .int (Int32.ofInt (i)))], [], M) _
      refine w_adv (n := 1) (F' := (13, [(0, .ref 16), (1, .int (Int32.ofInt (s))), (2, .int (Int32.ofInt (i)))], [.int (Int32.ofInt (i))], M)) rfl ?_
      refine w_br1 (a := i) rfl rfl ⟨by omega, by omega⟩ (fun h5 => ?_) (fun h5 => ?_)
      · have h5 : i < 0 := h5
        show w_W _ _ _ (28, [(0, .ref 16), (1, .int (Int32.ofInt (s))), (2, .int (Int32.ofInt (i)))], [], M) _
        refine w_adv (n := 1) (F' := (30, [(0, .ref 16), (1, .int (Int32.ofInt (s))), (2, .int (Int32.ofInt (i)))], [.int (Int32.ofInt ((-2147483648)))], M)) rfl ?_
        refine w_fin (r := .inl (some ((-2147483648)))) (M' := M) rfl ?_
        exact ⟨(-2147483648), rfl, ⟨by omega, by omega⟩, rfl⟩
      · have h5 : ¬ (i < 0) := h5
        show w_W _ _ _ (16, [(0, .ref 16), (1, .int (Int32.ofInt (s))), (2, .int (Int32.ofInt (i)))], [], M) _
        refine w_adv (n := 2) (F' := (18, [(0, .ref 16), (1, .int (Int32.ofInt (s))), (2, .int (Int32.ofInt (i)))], [.ref 16, .int (Int32.ofInt (i))], M)) rfl ?_
        refine w_gf (v := .ref 23) hR rfl rfl rfl rfl ?_
        refine w_adv (n := 1) (F' := (22, [(0, .ref 16), (1, .int (Int32.ofInt (s))), (2, .int (Int32.ofInt (i)))], [.int (Int32.ofInt (s)), .ref 23, .int (Int32.ofInt (i))], M)) rfl ?_
        refine w_call (cm := 21) (as := [(0, .ref 23), (1, .int (Int32.ofInt (s)))]) (rest := [.int (Int32.ofInt (i))]) (o := none) rfl (trivial) (c_at (s) 23 3200 rfl (by decide) hR ⟨by omega, by omega⟩) (fun r6 M7 q8 => ?_)
        rcases q8 with ⟨v9, e10, ⟨r11, r12⟩, e13, f14⟩
        rw [e10, e13]
        replace f14 : ((0 ≤ s ∧ s < (3200 : Int) ∧ v9 = (A 23) (s)) ∨ (¬ (0 ≤ s ∧ s < (3200 : Int)) ∧ v9 = -1)) := f14
        show w_W _ _ _ (25, [(0, .ref 16), (1, .int (Int32.ofInt (s))), (2, .int (Int32.ofInt (i)))], [.int (Int32.ofInt (v9)), .int (Int32.ofInt (i))], M) _
        refine w_br2 (a := i) (b := v9) rfl rfl ⟨by omega, by omega⟩ ⟨by omega, by omega⟩ (fun h15 => ?_) (fun h15 => ?_)
        · have h15 : i < v9 := h15
          show w_W _ _ _ (31, [(0, .ref 16), (1, .int (Int32.ofInt (s))), (2, .int (Int32.ofInt (i)))], [], M) _
          refine w_adv (n := 1) (F' := (32, [(0, .ref 16), (1, .int (Int32.ofInt (s))), (2, .int (Int32.ofInt (i)))], [.ref 16], M)) rfl ?_
          refine w_gf (v := .ref 24) hR rfl rfl rfl rfl ?_
          refine w_adv (n := 1) (F' := (36, [(0, .ref 16), (1, .int (Int32.ofInt (s))), (2, .int (Int32.ofInt (i)))], [.ref 16, .ref 24], M)) rfl ?_
          refine w_gf (v := .ref 22) hR rfl rfl rfl rfl ?_
          refine w_adv (n := 1) (F' := (40, [(0, .ref 16), (1, .int (Int32.ofInt (s))), (2, .int (Int32.ofInt (i)))], [.int (Int32.ofInt (s)), .ref 22, .ref 24], M)) rfl ?_
          refine w_call (cm := 21) (as := [(0, .ref 22), (1, .int (Int32.ofInt (s)))]) (rest := [.ref 24]) (o := none) rfl (trivial) (c_at (s) 22 3200 rfl (by decide) hR ⟨by omega, by omega⟩) (fun r16 M17 q18 => ?_)
          rcases q18 with ⟨v19, e20, ⟨r21, r22⟩, e23, f24⟩
          rw [e20, e23]
          replace f24 : ((0 ≤ s ∧ s < (3200 : Int) ∧ v19 = (A 22) (s)) ∨ (¬ (0 ≤ s ∧ s < (3200 : Int)) ∧ v19 = -1)) := f24
          show w_W _ _ _ (43, [(0, .ref 16), (1, .int (Int32.ofInt (s))), (2, .int (Int32.ofInt (i)))], [.int (Int32.ofInt (v19)), .ref 24], M) _
          refine w_adv (n := 1) (F' := (44, [(0, .ref 16), (1, .int (Int32.ofInt (s))), (2, .int (Int32.ofInt (i)))], [.int (Int32.ofInt (i)), .int (Int32.ofInt (v19)), .ref 24], M)) rfl ?_
          refine w_add rfl ?_
          refine w_int (fun x25 r26 e27 => ?_)
          obtain ⟨r26a, r26b⟩ := r26
          clear e27
          refine w_call (cm := 21) (as := [(0, .ref 24), (1, .int (Int32.ofInt (x25)))]) (rest := []) (o := none) rfl (trivial) (c_at (x25) 24 10000 rfl (by decide) hR ⟨by omega, by omega⟩) (fun r28 M29 q30 => ?_)
          rcases q30 with ⟨v31, e32, ⟨r33, r34⟩, e35, f36⟩
          rw [e32, e35]
          replace f36 : ((0 ≤ x25 ∧ x25 < (10000 : Int) ∧ v31 = (A 24) (x25)) ∨ (¬ (0 ≤ x25 ∧ x25 < (10000 : Int)) ∧ v31 = -1)) := f36
          show w_W _ _ _ (48, [(0, .ref 16), (1, .int (Int32.ofInt (s))), (2, .int (Int32.ofInt (i)))], [.int (Int32.ofInt (v31))], M) _
          refine w_fin (r := .inl (some (v31))) (M' := M) rfl ?_
          exact ⟨v31, rfl, ⟨by omega, by omega⟩, rfl⟩
        · have h15 : ¬ (i < v9) := h15
          show w_W _ _ _ (28, [(0, .ref 16), (1, .int (Int32.ofInt (s))), (2, .int (Int32.ofInt (i)))], [], M) _
          refine w_adv (n := 1) (F' := (30, [(0, .ref 16), (1, .int (Int32.ofInt (s))), (2, .int (Int32.ofInt (i)))], [.int (Int32.ofInt ((-2147483648)))], M)) rfl ?_
          refine w_fin (r := .inl (some ((-2147483648)))) (M' := M) rfl ?_
          exact ⟨(-2147483648), rfl, ⟨by omega, by omega⟩, rfl⟩
def c_Kernel_isBefore_Q (fr : Nat → Bool) (X : Nat → Option (q_C (Nat → Int32))) (u l : Nat) (I : Nat → Int) (A : Nat → Int → Int) (B C : Nat → Nat) (M : w_M) (f : Int) (g : Int) : w_X → w_M → Prop := fun r M' => ((r = .inl (some 1)) ∧ (M' = M)) ∨ ((r = .inl (some 0)) ∧ (M' = M))
set_option maxHeartbeats 100000000 in
set_option maxRecDepth 100000 in
theorem c_Kernel_isBefore {L : Nat} {xs : Nat → Int32} {d : Nat} {fr : Nat → Bool} {X : Nat → Option (q_C (Nat → Int32))} {u l : Nat} {I : Nat → Int} {A : Nat → Int → Int} {B C : Nat → Nat} {M : w_M} (f : Int) (g : Int) (hR : w_Rep w_TC fr X u l I A B C M) (hd : 3 ≤ d) (r_f : w_in f) (r_g : w_in g) (hNM : 36 ≤ (I 200) ∧ (I 200) ≤ 419 ∧ 0 ≤ (I 202) ∧ (I 202) ≤ 24) (hLN : ∀ i, (A 5) i ≤ 24) : w_W (z_P L xs) d 166 (0, [(0, .ref 16), (1, .int (Int32.ofInt (f))), (2, .int (Int32.ofInt (g)))], [], M) (c_Kernel_isBefore_Q fr X u l I A B C M f g) := by
  obtain ⟨ra_f, rb_f⟩ := r_f
  obtain ⟨ra_g, rb_g⟩ := r_g
  obtain ⟨d, rfl⟩ : ∃ d0, d = d0 + 1 := ⟨d - 1, by omega⟩
  refine w_adv (n := 1) (F' := (1, [(0, .ref 16), (1, .int (Int32.ofInt (f))), (2, .int (Int32.ofInt (g)))], [.int (Int32.ofInt (f))], M)) rfl ?_
  refine w_br1 (a := f) rfl rfl ⟨by omega, by omega⟩ (fun h1 => ?_) (fun h1 => ?_)
  · have h1 : f < 0 := h1
    show w_W _ _ _ (19, [(0, .ref 16), (1, .int (Int32.ofInt (f))), (2, .int (Int32.ofInt (g)))], [], M) _
    refine w_adv (n := 1) (F' := (20, [(0, .ref 16), (1, .int (Int32.ofInt (f))), (2, .int (Int32.ofInt (g)))], [.int (Int32.ofInt (f))], M)) rfl ?_
    refine w_br1 (a := f) rfl rfl ⟨by omega, by omega⟩ (fun h2 => ?_) (fun h2 => ?_)
    · have h2 : f ≥ 0 := h2
      show w_W _ _ _ (27, [(0, .ref 16), (1, .int (Int32.ofInt (f))), (2, .int (Int32.ofInt (g)))], [], M) _
      refine w_adv (n := 1) (F' := (28, [(0, .ref 16), (1, .int (Int32.ofInt (f))), (2, .int (Int32.ofInt (g)))], [.int (Int32.ofInt (f))], M)) rfl ?_
      refine w_br1 (a := f) rfl rfl ⟨by omega, by omega⟩ (fun h3 => ?_) (fun h3 => ?_)
      · have h3 : f < 0 := h3
        show w_W _ _ _ (35, [(0, .ref 16), (1, .int (Int32.ofInt (f))), (2, .int (Int32.ofInt (g)))], [], M) _
        refine w_adv (n := 1) (F' := (36, [(0, .ref 16), (1, .int (Int32.ofInt (f))), (2, .int (Int32.ofInt (g)))], [.int (Int32.ofInt (0))], M)) rfl ?_
        refine w_fin (r := .inl (some (0))) (M' := M) rfl ?_
        exact Or.inr (⟨rfl, rfl⟩)
      · have h3 : ¬ (f < 0) := h3
        show w_W _ _ _ (31, [(0, .ref 16), (1, .int (Int32.ofInt (f))), (2, .int (Int32.ofInt (g)))], [], M) _
        refine w_adv (n := 2) (F' := (36, [(0, .ref 16), (1, .int (Int32.ofInt (f))), (2, .int (Int32.ofInt (g)))], [.int (Int32.ofInt (1))], M)) rfl ?_
        refine w_fin (r := .inl (some (1))) (M' := M) rfl ?_
        exact Or.inl ⟨rfl, rfl⟩
    · have h2 : ¬ (f ≥ 0) := h2
      show w_W _ _ _ (23, [(0, .ref 16), (1, .int (Int32.ofInt (f))), (2, .int (Int32.ofInt (g)))], [], M) _
      refine w_adv (n := 1) (F' := (24, [(0, .ref 16), (1, .int (Int32.ofInt (f))), (2, .int (Int32.ofInt (g)))], [.int (Int32.ofInt (g))], M)) rfl ?_
      refine w_br1 (a := g) rfl rfl ⟨by omega, by omega⟩ (fun h4 => ?_) (fun h4 => ?_)
      · have h4 : g < 0 := h4
        show w_W _ _ _ (37, [(0, .ref 16), (1, .int (Int32.ofInt (f))), (2, .int (Int32.ofInt (g)))], [], M) _
        refine w_adv (n := 1) (F' := (38, [(0, .ref 16), (1, .int (Int32.ofInt (f))), (2, .int (Int32.ofInt (g)))], [.ref 16], M)) rfl ?_
        refine w_gf (v := .ref 3) hR rfl rfl rfl rfl ?_
        refine w_adv (n := 2) (F' := (43, [(0, .ref 16), (1, .int (Int32.ofInt (f))), (2, .int (Int32.ofInt (g)))], [.int (Int32.ofInt (f)), .int (Int32.ofInt ((-1))), .ref 3], M)) rfl ?_
        refine w_sub rfl ?_
        refine w_int (fun x5 r6 e7 => ?_)
        obtain ⟨r6a, r6b⟩ := r6
        clear e7
        refine w_adv (n := 2) (F' := (46, [(0, .ref 16), (1, .int (Int32.ofInt (f))), (2, .int (Int32.ofInt (g)))], [.int (Int32.ofInt (g)), .int (Int32.ofInt ((-1))), .int (Int32.ofInt (x5)), .ref 3], M)) rfl ?_
        refine w_sub rfl ?_
        refine w_int (fun x8 r9 e10 => ?_)
        obtain ⟨r9a, r9b⟩ := r9
        clear e10
        refine w_call (cm := 167) (as := [(0, .ref 3), (1, .int (Int32.ofInt (x5))), (2, .int (Int32.ofInt (x8)))]) (rest := []) (o := some (3, 3)) rfl (w_fitR hR rfl) (c_compareAtoms (x5) (x8) hR (show 2 ≤ d by omega) ⟨by omega, by omega⟩ ⟨by omega, by omega⟩ (show 36 ≤ (I 200) ∧ (I 200) ≤ 419 ∧ 0 ≤ (I 202) ∧ (I 202) ≤ 24 by (repeat' apply And.intro) <;> first | assumption | omega) (show ∀ i, (A 5) i ≤ 24 by exact hLN)) (fun r11 M12 q13 => ?_)
        rcases q13 with ⟨v14, e15, ⟨r16, r17⟩, e18⟩
        rw [e15, e18]
        show w_W _ _ _ (50, [(0, .ref 16), (1, .int (Int32.ofInt (f))), (2, .int (Int32.ofInt (g)))], [.int (Int32.ofInt (v14))], M) _
        refine w_br1 (a := v14) rfl rfl ⟨by omega, by omega⟩ (fun h19 => ?_) (fun h19 => ?_)
        · have h19 : v14 ≥ 0 := h19
          show w_W _ _ _ (57, [(0, .ref 16), (1, .int (Int32.ofInt (f))), (2, .int (Int32.ofInt (g)))], [], M) _
          refine w_adv (n := 1) (F' := (58, [(0, .ref 16), (1, .int (Int32.ofInt (f))), (2, .int (Int32.ofInt (g)))], [.int (Int32.ofInt (0))], M)) rfl ?_
          refine w_fin (r := .inl (some (0))) (M' := M) rfl ?_
          exact Or.inr (⟨rfl, rfl⟩)
        · have h19 : ¬ (v14 ≥ 0) := h19
          show w_W _ _ _ (53, [(0, .ref 16), (1, .int (Int32.ofInt (f))), (2, .int (Int32.ofInt (g)))], [], M) _
          refine w_adv (n := 2) (F' := (58, [(0, .ref 16), (1, .int (Int32.ofInt (f))), (2, .int (Int32.ofInt (g)))], [.int (Int32.ofInt (1))], M)) rfl ?_
          refine w_fin (r := .inl (some (1))) (M' := M) rfl ?_
          exact Or.inl ⟨rfl, rfl⟩
      · have h4 : ¬ (g < 0) := h4
        show w_W _ _ _ (27, [(0, .ref 16), (1, .int (Int32.ofInt (f))), (2, .int (Int32.ofInt (g)))], [], M) _
        refine w_adv (n := 1) (F' := (28, [(0, .ref 16), (1, .int (Int32.ofInt (f))), (2, .int (Int32.ofInt (g)))], [.int (Int32.ofInt (f))], M)) rfl ?_
        refine w_br1 (a := f) rfl rfl ⟨by omega, by omega⟩ (fun h20 => ?_) (fun h20 => ?_)
        · have h20 : f < 0 := h20
          show w_W _ _ _ (35, [(0, .ref 16), (1, .int (Int32.ofInt (f))), (2, .int (Int32.ofInt (g)))], [], M) _
          refine w_adv (n := 1) (F' := (36, [(0, .ref 16), (1, .int (Int32.ofInt (f))), (2, .int (Int32.ofInt (g)))], [.int (Int32.ofInt (0))], M)) rfl ?_
          refine w_fin (r := .inl (some (0))) (M' := M) rfl ?_
          exact Or.inr (⟨rfl, rfl⟩)
        · have h20 : ¬ (f < 0) := h20
          show w_W _ _ _ (31, [(0, .ref 16), (1, .int (Int32.ofInt (f))), (2, .int (Int32.ofInt (g)))], [], M) _
          refine w_adv (n := 2) (F' := (36, [(0, .ref 16), (1, .int (Int32.ofInt (f))), (2, .int (Int32.ofInt (g)))], [.int (Int32.ofInt (1))], M)) rfl ?_
          refine w_fin (r := .inl (some (1))) (M' := M) rfl ?_
          exact Or.inl ⟨rfl, rfl⟩
  · have h1 : ¬ (f < 0) := h1
    show w_W _ _ _ (4, [(0, .ref 16), (1, .int (Int32.ofInt (f))), (2, .int (Int32.ofInt (g)))], [], M) _
    refine w_adv (n := 1) (F' := (5, [(0, .ref 16), (1, .int (Int32.ofInt (f))), (2, .int (Int32.ofInt (g)))], [.int (Int32.ofInt (g))], M)) rfl ?_
    refine w_br1 (a := g) rfl rfl ⟨by omega, by omega⟩ (fun h21 => ?_) (fun h21 => ?_)
    · have h21 : g < 0 := h21
      show w_W _ _ _ (19, [(0, .ref 16), (1, .int (Int32.ofInt (f))), (2, .int (Int32.ofInt (g)))], [], M) _
      refine w_adv (n := 1) (F' := (20, [(0, .ref 16), (1, .int (Int32.ofInt (f))), (2, .int (Int32.ofInt (g)))], [.int (Int32.ofInt (f))], M)) rfl ?_
      refine w_br1 (a := f) rfl rfl ⟨by omega, by omega⟩ (fun h22 => ?_) (fun h22 => ?_)
      · have h22 : f ≥ 0 := h22
        show w_W _ _ _ (27, [(0, .ref 16), (1, .int (Int32.ofInt (f))), (2, .int (Int32.ofInt (g)))], [], M) _
        refine w_adv (n := 1) (F' := (28, [(0, .ref 16), (1, .int (Int32.ofInt (f))), (2, .int (Int32.ofInt (g)))], [.int (Int32.ofInt (f))], M)) rfl ?_
        refine w_br1 (a := f) rfl rfl ⟨by omega, by omega⟩ (fun h23 => ?_) (fun h23 => ?_)
        · have h23 : f < 0 := h23
          show w_W _ _ _ (35, [(0, .ref 16), (1, .int (Int32.ofInt (f))), (2, .int (Int32.ofInt (g)))], [], M) _
          refine w_adv (n := 1) (F' := (36, [(0, .ref 16), (1, .int (Int32.ofInt (f))), (2, .int (Int32.ofInt (g)))], [.int (Int32.ofInt (0))], M)) rfl ?_
          refine w_fin (r := .inl (some (0))) (M' := M) rfl ?_
          exact Or.inr (⟨rfl, rfl⟩)
        · have h23 : ¬ (f < 0) := h23
          show w_W _ _ _ (31, [(0, .ref 16), (1, .int (Int32.ofInt (f))), (2, .int (Int32.ofInt (g)))], [], M) _
          refine w_adv (n := 2) (F' := (36, [(0, .ref 16), (1, .int (Int32.ofInt (f))), (2, .int (Int32.ofInt (g)))], [.int (Int32.ofInt (1))], M)) rfl ?_
          refine w_fin (r := .inl (some (1))) (M' := M) rfl ?_
          exact Or.inl ⟨rfl, rfl⟩
      · have h22 : ¬ (f ≥ 0) := h22
        show w_W _ _ _ (23, [(0, .ref 16), (1, .int (Int32.ofInt (f))), (2, .int (Int32.ofInt (g)))], [], M) _
        refine w_adv (n := 1) (F' := (24, [(0, .ref 16), (1, .int (Int32.ofInt (f))), (2, .int (Int32.ofInt (g)))], [.int (Int32.ofInt (g))], M)) rfl ?_
        refine w_br1 (a := g) rfl rfl ⟨by omega, by omega⟩ (fun h24 => ?_) (fun h24 => ?_)
        · have h24 : g < 0 := h24
          show w_W _ _ _ (37, [(0, .ref 16), (1, .int (Int32.ofInt (f))), (2, .int (Int32.ofInt (g)))], [], M) _
          refine w_adv (n := 1) (F' := (38, [(0, .ref 16), (1, .int (Int32.ofInt (f))), (2, .int (Int32.ofInt (g)))], [.ref 16], M)) rfl ?_
          refine w_gf (v := .ref 3) hR rfl rfl rfl rfl ?_
          refine w_adv (n := 2) (F' := (43, [(0, .ref 16), (1, .int (Int32.ofInt (f))), (2, .int (Int32.ofInt (g)))], [.int (Int32.ofInt (f)), .int (Int32.ofInt ((-1))), .ref 3], M)) rfl ?_
          refine w_sub rfl ?_
          refine w_int (fun x25 r26 e27 => ?_)
          obtain ⟨r26a, r26b⟩ := r26
          clear e27
          refine w_adv (n := 2) (F' := (46, [(0, .ref 16), (1, .int (Int32.ofInt (f))), (2, .int (Int32.ofInt (g)))], [.int (Int32.ofInt (g)), .int (Int32.ofInt ((-1))), .int (Int32.ofInt (x25)), .ref 3], M)) rfl ?_
          refine w_sub rfl ?_
          refine w_int (fun x28 r29 e30 => ?_)
          obtain ⟨r29a, r29b⟩ := r29
          clear e30
          refine w_call (cm := 167) (as := [(0, .ref 3), (1, .int (Int32.ofInt (x25))), (2, .int (Int32.ofInt (x28)))]) (rest := []) (o := some (3, 3)) rfl (w_fitR hR rfl) (c_compareAtoms (x25) (x28) hR (show 2 ≤ d by omega) ⟨by omega, by omega⟩ ⟨by omega, by omega⟩ (show 36 ≤ (I 200) ∧ (I 200) ≤ 419 ∧ 0 ≤ (I 202) ∧ (I 202) ≤ 24 by (repeat' apply And.intro) <;> first | assumption | omega) (show ∀ i, (A 5) i ≤ 24 by exact hLN)) (fun r31 M32 q33 => ?_)
          rcases q33 with ⟨v34, e35, ⟨r36, r37⟩, e38⟩
          rw [e35, e38]
          show w_W _ _ _ (50, [(0, .ref 16), (1, .int (Int32.ofInt (f))), (2, .int (Int32.ofInt (g)))], [.int (Int32.ofInt (v34))], M) _
          refine w_br1 (a := v34) rfl rfl ⟨by omega, by omega⟩ (fun h39 => ?_) (fun h39 => ?_)
          · have h39 : v34 ≥ 0 := h39
            show w_W _ _ _ (57, [(0, .ref 16), (1, .int (Int32.ofInt (f))), (2, .int (Int32.ofInt (g)))], [], M) _
            refine w_adv (n := 1) (F' := (58, [(0, .ref 16), (1, .int (Int32.ofInt (f))), (2, .int (Int32.ofInt (g)))], [.int (Int32.ofInt (0))], M)) rfl ?_
            refine w_fin (r := .inl (some (0))) (M' := M) rfl ?_
            exact Or.inr (⟨rfl, rfl⟩)
          · have h39 : ¬ (v34 ≥ 0) := h39
            show w_W _ _ _ (53, [(0, .ref 16), (1, .int (Int32.ofInt (f))), (2, .int (Int32.ofInt (g)))], [], M) _
            refine w_adv (n := 2) (F' := (58, [(0, .ref 16), (1, .int (Int32.ofInt (f))), (2, .int (Int32.ofInt (g)))], [.int (Int32.ofInt (1))], M)) rfl ?_
            refine w_fin (r := .inl (some (1))) (M' := M) rfl ?_
            exact Or.inl ⟨rfl, rfl⟩
        · have h24 : ¬ (g < 0) := h24
          show w_W _ _ _ (27, [(0, .ref 16), (1, .int (Int32.ofInt (f))), (2, .int (Int32.ofInt (g)))], [], M) _
          refine w_adv (n := 1) (F' := (28, [(0, .ref 16), (1, .int (Int32.ofInt (f))), (2, .int (Int32.ofInt (g)))], [.int (Int32.ofInt (f))], M)) rfl ?_
          refine w_br1 (a := f) rfl rfl ⟨by omega, by omega⟩ (fun h40 => ?_) (fun h40 => ?_)
          · have h40 : f < 0 := h40
            show w_W _ _ _ (35, [(0, .ref 16), (1, .int (Int32.ofInt (f))), (2, .int (Int32.ofInt (g)))], [], M) _
            refine w_adv (n := 1) (F' := (36, [(0, .ref 16), (1, .int (Int32.ofInt (f))), (2, .int (Int32.ofInt (g)))], [.int (Int32.ofInt (0))], M)) rfl ?_
            refine w_fin (r := .inl (some (0))) (M' := M) rfl ?_
            exact Or.inr (⟨rfl, rfl⟩)
          · have h40 : ¬ (f < 0) := h40
            show w_W _ _ _ (31, [(0, .ref 16), (1, .int (Int32.ofInt (f))), (2, .int (Int32.ofInt (g)))], [], M) _
            refine w_adv (n := 2) (F' := (36, [(0, .ref 16), (1, .int (Int32.ofInt (f))), (2, .int (Int32.ofInt (g)))], [.int (Int32.ofInt (1))], M)) rfl ?_
            refine w_fin (r := .inl (some (1))) (M' := M) rfl ?_
            exact Or.inl ⟨rfl, rfl⟩
    · have h21 : ¬ (g < 0) := h21
      show w_W _ _ _ (8, [(0, .ref 16), (1, .int (Int32.ofInt (f))), (2, .int (Int32.ofInt (g)))], [], M) _
      refine w_adv (n := 2) (F' := (10, [(0, .ref 16), (1, .int (Int32.ofInt (f))), (2, .int (Int32.ofInt (g)))], [.int (Int32.ofInt (g)), .int (Int32.ofInt (f))], M)) rfl ?_
      refine w_br2 (a := f) (b := g) rfl rfl ⟨by omega, by omega⟩ ⟨by omega, by omega⟩ (fun h41 => ?_) (fun h41 => ?_)
      · have h41 : f ≥ g := h41
        show w_W _ _ _ (17, [(0, .ref 16), (1, .int (Int32.ofInt (f))), (2, .int (Int32.ofInt (g)))], [], M) _
        refine w_adv (n := 1) (F' := (18, [(0, .ref 16), (1, .int (Int32.ofInt (f))), (2, .int (Int32.ofInt (g)))], [.int (Int32.ofInt (0))], M)) rfl ?_
        refine w_fin (r := .inl (some (0))) (M' := M) rfl ?_
        exact Or.inr (⟨rfl, rfl⟩)
      · have h41 : ¬ (f ≥ g) := h41
        show w_W _ _ _ (13, [(0, .ref 16), (1, .int (Int32.ofInt (f))), (2, .int (Int32.ofInt (g)))], [], M) _
        refine w_adv (n := 2) (F' := (18, [(0, .ref 16), (1, .int (Int32.ofInt (f))), (2, .int (Int32.ofInt (g)))], [.int (Int32.ofInt (1))], M)) rfl ?_
        refine w_fin (r := .inl (some (1))) (M' := M) rfl ?_
        exact Or.inl ⟨rfl, rfl⟩
def c_Kernel_sortPairs_Q (fr : Nat → Bool) (X : Nat → Option (q_C (Nat → Int32))) (u l : Nat) (I : Nat → Int) (A : Nat → Int → Int) (B C : Nat → Nat) (M : w_M) (k : Int) : w_X → w_M → Prop := fun r M' => (∃ gi : Int → Int, (r = .inl none) ∧ (w_Rep w_TC fr X u l I (w_upF A 24 gi) B C M'))
set_option maxHeartbeats 100000000 in
set_option maxRecDepth 100000 in
theorem c_Kernel_sortPairs {L : Nat} {xs : Nat → Int32} {d : Nat} {fr : Nat → Bool} {X : Nat → Option (q_C (Nat → Int32))} {u l : Nat} {I : Nat → Int} {A : Nat → Int → Int} {B C : Nat → Nat} {M : w_M} (k : Int) (hR : w_Rep w_TC fr X u l I A B C M) (hd : 4 ≤ d) (r_k : w_in k) (hNM : 36 ≤ (I 200) ∧ (I 200) ≤ 419 ∧ 0 ≤ (I 202) ∧ (I 202) ≤ 24) (hLN : ∀ i, (A 5) i ≤ 24) (hKI : 0 ≤ (I 1035) ∧ (I 1035) ≤ 10000) (hKS : ∀ i, -1 ≤ (A 22) i ∧ (A 22) i ≤ 10000) (hk : 0 ≤ k ∧ k ≤ 2) : w_W (z_P L xs) d 165 (0, [(0, .ref 16), (1, .int (Int32.ofInt (k)))], [], M) (c_Kernel_sortPairs_Q fr X u l I A B C M k) := by
  obtain ⟨ra_k, rb_k⟩ := r_k
  obtain ⟨d, rfl⟩ : ∃ d0, d = d0 + 1 := ⟨d - 1, by omega⟩
  refine w_adv (n := 1) (F' := (1, [(0, .ref 16), (1, .int (Int32.ofInt (k)))], [.ref 16], M)) rfl ?_
  refine w_gf (v := .ref 22) hR rfl rfl rfl rfl ?_
  refine w_adv (n := 1) (F' := (5, [(0, .ref 16), (1, .int (Int32.ofInt (k)))], [.ref 16, .ref 22], M)) rfl ?_
  refine w_gf (v := .int (Int32.ofInt ((I 1034)))) hR rfl rfl rfl rfl ?_
  obtain ⟨r1, r2⟩ : -2147483648 ≤ (I 1034) ∧ (I 1034) ≤ 2147483647 := hR.ri 1034
  refine w_adv (n := 1) (F' := (9, [(0, .ref 16), (1, .int (Int32.ofInt (k)))], [.int (Int32.ofInt (1)), .int (Int32.ofInt ((I 1034))), .ref 22], M)) rfl ?_
  refine w_sub rfl ?_
  refine w_int (fun x3 r4 e5 => ?_)
  obtain ⟨r4a, r4b⟩ := r4
  clear e5
  have hks := hKS (x3)
  refine w_call (cm := 21) (as := [(0, .ref 22), (1, .int (Int32.ofInt (x3)))]) (rest := []) (o := none) rfl (trivial) (c_at (x3) 22 3200 rfl (by decide) hR ⟨by omega, by omega⟩) (fun r6 M7 q8 => ?_)
  rcases q8 with ⟨v9, e10, ⟨r11, r12⟩, e13, f14⟩
  rw [e10, e13]
  replace f14 : ((0 ≤ x3 ∧ x3 < (3200 : Int) ∧ v9 = (A 22) (x3)) ∨ (¬ (0 ≤ x3 ∧ x3 < (3200 : Int)) ∧ v9 = -1)) := f14
  show w_W _ _ _ (13, [(0, .ref 16), (1, .int (Int32.ofInt (k)))], [.int (Int32.ofInt (v9))], M) _
  refine w_adv (n := 1) (F' := (14, [(0, .ref 16), (1, .int (Int32.ofInt (k)))], [.int (Int32.ofInt (k)), .int (Int32.ofInt (v9))], M)) rfl ?_
  refine w_add rfl ?_
  refine w_adv (n := 3) (F' := (18, [(2, .int (Int32.ofInt (v9 + k))), (0, .ref 16), (1, .int (Int32.ofInt (k)))], [.int (Int32.ofInt (2)), .int (Int32.ofInt (v9 + k))], M)) rfl ?_
  refine w_add rfl ?_
  refine w_adv (n := 1) (F' := (20, [(3, .int (Int32.ofInt ((v9 + k) + 2))), (2, .int (Int32.ofInt (v9 + k))), (0, .ref 16), (1, .int (Int32.ofInt (k)))], [], M)) rfl ?_
  have lp20 : ∀ fu20 : Nat, ∀ (y20_3 : Int) (ga20_24 : Int → Int) (M_20 : w_M) (hR_20 : w_Rep w_TC fr X u l I (w_upF A 24 ga20_24) B C M_20), w_in y20_3 → -1 ≤ y20_3 ∧ y20_3 ≤ 10005 → 10006 - y20_3 < (fu20 : Int) → w_W (z_P L xs) (d + 1) 165 (20, [(0, .ref 16), (1, .int (Int32.ofInt (k))), (2, .int (Int32.ofInt (v9 + k))), (3, .int (Int32.ofInt (y20_3)))], [], M_20) (c_Kernel_sortPairs_Q fr X u l I A B C M k) := by
    intro fu20
    induction fu20 with
    | zero =>
      intro y20_3 ga20_24 M_20 hR_20 ⟨ra_y20_3, rb_y20_3⟩ hi20_0 hn20
      exfalso
      omega
    | succ fu20 ih20 =>
      intro y20_3 ga20_24 M_20 hR_20 ⟨ra_y20_3, rb_y20_3⟩ hi20_0 hn20
      refine w_adv (n := 2) (F' := (22, [(0, .ref 16), (1, .int (Int32.ofInt (k))), (2, .int (Int32.ofInt (v9 + k))), (3, .int (Int32.ofInt (y20_3)))], [.int (Int32.ofInt (1)), .int (Int32.ofInt (y20_3))], M_20)) rfl ?_
      refine w_add rfl ?_
      refine w_adv (n := 1) (F' := (24, [(0, .ref 16), (1, .int (Int32.ofInt (k))), (2, .int (Int32.ofInt (v9 + k))), (3, .int (Int32.ofInt (y20_3)))], [.ref 16, .int (Int32.ofInt (y20_3 + 1))], M_20)) rfl ?_
      refine w_gf (v := .int (Int32.ofInt ((I 1035)))) hR_20 rfl rfl rfl rfl ?_
      obtain ⟨r15, r16⟩ : -2147483648 ≤ (I 1035) ∧ (I 1035) ≤ 2147483647 := hR_20.ri 1035
      refine w_br2 (a := y20_3 + 1) (b := (I 1035)) rfl rfl ⟨by omega, by omega⟩ ⟨by omega, by omega⟩ (fun h17 => ?_) (fun h17 => ?_)
      · have h17 : y20_3 + 1 ≥ (I 1035) := h17
        show w_W _ _ _ (159, [(0, .ref 16), (1, .int (Int32.ofInt (k))), (2, .int (Int32.ofInt (v9 + k))), (3, .int (Int32.ofInt (y20_3)))], [], M_20) _
        refine w_fin (r := .inl none) (M' := M_20) rfl ?_
        exact ⟨ga20_24, rfl, hR_20⟩
      · have h17 : ¬ (y20_3 + 1 ≥ (I 1035)) := h17
        show w_W _ _ _ (30, [(0, .ref 16), (1, .int (Int32.ofInt (k))), (2, .int (Int32.ofInt (v9 + k))), (3, .int (Int32.ofInt (y20_3)))], [], M_20) _
        refine w_adv (n := 1) (F' := (31, [(0, .ref 16), (1, .int (Int32.ofInt (k))), (2, .int (Int32.ofInt (v9 + k))), (3, .int (Int32.ofInt (y20_3)))], [.ref 16], M_20)) rfl ?_
        refine w_gf (v := .ref 24) hR_20 rfl rfl rfl rfl ?_
        refine w_adv (n := 1) (F' := (35, [(0, .ref 16), (1, .int (Int32.ofInt (k))), (2, .int (Int32.ofInt (v9 + k))), (3, .int (Int32.ofInt (y20_3)))], [.int (Int32.ofInt (y20_3)), .ref 24], M_20)) rfl ?_
        refine w_call (cm := 21) (as := [(0, .ref 24), (1, .int (Int32.ofInt (y20_3)))]) (rest := []) (o := none) rfl (trivial) (c_at (y20_3) 24 10000 rfl (by decide) hR_20 ⟨by omega, by omega⟩) (fun r18 M19 q20 => ?_)
        rcases q20 with ⟨v21, e22, ⟨r23, r24⟩, e25, f26⟩
        rw [e22, e25]
        replace f26 : ((0 ≤ y20_3 ∧ y20_3 < (10000 : Int) ∧ v21 = ga20_24 (y20_3)) ∨ (¬ (0 ≤ y20_3 ∧ y20_3 < (10000 : Int)) ∧ v21 = -1)) := f26
        show w_W _ _ _ (38, [(0, .ref 16), (1, .int (Int32.ofInt (k))), (2, .int (Int32.ofInt (v9 + k))), (3, .int (Int32.ofInt (y20_3)))], [.int (Int32.ofInt (v21))], M_20) _
        refine w_adv (n := 2) (F' := (41, [(4, .int (Int32.ofInt (v21))), (0, .ref 16), (1, .int (Int32.ofInt (k))), (2, .int (Int32.ofInt (v9 + k))), (3, .int (Int32.ofInt (y20_3)))], [.ref 16], M_20)) rfl ?_
        refine w_gf (v := .ref 24) hR_20 rfl rfl rfl rfl ?_
        refine w_adv (n := 2) (F' := (46, [(4, .int (Int32.ofInt (v21))), (0, .ref 16), (1, .int (Int32.ofInt (k))), (2, .int (Int32.ofInt (v9 + k))), (3, .int (Int32.ofInt (y20_3)))], [.int (Int32.ofInt (1)), .int (Int32.ofInt (y20_3)), .ref 24], M_20)) rfl ?_
        refine w_add rfl ?_
        refine w_call (cm := 21) (as := [(0, .ref 24), (1, .int (Int32.ofInt (y20_3 + 1)))]) (rest := []) (o := none) rfl (trivial) (c_at (y20_3 + 1) 24 10000 rfl (by decide) hR_20 ⟨by omega, by omega⟩) (fun r27 M28 q29 => ?_)
        rcases q29 with ⟨v30, e31, ⟨r32, r33⟩, e34, f35⟩
        rw [e31, e34]
        replace f35 : ((0 ≤ y20_3 + 1 ∧ y20_3 + 1 < (10000 : Int) ∧ v30 = ga20_24 (y20_3 + 1)) ∨ (¬ (0 ≤ y20_3 + 1 ∧ y20_3 + 1 < (10000 : Int)) ∧ v30 = -1)) := f35
        show w_W _ _ _ (50, [(4, .int (Int32.ofInt (v21))), (0, .ref 16), (1, .int (Int32.ofInt (k))), (2, .int (Int32.ofInt (v9 + k))), (3, .int (Int32.ofInt (y20_3)))], [.int (Int32.ofInt (v30))], M_20) _
        refine w_adv (n := 3) (F' := (55, [(6, .int (Int32.ofInt (y20_3))), (5, .int (Int32.ofInt (v30))), (4, .int (Int32.ofInt (v21))), (0, .ref 16), (1, .int (Int32.ofInt (k))), (2, .int (Int32.ofInt (v9 + k))), (3, .int (Int32.ofInt (y20_3)))], [], M_20)) rfl ?_
        have lp55 : ∀ fu55 : Nat, ∀ (y55_6 : Int) (ga55_24 : Int → Int) (M_55 : w_M) (hR_55 : w_Rep w_TC fr X u l I (w_upF A 24 ga55_24) B C M_55), w_in y55_6 → -4 ≤ y55_6 ∧ y55_6 ≤ 10005 → y55_6 + 4 < (fu55 : Int) → w_W (z_P L xs) (d + 1) 165 (55, [(0, .ref 16), (1, .int (Int32.ofInt (k))), (2, .int (Int32.ofInt (v9 + k))), (3, .int (Int32.ofInt (y20_3))), (4, .int (Int32.ofInt (v21))), (5, .int (Int32.ofInt (v30))), (6, .int (Int32.ofInt (y55_6)))], [], M_55) (c_Kernel_sortPairs_Q fr X u l I A B C M k) := by
          intro fu55
          induction fu55 with
          | zero =>
            intro y55_6 ga55_24 M_55 hR_55 ⟨ra_y55_6, rb_y55_6⟩ hi55_0 hn55
            exfalso
            omega
          | succ fu55 ih55 =>
            intro y55_6 ga55_24 M_55 hR_55 ⟨ra_y55_6, rb_y55_6⟩ hi55_0 hn55
            refine w_adv (n := 2) (F' := (58, [(0, .ref 16), (1, .int (Int32.ofInt (k))), (2, .int (Int32.ofInt (v9 + k))), (3, .int (Int32.ofInt (y20_3))), (4, .int (Int32.ofInt (v21))), (5, .int (Int32.ofInt (v30))), (6, .int (Int32.ofInt (y55_6)))], [.int (Int32.ofInt (v9 + k)), .int (Int32.ofInt (y55_6))], M_55)) rfl ?_
            refine w_br2 (a := y55_6) (b := v9 + k) rfl rfl ⟨by omega, by omega⟩ ⟨by omega, by omega⟩ (fun h36 => ?_) (fun h36 => ?_)
            · have h36 : y55_6 ≤ v9 + k := h36
              show w_W _ _ _ (129, [(0, .ref 16), (1, .int (Int32.ofInt (k))), (2, .int (Int32.ofInt (v9 + k))), (3, .int (Int32.ofInt (y20_3))), (4, .int (Int32.ofInt (v21))), (5, .int (Int32.ofInt (v30))), (6, .int (Int32.ofInt (y55_6)))], [], M_55) _
              refine w_adv (n := 1) (F' := (130, [(0, .ref 16), (1, .int (Int32.ofInt (k))), (2, .int (Int32.ofInt (v9 + k))), (3, .int (Int32.ofInt (y20_3))), (4, .int (Int32.ofInt (v21))), (5, .int (Int32.ofInt (v30))), (6, .int (Int32.ofInt (y55_6)))], [.ref 16], M_55)) rfl ?_
              refine w_gf (v := .ref 24) hR_55 rfl rfl rfl rfl ?_
              refine w_adv (n := 2) (F' := (137, [(0, .ref 16), (1, .int (Int32.ofInt (k))), (2, .int (Int32.ofInt (v9 + k))), (3, .int (Int32.ofInt (y20_3))), (4, .int (Int32.ofInt (v21))), (5, .int (Int32.ofInt (v30))), (6, .int (Int32.ofInt (y55_6)))], [.int (Int32.ofInt (v21)), .int (Int32.ofInt (y55_6)), .ref 24], M_55)) rfl ?_
              refine w_call (cm := 25) (as := [(0, .ref 24), (1, .int (Int32.ofInt (y55_6))), (2, .int (Int32.ofInt (v21)))]) (rest := []) (o := none) rfl (trivial) (c_set (y55_6) (v21) 24 10000 rfl (by decide) hR_55 ⟨by omega, by omega⟩ ⟨by omega, by omega⟩) (fun r37 M38 q39 => ?_)
              rcases q39 with ⟨e40, hR39a⟩
              rw [e40]
              replace hR39a : w_Rep w_TC fr X u l I (w_upF (w_upF A 24 ga55_24) 24 (w_upG 10000 ga55_24 (y55_6) (v21))) B C M38 := hR39a
              show w_W _ _ _ (140, [(0, .ref 16), (1, .int (Int32.ofInt (k))), (2, .int (Int32.ofInt (v9 + k))), (3, .int (Int32.ofInt (y20_3))), (4, .int (Int32.ofInt (v21))), (5, .int (Int32.ofInt (v30))), (6, .int (Int32.ofInt (y55_6)))], [], M38) _
              refine w_adv (n := 1) (F' := (141, [(0, .ref 16), (1, .int (Int32.ofInt (k))), (2, .int (Int32.ofInt (v9 + k))), (3, .int (Int32.ofInt (y20_3))), (4, .int (Int32.ofInt (v21))), (5, .int (Int32.ofInt (v30))), (6, .int (Int32.ofInt (y55_6)))], [.ref 16], M38)) rfl ?_
              refine w_gf (v := .ref 24) hR39a rfl rfl rfl rfl ?_
              refine w_adv (n := 2) (F' := (147, [(0, .ref 16), (1, .int (Int32.ofInt (k))), (2, .int (Int32.ofInt (v9 + k))), (3, .int (Int32.ofInt (y20_3))), (4, .int (Int32.ofInt (v21))), (5, .int (Int32.ofInt (v30))), (6, .int (Int32.ofInt (y55_6)))], [.int (Int32.ofInt (1)), .int (Int32.ofInt (y55_6)), .ref 24], M38)) rfl ?_
              refine w_add rfl ?_
              refine w_adv (n := 1) (F' := (150, [(0, .ref 16), (1, .int (Int32.ofInt (k))), (2, .int (Int32.ofInt (v9 + k))), (3, .int (Int32.ofInt (y20_3))), (4, .int (Int32.ofInt (v21))), (5, .int (Int32.ofInt (v30))), (6, .int (Int32.ofInt (y55_6)))], [.int (Int32.ofInt (v30)), .int (Int32.ofInt (y55_6 + 1)), .ref 24], M38)) rfl ?_
              refine w_call (cm := 25) (as := [(0, .ref 24), (1, .int (Int32.ofInt (y55_6 + 1))), (2, .int (Int32.ofInt (v30)))]) (rest := []) (o := none) rfl (trivial) (c_set (y55_6 + 1) (v30) 24 10000 rfl (by decide) hR39a ⟨by omega, by omega⟩ ⟨by omega, by omega⟩) (fun r41 M42 q43 => ?_)
              rcases q43 with ⟨e44, hR43a⟩
              rw [e44]
              replace hR43a : w_Rep w_TC fr X u l I (w_upF (w_upF (w_upF A 24 ga55_24) 24 (w_upG 10000 ga55_24 (y55_6) (v21))) 24 (w_upG 10000 (w_upG 10000 ga55_24 (y55_6) (v21)) (y55_6 + 1) (v30))) B C M42 := hR43a
              show w_W _ _ _ (153, [(0, .ref 16), (1, .int (Int32.ofInt (k))), (2, .int (Int32.ofInt (v9 + k))), (3, .int (Int32.ofInt (y20_3))), (4, .int (Int32.ofInt (v21))), (5, .int (Int32.ofInt (v30))), (6, .int (Int32.ofInt (y55_6)))], [], M42) _
              refine w_inc (nL := 7) (a := y20_3) rfl rfl rfl (by decide) ?_
              refine w_adv (n := 1) (F' := (20, [(3, .int (Int32.ofInt (y20_3 + 2))), (0, .ref 16), (1, .int (Int32.ofInt (k))), (2, .int (Int32.ofInt (v9 + k))), (4, .int (Int32.ofInt (v21))), (5, .int (Int32.ofInt (v30))), (6, .int (Int32.ofInt (y55_6)))], [], M42)) rfl ?_
              refine w_ls (ls := [(0, .ref 16), (1, .int (Int32.ofInt (k))), (2, .int (Int32.ofInt (v9 + k))), (3, .int (Int32.ofInt (y20_3 + 2)))]) (show List.Nodup [0, 1, 2, 3] by decide) (show List.Nodup [3, 0, 1, 2, 4, 5, 6] by decide) (List.forall_mem_cons.mpr ⟨(List.Mem.tail _ (List.Mem.head _)), (List.forall_mem_cons.mpr ⟨(List.Mem.tail _ (List.Mem.tail _ (List.Mem.head _))), (List.forall_mem_cons.mpr ⟨(List.Mem.tail _ (List.Mem.tail _ (List.Mem.tail _ (List.Mem.head _)))), (List.forall_mem_cons.mpr ⟨(List.Mem.head _), (fun _ h => by cases h)⟩)⟩)⟩)⟩) ?_
              exact ih20  (y20_3 + 2) ((w_upG 10000 (w_upG 10000 ga55_24 (y55_6) (v21)) (y55_6 + 1) (v30))) M42 (w_Rep.up hR43a (show I = I from rfl) (show (w_upF A 24 (w_upG 10000 (w_upG 10000 ga55_24 (y55_6) (v21)) (y55_6 + 1) (v30))) = (w_upF (w_upF (w_upF A 24 ga55_24) 24 (w_upG 10000 ga55_24 (y55_6) (v21))) 24 (w_upG 10000 (w_upG 10000 ga55_24 (y55_6) (v21)) (y55_6 + 1) (v30))) from (funext fun s => if e0 : s = 24 then (by subst e0; rfl) else (by simp only [w_upF_ne e0])))) ⟨by omega, by omega⟩ (show -1 ≤ (y20_3 + 2) ∧ (y20_3 + 2) ≤ 10005 by omega) (show 10006 - (y20_3 + 2) < (fu20 : Int) by omega)
            · have h36 : ¬ (y55_6 ≤ v9 + k) := h36
              show w_W _ _ _ (61, [(0, .ref 16), (1, .int (Int32.ofInt (k))), (2, .int (Int32.ofInt (v9 + k))), (3, .int (Int32.ofInt (y20_3))), (4, .int (Int32.ofInt (v21))), (5, .int (Int32.ofInt (v30))), (6, .int (Int32.ofInt (y55_6)))], [], M_55) _
              refine w_adv (n := 3) (F' := (65, [(0, .ref 16), (1, .int (Int32.ofInt (k))), (2, .int (Int32.ofInt (v9 + k))), (3, .int (Int32.ofInt (y20_3))), (4, .int (Int32.ofInt (v21))), (5, .int (Int32.ofInt (v30))), (6, .int (Int32.ofInt (y55_6)))], [.ref 16, .int (Int32.ofInt (v21)), .ref 16], M_55)) rfl ?_
              refine w_gf (v := .ref 24) hR_55 rfl rfl rfl rfl ?_
              refine w_adv (n := 2) (F' := (71, [(0, .ref 16), (1, .int (Int32.ofInt (k))), (2, .int (Int32.ofInt (v9 + k))), (3, .int (Int32.ofInt (y20_3))), (4, .int (Int32.ofInt (v21))), (5, .int (Int32.ofInt (v30))), (6, .int (Int32.ofInt (y55_6)))], [.int (Int32.ofInt (2)), .int (Int32.ofInt (y55_6)), .ref 24, .int (Int32.ofInt (v21)), .ref 16], M_55)) rfl ?_
              refine w_sub rfl ?_
              refine w_call (cm := 21) (as := [(0, .ref 24), (1, .int (Int32.ofInt (y55_6 - 2)))]) (rest := [.int (Int32.ofInt (v21)), .ref 16]) (o := none) rfl (trivial) (c_at (y55_6 - 2) 24 10000 rfl (by decide) hR_55 ⟨by omega, by omega⟩) (fun r45 M46 q47 => ?_)
              rcases q47 with ⟨v48, e49, ⟨r50, r51⟩, e52, f53⟩
              rw [e49, e52]
              replace f53 : ((0 ≤ y55_6 - 2 ∧ y55_6 - 2 < (10000 : Int) ∧ v48 = ga55_24 (y55_6 - 2)) ∨ (¬ (0 ≤ y55_6 - 2 ∧ y55_6 - 2 < (10000 : Int)) ∧ v48 = -1)) := f53
              show w_W _ _ _ (75, [(0, .ref 16), (1, .int (Int32.ofInt (k))), (2, .int (Int32.ofInt (v9 + k))), (3, .int (Int32.ofInt (y20_3))), (4, .int (Int32.ofInt (v21))), (5, .int (Int32.ofInt (v30))), (6, .int (Int32.ofInt (y55_6)))], [.int (Int32.ofInt (v48)), .int (Int32.ofInt (v21)), .ref 16], M_55) _
              refine w_call (cm := 166) (as := [(0, .ref 16), (1, .int (Int32.ofInt (v21))), (2, .int (Int32.ofInt (v48)))]) (rest := []) (o := some (2, 16)) rfl (w_fitR hR_55 rfl) (c_Kernel_isBefore (v21) (v48) hR_55 (show 3 ≤ d by omega) ⟨by omega, by omega⟩ ⟨by omega, by omega⟩ (show 36 ≤ (I 200) ∧ (I 200) ≤ 419 ∧ 0 ≤ (I 202) ∧ (I 202) ≤ 24 by (repeat' apply And.intro) <;> first | assumption | omega) (show ∀ i, (A 5) i ≤ 24 by exact hLN)) (fun r54 M55 q56 => ?_)
              rcases q56 with ⟨e57, e58⟩ | ⟨e59, e60⟩
              · rw [e57, e58]
                show w_W _ _ _ (78, [(0, .ref 16), (1, .int (Int32.ofInt (k))), (2, .int (Int32.ofInt (v9 + k))), (3, .int (Int32.ofInt (y20_3))), (4, .int (Int32.ofInt (v21))), (5, .int (Int32.ofInt (v30))), (6, .int (Int32.ofInt (y55_6)))], [.int (Int32.ofInt (1))], M_55) _
                refine w_adv (n := 2) (F' := (82, [(0, .ref 16), (1, .int (Int32.ofInt (k))), (2, .int (Int32.ofInt (v9 + k))), (3, .int (Int32.ofInt (y20_3))), (4, .int (Int32.ofInt (v21))), (5, .int (Int32.ofInt (v30))), (6, .int (Int32.ofInt (y55_6)))], [.ref 16], M_55)) rfl ?_
                refine w_gf (v := .ref 24) hR_55 rfl rfl rfl rfl ?_
                refine w_adv (n := 2) (F' := (88, [(0, .ref 16), (1, .int (Int32.ofInt (k))), (2, .int (Int32.ofInt (v9 + k))), (3, .int (Int32.ofInt (y20_3))), (4, .int (Int32.ofInt (v21))), (5, .int (Int32.ofInt (v30))), (6, .int (Int32.ofInt (y55_6)))], [.ref 16, .int (Int32.ofInt (y55_6)), .ref 24], M_55)) rfl ?_
                refine w_gf (v := .ref 24) hR_55 rfl rfl rfl rfl ?_
                refine w_adv (n := 2) (F' := (94, [(0, .ref 16), (1, .int (Int32.ofInt (k))), (2, .int (Int32.ofInt (v9 + k))), (3, .int (Int32.ofInt (y20_3))), (4, .int (Int32.ofInt (v21))), (5, .int (Int32.ofInt (v30))), (6, .int (Int32.ofInt (y55_6)))], [.int (Int32.ofInt (2)), .int (Int32.ofInt (y55_6)), .ref 24, .int (Int32.ofInt (y55_6)), .ref 24], M_55)) rfl ?_
                refine w_sub rfl ?_
                refine w_call (cm := 21) (as := [(0, .ref 24), (1, .int (Int32.ofInt (y55_6 - 2)))]) (rest := [.int (Int32.ofInt (y55_6)), .ref 24]) (o := none) rfl (trivial) (c_at (y55_6 - 2) 24 10000 rfl (by decide) hR_55 ⟨by omega, by omega⟩) (fun r61 M62 q63 => ?_)
                rcases q63 with ⟨v64, e65, ⟨r66, r67⟩, e68, f69⟩
                rw [e65, e68]
                replace f69 : ((0 ≤ y55_6 - 2 ∧ y55_6 - 2 < (10000 : Int) ∧ v64 = ga55_24 (y55_6 - 2)) ∨ (¬ (0 ≤ y55_6 - 2 ∧ y55_6 - 2 < (10000 : Int)) ∧ v64 = -1)) := f69
                show w_W _ _ _ (98, [(0, .ref 16), (1, .int (Int32.ofInt (k))), (2, .int (Int32.ofInt (v9 + k))), (3, .int (Int32.ofInt (y20_3))), (4, .int (Int32.ofInt (v21))), (5, .int (Int32.ofInt (v30))), (6, .int (Int32.ofInt (y55_6)))], [.int (Int32.ofInt (v64)), .int (Int32.ofInt (y55_6)), .ref 24], M_55) _
                refine w_call (cm := 25) (as := [(0, .ref 24), (1, .int (Int32.ofInt (y55_6))), (2, .int (Int32.ofInt (v64)))]) (rest := []) (o := none) rfl (trivial) (c_set (y55_6) (v64) 24 10000 rfl (by decide) hR_55 ⟨by omega, by omega⟩ ⟨by omega, by omega⟩) (fun r70 M71 q72 => ?_)
                rcases q72 with ⟨e73, hR72a⟩
                rw [e73]
                replace hR72a : w_Rep w_TC fr X u l I (w_upF (w_upF A 24 ga55_24) 24 (w_upG 10000 ga55_24 (y55_6) (v64))) B C M71 := hR72a
                show w_W _ _ _ (101, [(0, .ref 16), (1, .int (Int32.ofInt (k))), (2, .int (Int32.ofInt (v9 + k))), (3, .int (Int32.ofInt (y20_3))), (4, .int (Int32.ofInt (v21))), (5, .int (Int32.ofInt (v30))), (6, .int (Int32.ofInt (y55_6)))], [], M71) _
                refine w_adv (n := 1) (F' := (102, [(0, .ref 16), (1, .int (Int32.ofInt (k))), (2, .int (Int32.ofInt (v9 + k))), (3, .int (Int32.ofInt (y20_3))), (4, .int (Int32.ofInt (v21))), (5, .int (Int32.ofInt (v30))), (6, .int (Int32.ofInt (y55_6)))], [.ref 16], M71)) rfl ?_
                refine w_gf (v := .ref 24) hR72a rfl rfl rfl rfl ?_
                refine w_adv (n := 2) (F' := (108, [(0, .ref 16), (1, .int (Int32.ofInt (k))), (2, .int (Int32.ofInt (v9 + k))), (3, .int (Int32.ofInt (y20_3))), (4, .int (Int32.ofInt (v21))), (5, .int (Int32.ofInt (v30))), (6, .int (Int32.ofInt (y55_6)))], [.int (Int32.ofInt (1)), .int (Int32.ofInt (y55_6)), .ref 24], M71)) rfl ?_
                refine w_add rfl ?_
                refine w_adv (n := 1) (F' := (110, [(0, .ref 16), (1, .int (Int32.ofInt (k))), (2, .int (Int32.ofInt (v9 + k))), (3, .int (Int32.ofInt (y20_3))), (4, .int (Int32.ofInt (v21))), (5, .int (Int32.ofInt (v30))), (6, .int (Int32.ofInt (y55_6)))], [.ref 16, .int (Int32.ofInt (y55_6 + 1)), .ref 24], M71)) rfl ?_
                refine w_gf (v := .ref 24) hR72a rfl rfl rfl rfl ?_
                refine w_adv (n := 2) (F' := (116, [(0, .ref 16), (1, .int (Int32.ofInt (k))), (2, .int (Int32.ofInt (v9 + k))), (3, .int (Int32.ofInt (y20_3))), (4, .int (Int32.ofInt (v21))), (5, .int (Int32.ofInt (v30))), (6, .int (Int32.ofInt (y55_6)))], [.int (Int32.ofInt (1)), .int (Int32.ofInt (y55_6)), .ref 24, .int (Int32.ofInt (y55_6 + 1)), .ref 24], M71)) rfl ?_
                refine w_sub rfl ?_
                refine w_call (cm := 21) (as := [(0, .ref 24), (1, .int (Int32.ofInt (y55_6 - 1)))]) (rest := [.int (Int32.ofInt (y55_6 + 1)), .ref 24]) (o := none) rfl (trivial) (c_at (y55_6 - 1) 24 10000 rfl (by decide) hR72a ⟨by omega, by omega⟩) (fun r74 M75 q76 => ?_)
                rcases q76 with ⟨v77, e78, ⟨r79, r80⟩, e81, f82⟩
                rw [e78, e81]
                replace f82 : ((0 ≤ y55_6 - 1 ∧ y55_6 - 1 < (10000 : Int) ∧ v77 = (w_upG 10000 ga55_24 (y55_6) (v64)) (y55_6 - 1)) ∨ (¬ (0 ≤ y55_6 - 1 ∧ y55_6 - 1 < (10000 : Int)) ∧ v77 = -1)) := f82
                show w_W _ _ _ (120, [(0, .ref 16), (1, .int (Int32.ofInt (k))), (2, .int (Int32.ofInt (v9 + k))), (3, .int (Int32.ofInt (y20_3))), (4, .int (Int32.ofInt (v21))), (5, .int (Int32.ofInt (v30))), (6, .int (Int32.ofInt (y55_6)))], [.int (Int32.ofInt (v77)), .int (Int32.ofInt (y55_6 + 1)), .ref 24], M71) _
                refine w_call (cm := 25) (as := [(0, .ref 24), (1, .int (Int32.ofInt (y55_6 + 1))), (2, .int (Int32.ofInt (v77)))]) (rest := []) (o := none) rfl (trivial) (c_set (y55_6 + 1) (v77) 24 10000 rfl (by decide) hR72a ⟨by omega, by omega⟩ ⟨by omega, by omega⟩) (fun r83 M84 q85 => ?_)
                rcases q85 with ⟨e86, hR85a⟩
                rw [e86]
                replace hR85a : w_Rep w_TC fr X u l I (w_upF (w_upF (w_upF A 24 ga55_24) 24 (w_upG 10000 ga55_24 (y55_6) (v64))) 24 (w_upG 10000 (w_upG 10000 ga55_24 (y55_6) (v64)) (y55_6 + 1) (v77))) B C M84 := hR85a
                show w_W _ _ _ (123, [(0, .ref 16), (1, .int (Int32.ofInt (k))), (2, .int (Int32.ofInt (v9 + k))), (3, .int (Int32.ofInt (y20_3))), (4, .int (Int32.ofInt (v21))), (5, .int (Int32.ofInt (v30))), (6, .int (Int32.ofInt (y55_6)))], [], M84) _
                refine w_inc (nL := 7) (a := y55_6) rfl rfl rfl (by decide) ?_
                refine w_adv (n := 1) (F' := (55, [(6, .int (Int32.ofInt (y55_6 + (-2)))), (0, .ref 16), (1, .int (Int32.ofInt (k))), (2, .int (Int32.ofInt (v9 + k))), (3, .int (Int32.ofInt (y20_3))), (4, .int (Int32.ofInt (v21))), (5, .int (Int32.ofInt (v30)))], [], M84)) rfl ?_
                refine w_ls (ls := [(0, .ref 16), (1, .int (Int32.ofInt (k))), (2, .int (Int32.ofInt (v9 + k))), (3, .int (Int32.ofInt (y20_3))), (4, .int (Int32.ofInt (v21))), (5, .int (Int32.ofInt (v30))), (6, .int (Int32.ofInt (y55_6 + (-2))))]) (show List.Nodup [0, 1, 2, 3, 4, 5, 6] by decide) (show List.Nodup [6, 0, 1, 2, 3, 4, 5] by decide) (List.forall_mem_cons.mpr ⟨(List.Mem.tail _ (List.Mem.head _)), (List.forall_mem_cons.mpr ⟨(List.Mem.tail _ (List.Mem.tail _ (List.Mem.head _))), (List.forall_mem_cons.mpr ⟨(List.Mem.tail _ (List.Mem.tail _ (List.Mem.tail _ (List.Mem.head _)))), (List.forall_mem_cons.mpr ⟨(List.Mem.tail _ (List.Mem.tail _ (List.Mem.tail _ (List.Mem.tail _ (List.Mem.head _))))), (List.forall_mem_cons.mpr ⟨(List.Mem.tail _ (List.Mem.tail _ (List.Mem.tail _ (List.Mem.tail _ (List.Mem.tail _ (List.Mem.head _)))))), (List.forall_mem_cons.mpr ⟨(List.Mem.tail _ (List.Mem.tail _ (List.Mem.tail _ (List.Mem.tail _ (List.Mem.tail _ (List.Mem.tail _ (List.Mem.head _))))))), (List.forall_mem_cons.mpr ⟨(List.Mem.head _), (fun _ h => by cases h)⟩)⟩)⟩)⟩)⟩)⟩)⟩) ?_
                exact ih55  (y55_6 + (-2)) ((w_upG 10000 (w_upG 10000 ga55_24 (y55_6) (v64)) (y55_6 + 1) (v77))) M84 (w_Rep.up hR85a (show I = I from rfl) (show (w_upF A 24 (w_upG 10000 (w_upG 10000 ga55_24 (y55_6) (v64)) (y55_6 + 1) (v77))) = (w_upF (w_upF (w_upF A 24 ga55_24) 24 (w_upG 10000 ga55_24 (y55_6) (v64))) 24 (w_upG 10000 (w_upG 10000 ga55_24 (y55_6) (v64)) (y55_6 + 1) (v77))) from (funext fun s => if e0 : s = 24 then (by subst e0; rfl) else (by simp only [w_upF_ne e0])))) ⟨by omega, by omega⟩ (show -4 ≤ (y55_6 + (-2)) ∧ (y55_6 + (-2)) ≤ 10005 by omega) (show (y55_6 + (-2)) + 4 < (fu55 : Int) by omega)
              · rw [e59, e60]
                show w_W _ _ _ (78, [(0, .ref 16), (1, .int (Int32.ofInt (k))), (2, .int (Int32.ofInt (v9 + k))), (3, .int (Int32.ofInt (y20_3))), (4, .int (Int32.ofInt (v21))), (5, .int (Int32.ofInt (v30))), (6, .int (Int32.ofInt (y55_6)))], [.int (Int32.ofInt (0))], M_55) _
                refine w_adv (n := 2) (F' := (130, [(0, .ref 16), (1, .int (Int32.ofInt (k))), (2, .int (Int32.ofInt (v9 + k))), (3, .int (Int32.ofInt (y20_3))), (4, .int (Int32.ofInt (v21))), (5, .int (Int32.ofInt (v30))), (6, .int (Int32.ofInt (y55_6)))], [.ref 16], M_55)) rfl ?_
                refine w_gf (v := .ref 24) hR_55 rfl rfl rfl rfl ?_
                refine w_adv (n := 2) (F' := (137, [(0, .ref 16), (1, .int (Int32.ofInt (k))), (2, .int (Int32.ofInt (v9 + k))), (3, .int (Int32.ofInt (y20_3))), (4, .int (Int32.ofInt (v21))), (5, .int (Int32.ofInt (v30))), (6, .int (Int32.ofInt (y55_6)))], [.int (Int32.ofInt (v21)), .int (Int32.ofInt (y55_6)), .ref 24], M_55)) rfl ?_
                refine w_call (cm := 25) (as := [(0, .ref 24), (1, .int (Int32.ofInt (y55_6))), (2, .int (Int32.ofInt (v21)))]) (rest := []) (o := none) rfl (trivial) (c_set (y55_6) (v21) 24 10000 rfl (by decide) hR_55 ⟨by omega, by omega⟩ ⟨by omega, by omega⟩) (fun r87 M88 q89 => ?_)
                rcases q89 with ⟨e90, hR89a⟩
                rw [e90]
                replace hR89a : w_Rep w_TC fr X u l I (w_upF (w_upF A 24 ga55_24) 24 (w_upG 10000 ga55_24 (y55_6) (v21))) B C M88 := hR89a
                show w_W _ _ _ (140, [(0, .ref 16), (1, .int (Int32.ofInt (k))), (2, .int (Int32.ofInt (v9 + k))), (3, .int (Int32.ofInt (y20_3))), (4, .int (Int32.ofInt (v21))), (5, .int (Int32.ofInt (v30))), (6, .int (Int32.ofInt (y55_6)))], [], M88) _
                refine w_adv (n := 1) (F' := (141, [(0, .ref 16), (1, .int (Int32.ofInt (k))), (2, .int (Int32.ofInt (v9 + k))), (3, .int (Int32.ofInt (y20_3))), (4, .int (Int32.ofInt (v21))), (5, .int (Int32.ofInt (v30))), (6, .int (Int32.ofInt (y55_6)))], [.ref 16], M88)) rfl ?_
                refine w_gf (v := .ref 24) hR89a rfl rfl rfl rfl ?_
                refine w_adv (n := 2) (F' := (147, [(0, .ref 16), (1, .int (Int32.ofInt (k))), (2, .int (Int32.ofInt (v9 + k))), (3, .int (Int32.ofInt (y20_3))), (4, .int (Int32.ofInt (v21))), (5, .int (Int32.ofInt (v30))), (6, .int (Int32.ofInt (y55_6)))], [.int (Int32.ofInt (1)), .int (Int32.ofInt (y55_6)), .ref 24], M88)) rfl ?_
                refine w_add rfl ?_
                refine w_adv (n := 1) (F' := (150, [(0, .ref 16), (1, .int (Int32.ofInt (k))), (2, .int (Int32.ofInt (v9 + k))), (3, .int (Int32.ofInt (y20_3))), (4, .int (Int32.ofInt (v21))), (5, .int (Int32.ofInt (v30))), (6, .int (Int32.ofInt (y55_6)))], [.int (Int32.ofInt (v30)), .int (Int32.ofInt (y55_6 + 1)), .ref 24], M88)) rfl ?_
                refine w_call (cm := 25) (as := [(0, .ref 24), (1, .int (Int32.ofInt (y55_6 + 1))), (2, .int (Int32.ofInt (v30)))]) (rest := []) (o := none) rfl (trivial) (c_set (y55_6 + 1) (v30) 24 10000 rfl (by decide) hR89a ⟨by omega, by omega⟩ ⟨by omega, by omega⟩) (fun r91 M92 q93 => ?_)
                rcases q93 with ⟨e94, hR93a⟩
                rw [e94]
                replace hR93a : w_Rep w_TC fr X u l I (w_upF (w_upF (w_upF A 24 ga55_24) 24 (w_upG 10000 ga55_24 (y55_6) (v21))) 24 (w_upG 10000 (w_upG 10000 ga55_24 (y55_6) (v21)) (y55_6 + 1) (v30))) B C M92 := hR93a
                show w_W _ _ _ (153, [(0, .ref 16), (1, .int (Int32.ofInt (k))), (2, .int (Int32.ofInt (v9 + k))), (3, .int (Int32.ofInt (y20_3))), (4, .int (Int32.ofInt (v21))), (5, .int (Int32.ofInt (v30))), (6, .int (Int32.ofInt (y55_6)))], [], M92) _
                refine w_inc (nL := 7) (a := y20_3) rfl rfl rfl (by decide) ?_
                refine w_adv (n := 1) (F' := (20, [(3, .int (Int32.ofInt (y20_3 + 2))), (0, .ref 16), (1, .int (Int32.ofInt (k))), (2, .int (Int32.ofInt (v9 + k))), (4, .int (Int32.ofInt (v21))), (5, .int (Int32.ofInt (v30))), (6, .int (Int32.ofInt (y55_6)))], [], M92)) rfl ?_
                refine w_ls (ls := [(0, .ref 16), (1, .int (Int32.ofInt (k))), (2, .int (Int32.ofInt (v9 + k))), (3, .int (Int32.ofInt (y20_3 + 2)))]) (show List.Nodup [0, 1, 2, 3] by decide) (show List.Nodup [3, 0, 1, 2, 4, 5, 6] by decide) (List.forall_mem_cons.mpr ⟨(List.Mem.tail _ (List.Mem.head _)), (List.forall_mem_cons.mpr ⟨(List.Mem.tail _ (List.Mem.tail _ (List.Mem.head _))), (List.forall_mem_cons.mpr ⟨(List.Mem.tail _ (List.Mem.tail _ (List.Mem.tail _ (List.Mem.head _)))), (List.forall_mem_cons.mpr ⟨(List.Mem.head _), (fun _ h => by cases h)⟩)⟩)⟩)⟩) ?_
                exact ih20  (y20_3 + 2) ((w_upG 10000 (w_upG 10000 ga55_24 (y55_6) (v21)) (y55_6 + 1) (v30))) M92 (w_Rep.up hR93a (show I = I from rfl) (show (w_upF A 24 (w_upG 10000 (w_upG 10000 ga55_24 (y55_6) (v21)) (y55_6 + 1) (v30))) = (w_upF (w_upF (w_upF A 24 ga55_24) 24 (w_upG 10000 ga55_24 (y55_6) (v21))) 24 (w_upG 10000 (w_upG 10000 ga55_24 (y55_6) (v21)) (y55_6 + 1) (v30))) from (funext fun s => if e0 : s = 24 then (by subst e0; rfl) else (by simp only [w_upF_ne e0])))) ⟨by omega, by omega⟩ (show -1 ≤ (y20_3 + 2) ∧ (y20_3 + 2) ≤ 10005 by omega) (show 10006 - (y20_3 + 2) < (fu20 : Int) by omega)
        refine w_ls (ls := [(0, .ref 16), (1, .int (Int32.ofInt (k))), (2, .int (Int32.ofInt (v9 + k))), (3, .int (Int32.ofInt (y20_3))), (4, .int (Int32.ofInt (v21))), (5, .int (Int32.ofInt (v30))), (6, .int (Int32.ofInt (y20_3)))]) (show List.Nodup [0, 1, 2, 3, 4, 5, 6] by decide) (show List.Nodup [6, 5, 4, 0, 1, 2, 3] by decide) (List.forall_mem_cons.mpr ⟨(List.Mem.tail _ (List.Mem.tail _ (List.Mem.tail _ (List.Mem.head _)))), (List.forall_mem_cons.mpr ⟨(List.Mem.tail _ (List.Mem.tail _ (List.Mem.tail _ (List.Mem.tail _ (List.Mem.head _))))), (List.forall_mem_cons.mpr ⟨(List.Mem.tail _ (List.Mem.tail _ (List.Mem.tail _ (List.Mem.tail _ (List.Mem.tail _ (List.Mem.head _)))))), (List.forall_mem_cons.mpr ⟨(List.Mem.tail _ (List.Mem.tail _ (List.Mem.tail _ (List.Mem.tail _ (List.Mem.tail _ (List.Mem.tail _ (List.Mem.head _))))))), (List.forall_mem_cons.mpr ⟨(List.Mem.tail _ (List.Mem.tail _ (List.Mem.head _))), (List.forall_mem_cons.mpr ⟨(List.Mem.tail _ (List.Mem.head _)), (List.forall_mem_cons.mpr ⟨(List.Mem.head _), (fun _ h => by cases h)⟩)⟩)⟩)⟩)⟩)⟩)⟩) ?_
        exact lp55 ((y20_3 + 4 : Int).toNat + 1)  (y20_3) (ga20_24) M_20 hR_20 ⟨by omega, by omega⟩ (show -4 ≤ y20_3 ∧ y20_3 ≤ 10005 by omega) (show y20_3 + 4 < (((y20_3 + 4 : Int).toNat + 1 : Nat) : Int) by omega)
  refine w_ls (ls := [(0, .ref 16), (1, .int (Int32.ofInt (k))), (2, .int (Int32.ofInt (v9 + k))), (3, .int (Int32.ofInt ((v9 + k) + 2)))]) (show List.Nodup [0, 1, 2, 3] by decide) (show List.Nodup [3, 2, 0, 1] by decide) (List.forall_mem_cons.mpr ⟨(List.Mem.tail _ (List.Mem.tail _ (List.Mem.head _))), (List.forall_mem_cons.mpr ⟨(List.Mem.tail _ (List.Mem.tail _ (List.Mem.tail _ (List.Mem.head _)))), (List.forall_mem_cons.mpr ⟨(List.Mem.tail _ (List.Mem.head _)), (List.forall_mem_cons.mpr ⟨(List.Mem.head _), (fun _ h => by cases h)⟩)⟩)⟩)⟩) ?_
  exact lp20 ((10006 - ((v9 + k) + 2) : Int).toNat + 1)  ((v9 + k) + 2) ((A 24)) M (w_Rep.up hR (show I = I from rfl) (show (w_upF A 24 (A 24)) = A from (funext fun s => if e0 : s = 24 then (by subst e0; rfl) else (by simp only [w_upF_ne e0])))) ⟨by omega, by omega⟩ (show -1 ≤ ((v9 + k) + 2) ∧ ((v9 + k) + 2) ≤ 10005 by omega) (show 10006 - ((v9 + k) + 2) < (((10006 - ((v9 + k) + 2) : Int).toNat + 1 : Nat) : Int) by omega)
def c_Kernel_clear_Q (fr : Nat → Bool) (X : Nat → Option (q_C (Nat → Int32))) (u l : Nat) (I : Nat → Int) (A : Nat → Int → Int) (B C : Nat → Nat) (M : w_M) : w_X → w_M → Prop := fun r M' => (∃ gv : Int → Int, ∃ zv : Int, (r = .inl none) ∧ (w_Rep w_TC fr X u l (w_up (w_up (w_up I 1034 (0)) 1035 (0)) 1036 (zv)) (w_upF A 25 gv) B C M'))
set_option maxHeartbeats 100000000 in
set_option maxRecDepth 100000 in
theorem c_Kernel_clear {L : Nat} {xs : Nat → Int32} {d : Nat} {fr : Nat → Bool} {X : Nat → Option (q_C (Nat → Int32))} {u l : Nat} {I : Nat → Int} {A : Nat → Int → Int} {B C : Nat → Nat} {M : w_M} (hR : w_Rep w_TC fr X u l I A B C M) (hd : 3 ≤ d) : w_W (z_P L xs) d 29 (0, [(0, .ref 16)], [], M) (c_Kernel_clear_Q fr X u l I A B C M) := by
  obtain ⟨d, rfl⟩ : ∃ d0, d = d0 + 1 := ⟨d - 1, by omega⟩
  refine w_adv (n := 2) (F' := (2, [(0, .ref 16)], [.int (Int32.ofInt (0)), .ref 16], M)) rfl ?_
  refine w_pf hR rfl rfl rfl rfl (show w_in (0) from ⟨by omega, by omega⟩) (fun h => absurd h (by decide)) (fun M1 hR2 => ?_)
  replace hR2 : w_Rep w_TC fr X u l (w_up I 1034 (0)) A B C M1 := hR2
  refine w_adv (n := 2) (F' := (7, [(0, .ref 16)], [.int (Int32.ofInt (0)), .ref 16], M1)) rfl ?_
  refine w_pf hR2 rfl rfl rfl rfl (show w_in (0) from ⟨by omega, by omega⟩) (fun h => absurd h (by decide)) (fun M3 hR4 => ?_)
  replace hR4 : w_Rep w_TC fr X u l (w_up (w_up I 1034 (0)) 1035 (0)) A B C M3 := hR4
  refine w_adv (n := 2) (F' := (12, [(0, .ref 16)], [.int (Int32.ofInt (0)), .ref 16], M3)) rfl ?_
  refine w_pf hR4 rfl rfl rfl rfl (show w_in (0) from ⟨by omega, by omega⟩) (fun h => absurd h (by decide)) (fun M5 hR6 => ?_)
  replace hR6 : w_Rep w_TC fr X u l (w_up (w_up (w_up I 1034 (0)) 1035 (0)) 1036 (0)) A B C M5 := hR6
  refine w_adv (n := 2) (F' := (17, [(1, .int (Int32.ofInt (0))), (0, .ref 16)], [], M5)) rfl ?_
  have lp17 : ∀ fu17 : Nat, ∀ (y17_1 : Int) (ga17_25 : Int → Int) (gi17_1036 : Int) (M_17 : w_M) (hR_17 : w_Rep w_TC fr X u l (w_up (w_up (w_up I 1034 (0)) 1035 (0)) 1036 (gi17_1036)) (w_upF A 25 ga17_25) B C M_17), w_in y17_1 → 0 ≤ y17_1 ∧ y17_1 ≤ 7 → 7 - y17_1 < (fu17 : Int) → w_W (z_P L xs) (d + 1) 29 (17, [(0, .ref 16), (1, .int (Int32.ofInt (y17_1)))], [], M_17) (c_Kernel_clear_Q fr X u l I A B C M) := by
    intro fu17
    induction fu17 with
    | zero =>
      intro y17_1 ga17_25 gi17_1036 M_17 hR_17 ⟨ra_y17_1, rb_y17_1⟩ hi17_0 hn17
      exfalso
      omega
    | succ fu17 ih17 =>
      intro y17_1 ga17_25 gi17_1036 M_17 hR_17 ⟨ra_y17_1, rb_y17_1⟩ hi17_0 hn17
      refine w_adv (n := 2) (F' := (20, [(0, .ref 16), (1, .int (Int32.ofInt (y17_1)))], [.int (Int32.ofInt (7)), .int (Int32.ofInt (y17_1))], M_17)) rfl ?_
      refine w_br2 (a := y17_1) (b := 7) rfl rfl ⟨by omega, by omega⟩ ⟨by omega, by omega⟩ (fun h7 => ?_) (fun h7 => ?_)
      · have h7 : y17_1 ≥ 7 := h7
        show w_W _ _ _ (42, [(0, .ref 16), (1, .int (Int32.ofInt (y17_1)))], [], M_17) _
        refine w_fin (r := .inl none) (M' := M_17) rfl ?_
        exact ⟨ga17_25, gi17_1036, rfl, hR_17⟩
      · have h7 : ¬ (y17_1 ≥ 7) := h7
        show w_W _ _ _ (23, [(0, .ref 16), (1, .int (Int32.ofInt (y17_1)))], [], M_17) _
        refine w_adv (n := 2) (F' := (25, [(0, .ref 16), (1, .int (Int32.ofInt (y17_1)))], [.ref 16, .ref 16], M_17)) rfl ?_
        refine w_gf (v := .ref 3) hR_17 rfl rfl rfl rfl ?_
        refine w_adv (n := 1) (F' := (29, [(0, .ref 16), (1, .int (Int32.ofInt (y17_1)))], [.int (Int32.ofInt (y17_1)), .ref 3, .ref 16], M_17)) rfl ?_
        refine w_call (cm := 30) (as := [(0, .ref 3), (1, .int (Int32.ofInt (y17_1)))]) (rest := [.ref 16]) (o := some (3, 3)) rfl (w_fitR hR_17 rfl) (c_entryOfBasis (y17_1) hR_17 (show 1 ≤ d by omega) ⟨by omega, by omega⟩ (show -1 ≤ y17_1 ∧ y17_1 ≤ 1000000 by first | assumption | omega)) (fun r8 M9 q10 => ?_)
        rcases q10 with ⟨v11, e12, ⟨r13, r14⟩, e15⟩
        rw [e12, e15]
        show w_W _ _ _ (32, [(0, .ref 16), (1, .int (Int32.ofInt (y17_1)))], [.int (Int32.ofInt (v11)), .ref 16], M_17) _
        refine w_call (cm := 31) (as := [(0, .ref 16), (1, .int (Int32.ofInt (v11)))]) (rest := []) (o := some (2, 16)) rfl (w_fitR hR_17 rfl) (c_Kernel_makeVariable (v11) hR_17 (show 2 ≤ d by omega) ⟨by omega, by omega⟩) (fun r16 M17 q18 => ?_)
        rcases q18 with ⟨e19, e20, f21⟩ | ⟨e22, hR18b, f23⟩
        · rw [e19, e20]
          replace f21 : 3107 ≤ gi17_1036 := f21
          show w_W _ _ _ (35, [(0, .ref 16), (1, .int (Int32.ofInt (y17_1)))], [.int (Int32.ofInt ((-1)))], M_17) _
          refine w_adv (n := 1) (F' := (36, [(0, .ref 16), (1, .int (Int32.ofInt (y17_1)))], [], M_17)) rfl ?_
          refine w_inc (nL := 2) (a := y17_1) rfl rfl rfl (by decide) ?_
          refine w_adv (n := 1) (F' := (17, [(1, .int (Int32.ofInt (y17_1 + 1))), (0, .ref 16)], [], M_17)) rfl ?_
          refine w_ls (ls := [(0, .ref 16), (1, .int (Int32.ofInt (y17_1 + 1)))]) (show List.Nodup [0, 1] by decide) (show List.Nodup [1, 0] by decide) (List.forall_mem_cons.mpr ⟨(List.Mem.tail _ (List.Mem.head _)), (List.forall_mem_cons.mpr ⟨(List.Mem.head _), (fun _ h => by cases h)⟩)⟩) ?_
          exact ih17  (y17_1 + 1) (ga17_25) (gi17_1036) M_17 hR_17 ⟨by omega, by omega⟩ (show 0 ≤ (y17_1 + 1) ∧ (y17_1 + 1) ≤ 7 by omega) (show 7 - (y17_1 + 1) < (fu17 : Int) by omega)
        · rw [e22]
          replace hR18b : w_Rep w_TC fr X u l (w_up (w_up (w_up I 1034 (0)) 1035 (0)) 1036 (gi17_1036 + 1)) (w_upF (w_upF A 25 ga17_25) 25 (w_upG 3107 ga17_25 (gi17_1036) (v11))) B C M17 := w_Rep.up hR18b (show (w_up (w_up (w_up I 1034 (0)) 1035 (0)) 1036 (gi17_1036 + 1)) = _ from (funext fun s => if e0 : s = 1034 then (by subst e0; rfl) else if e1 : s = 1035 then (by subst e1; rfl) else if e2 : s = 1036 then (by subst e2; rfl) else (by simp only [w_up_ne e0, w_up_ne e1, w_up_ne e2]))) rfl
          replace f23 : gi17_1036 < 3107 := f23
          show w_W _ _ _ (35, [(0, .ref 16), (1, .int (Int32.ofInt (y17_1)))], [.int (Int32.ofInt (gi17_1036))], M17) _
          refine w_adv (n := 1) (F' := (36, [(0, .ref 16), (1, .int (Int32.ofInt (y17_1)))], [], M17)) rfl ?_
          refine w_inc (nL := 2) (a := y17_1) rfl rfl rfl (by decide) ?_
          refine w_adv (n := 1) (F' := (17, [(1, .int (Int32.ofInt (y17_1 + 1))), (0, .ref 16)], [], M17)) rfl ?_
          refine w_ls (ls := [(0, .ref 16), (1, .int (Int32.ofInt (y17_1 + 1)))]) (show List.Nodup [0, 1] by decide) (show List.Nodup [1, 0] by decide) (List.forall_mem_cons.mpr ⟨(List.Mem.tail _ (List.Mem.head _)), (List.forall_mem_cons.mpr ⟨(List.Mem.head _), (fun _ h => by cases h)⟩)⟩) ?_
          exact ih17  (y17_1 + 1) ((w_upG 3107 ga17_25 (gi17_1036) (v11))) (gi17_1036 + 1) M17 (w_Rep.up hR18b (show (w_up (w_up (w_up I 1034 (0)) 1035 (0)) 1036 (gi17_1036 + 1)) = (w_up (w_up (w_up I 1034 (0)) 1035 (0)) 1036 (gi17_1036 + 1)) from rfl) (show (w_upF A 25 (w_upG 3107 ga17_25 (gi17_1036) (v11))) = (w_upF (w_upF A 25 ga17_25) 25 (w_upG 3107 ga17_25 (gi17_1036) (v11))) from (funext fun s => if e0 : s = 25 then (by subst e0; rfl) else (by simp only [w_upF_ne e0])))) ⟨by omega, by omega⟩ (show 0 ≤ (y17_1 + 1) ∧ (y17_1 + 1) ≤ 7 by omega) (show 7 - (y17_1 + 1) < (fu17 : Int) by omega)
  refine w_ls (ls := [(0, .ref 16), (1, .int (Int32.ofInt (0)))]) (show List.Nodup [0, 1] by decide) (show List.Nodup [1, 0] by decide) (List.forall_mem_cons.mpr ⟨(List.Mem.tail _ (List.Mem.head _)), (List.forall_mem_cons.mpr ⟨(List.Mem.head _), (fun _ h => by cases h)⟩)⟩) ?_
  exact lp17 ((7 - 0 : Int).toNat + 1)  (0) ((A 25)) (0) M5 (w_Rep.up hR6 (show (w_up (w_up (w_up I 1034 (0)) 1035 (0)) 1036 (0)) = (w_up (w_up (w_up I 1034 (0)) 1035 (0)) 1036 (0)) from rfl) (show (w_upF A 25 (A 25)) = A from (funext fun s => if e0 : s = 25 then (by subst e0; rfl) else (by simp only [w_upF_ne e0])))) ⟨by omega, by omega⟩ (show 0 ≤ (0 : Int) ∧ (0 : Int) ≤ 7 by omega) (show 7 - 0 < (((7 - 0 : Int).toNat + 1 : Nat) : Int) by omega)
