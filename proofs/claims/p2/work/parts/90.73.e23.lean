set_option maxHeartbeats 100000000 in
set_option maxRecDepth 100000 in
theorem m_operate {L : Nat} {xs : Nat → Int32} {d : Nat} {fr : Nat → Bool} {X : Nat → Option (q_C (Nat → Int32))} {u l : Nat} {I : Nat → Int} {A : Nat → Int → Int} {B C : Nat → Nat} {M : w_M} {N : Int} (hA : m_ball L xs N) (e : Int) (x : Int) (lo : Int → Int × Int) (hR : w_Rep w_TM fr X u l I A B C M) (hd : 6 * (lo e).2 + 9 ≤ (d : Int)) (r_e : w_in e) (r_x : w_in x) (hN : ((I 4737) = (I 4609) ∧ (I 4865) = (I 4609) ∧ (I 4993) = (I 4609) ∧ (I 5121) = (I 4609) ∧ (I 5249) = (I 4609) ∧ (I 5377) = (I 4609) ∧ (I 3393) = (I 3905) ∧ (I 3521) = (I 3905) ∧ (I 3649) = (I 3905) ∧ (I 3777) = (I 3905) ∧ (I 4161) = (I 4033)) ∧ (0 ≤ (I 4609) ∧ 0 ≤ (I 4481) ∧ 0 ≤ (I 5505) ∧ 0 ≤ (I 5633) ∧ 0 ≤ (I 5761) ∧ 0 ≤ (I 5889) ∧ 0 ≤ (I 6017) ∧ 0 ≤ (I 3905) ∧ 0 ≤ (I 4033))) (hBI : m_BI I A) (hTR : m_TR lo I A) (hNA : m_NA I A) (hn : 0 ≤ e ∧ e < (I 3905)) (hk : (A 53) (e) = 9 ∨ (A 53) (e) = 10) (hbu : (I 4609) + 4 * (e - (lo e).1 + 1) ≤ 64001 ∧ (I 4481) + 4 * (e - (lo e).1 + 1) ≤ 64001 ∧ (I 5633) + 4 * (e - (lo e).1 + 1) ≤ 64001 ∧ (I 5889) + 4 * (e - (lo e).1 + 1) ≤ 64001 ∧ (I 6017) + 4 * (e - (lo e).1 + 1) ≤ 64001 ∧ (I 5505) + (I 5761) + 8 * (e - (lo e).1 + 1) ≤ 64001) (hm : e ≤ N) : w_W (z_P L xs) d 291 (0, [(0, .ref 43), (1, .int (Int32.ofInt (e))), (2, .int (Int32.ofInt (x)))], [], M) (m_operate_Q fr X u l I A B C M e x lo) := by
  obtain ⟨ra_e, rb_e⟩ := r_e
  obtain ⟨ra_x, rb_x⟩ := r_x
  obtain ⟨⟨nd1, nd2, nd3, nd4⟩, nd5⟩ := m_nd0 hTR (show 0 ≤ e by omega) (show e < (I 3905) by omega)
  obtain ⟨d, rfl⟩ : ∃ d0, d = d0 + 1 := ⟨d - 1, by omega⟩
  refine w_adv (n := 1) (F' := (1, [(0, .ref 43), (1, .int (Int32.ofInt (e))), (2, .int (Int32.ofInt (x)))], [.ref 43], M)) rfl ?_
  refine w_gf (v := .ref 92) hR rfl rfl rfl rfl ?_
  refine w_gf (v := .int (Int32.ofInt ((I 5889)))) hR rfl rfl rfl rfl ?_
  obtain ⟨r1, r2⟩ : -2147483648 ≤ (I 5889) ∧ (I 5889) ≤ 2147483647 := hR.ri 5889
  obtain ⟨r3a, r3b, r3c⟩ : 0 ≤ (I 5889) ∧ (I 5889) ≤ (C 92 : Int) ∧ (C 92 : Int) ≤ 131072 := hR.sz (show 92 ∈ w_TM.2.2 by decide)
  refine w_adv (n := 2) (F' := (9, [(3, .int (Int32.ofInt ((I 5889)))), (0, .ref 43), (1, .int (Int32.ofInt (e))), (2, .int (Int32.ofInt (x)))], [.ref 43], M)) rfl ?_
  refine w_gf (v := .ref 92) hR rfl rfl rfl rfl ?_
  refine w_adv (n := 1) (F' := (13, [(3, .int (Int32.ofInt ((I 5889)))), (0, .ref 43), (1, .int (Int32.ofInt (e))), (2, .int (Int32.ofInt (x)))], [.int (Int32.ofInt (e)), .ref 92], M)) rfl ?_
  refine w_call (cm := 207) (as := [(0, .ref 92), (1, .int (Int32.ofInt (e)))]) (rest := []) (o := some (10, 92)) rfl (w_fitR hR rfl) (m_add (e) 92 (by decide) rfl hR ⟨by omega, by omega⟩ (show (I 5889) < 65536 by first | assumption | omega)) (fun r4 M5 q6 => ?_)
  rcases q6 with ⟨g6a, b6a, c6a, e7, hR6a, f8, f9⟩
  rw [e7]
  replace hR6a : w_Rep w_TM fr X u l (w_up I 5889 ((I 5889) + 1)) (w_upF A 92 g6a) (w_upN B 92 b6a) (w_upN C 92 c6a) M5 := hR6a
  replace f8 : ∀ i, 0 ≤ i → i < (I 5889) → g6a i = (A 92) i := f8
  replace f9 : g6a ((I 5889)) = e := f9
  have cp10 : m_cp I A (w_upF A 92 g6a) := m_cp_92 (A' := A) (c := (I 5889)) m_cp_refl f8 (show (I 5889) ≤ (I 5889) by (repeat' apply And.intro) <;> first | assumption | omega) rfl
  skip
  show w_W _ _ _ (16, [(3, .int (Int32.ofInt ((I 5889)))), (0, .ref 43), (1, .int (Int32.ofInt (e))), (2, .int (Int32.ofInt (x)))], [.int (Int32.ofInt ((I 5889)))], M5) _
  refine w_adv (n := 2) (F' := (19, [(4, .int (Int32.ofInt ((I 5889)))), (3, .int (Int32.ofInt ((I 5889)))), (0, .ref 43), (1, .int (Int32.ofInt (e))), (2, .int (Int32.ofInt (x)))], [.ref 43], M5)) rfl ?_
  refine w_gf (v := .ref 92) hR6a rfl rfl rfl rfl ?_
  refine w_adv (n := 1) (F' := (23, [(4, .int (Int32.ofInt ((I 5889)))), (3, .int (Int32.ofInt ((I 5889)))), (0, .ref 43), (1, .int (Int32.ofInt (e))), (2, .int (Int32.ofInt (x)))], [.int (Int32.ofInt (x)), .ref 92], M5)) rfl ?_
  obtain ⟨r11a, r11b, r11c⟩ : 0 ≤ (I 5889) + 1 ∧ (I 5889) + 1 ≤ (c6a : Int) ∧ (c6a : Int) ≤ 131072 := hR6a.sz (show 92 ∈ w_TM.2.2 by decide)
  refine w_call (cm := 207) (as := [(0, .ref 92), (1, .int (Int32.ofInt (x)))]) (rest := []) (o := some (10, 92)) rfl (w_fitR hR6a rfl) (m_add (x) 92 (by decide) rfl hR6a ⟨by omega, by omega⟩ (show (I 5889) + 1 < 65536 by first | assumption | omega)) (fun r12 M13 q14 => ?_)
  rcases q14 with ⟨g14a, b14a, c14a, e15, hR14a, f16, f17⟩
  rw [e15]
  replace hR14a : w_Rep w_TM fr X u l (w_up I 5889 (((I 5889) + 1) + 1)) (w_upF (w_upF A 92 g6a) 92 g14a) (w_upN (w_upN B 92 b6a) 92 b14a) (w_upN (w_upN C 92 c6a) 92 c14a) M13 := w_Rep.up hR14a (show (w_up I 5889 (((I 5889) + 1) + 1)) = _ from (funext fun s => if e0 : s = 5889 then (by subst e0; rfl) else (by simp only [w_up_ne e0]))) rfl
  replace f16 : ∀ i, 0 ≤ i → i < (I 5889) + 1 → g14a i = g6a i := f16
  replace f17 : g14a ((I 5889) + 1) = x := f17
  have cp18 : m_cp I A (w_upF (w_upF A 92 g6a) 92 g14a) := m_cp_92 (A' := (w_upF A 92 g6a)) (c := (I 5889) + 1) cp10 f16 (show (I 5889) ≤ (I 5889) + 1 by (repeat' apply And.intro) <;> first | assumption | omega) rfl
  have chB : ∀ i, 0 ≤ i → i < (I 5889) → g14a i = (A 92) i := fun i q0 q1 => (f16 i q0 (by omega)).trans (f8 i q0 q1)
  have chX : g14a ((I 5889)) = e := (f16 _ (by omega) (by omega)).trans (f9)
  have ocB : m_oc A g14a lo e (I 5889) (((I 5889) + 1) + 1) (m_fst A (e)) := by rw [show (((I 5889) + 1) + 1) = (I 5889) + 2 by omega]; exact m_oc_push (ch := (A 92)) (x := e) m_oc_nil (by omega) (by omega) (by omega) chB chX ⟨by omega, by omega, by omega, by omega, by omega⟩
  show w_W _ _ _ (26, [(4, .int (Int32.ofInt ((I 5889)))), (3, .int (Int32.ofInt ((I 5889)))), (0, .ref 43), (1, .int (Int32.ofInt (e))), (2, .int (Int32.ofInt (x)))], [.int (Int32.ofInt ((I 5889) + 1))], M13) _
  refine w_adv (n := 3) (F' := (30, [(4, .int (Int32.ofInt ((I 5889) + 1))), (3, .int (Int32.ofInt ((I 5889)))), (0, .ref 43), (1, .int (Int32.ofInt (e))), (2, .int (Int32.ofInt (x)))], [.int (Int32.ofInt (e)), .ref 43], M13)) rfl ?_
  refine w_call (cm := 292) (as := [(0, .ref 43), (1, .int (Int32.ofInt (e)))]) (rest := []) (o := some (9, 43)) rfl (w_fitR hR14a rfl) (m_firstOf (e) hR14a (show 1 ≤ d by omega) ⟨by omega, by omega⟩ (show 0 ≤ e ∧ e < (I 3905) ∧ (I 3393) = (I 3905) ∧ (I 3521) = (I 3905) ∧ (I 3649) = (I 3905) by (repeat' apply And.intro) <;> first | assumption | omega)) (fun r19 M20 q21 => ?_)
  rcases q21 with ⟨v22, e23, ⟨r24, r25⟩, e26, f27⟩
  rw [e23, e26]
  replace f27 : v22 = (if (A 53) (e) = 9 then (A 57) (e) else (A 55) (e)) := f27
  have hv28 : v22 = m_fst A (e) := by rw [f27]; rfl
  obtain ⟨fo29, fo30, fo31, fo32, kF, kR, fo33⟩ := m_fst_ok hTR (show 0 ≤ e by omega) (show e < (I 3905) by omega) (by omega)
  show w_aft _ _ _ _ _ _ (.inl (some (v22))) _ _
  rw [hv28]
  show w_W _ _ _ (33, [(4, .int (Int32.ofInt ((I 5889) + 1))), (3, .int (Int32.ofInt ((I 5889)))), (0, .ref 43), (1, .int (Int32.ofInt (e))), (2, .int (Int32.ofInt (x)))], [.int (Int32.ofInt (m_fst A (e)))], M13) _
  refine w_adv (n := 1) (F' := (35, [(5, .int (Int32.ofInt (m_fst A (e)))), (4, .int (Int32.ofInt ((I 5889) + 1))), (3, .int (Int32.ofInt ((I 5889)))), (0, .ref 43), (1, .int (Int32.ofInt (e))), (2, .int (Int32.ofInt (x)))], [], M13)) rfl ?_
  refine w_ls (ls := [(0, .ref 43), (1, .int (Int32.ofInt (e))), (2, .int (Int32.ofInt (x))), (3, .int (Int32.ofInt ((I 5889)))), (5, .int (Int32.ofInt (m_fst A (e))))]) (show List.Nodup [0, 1, 2, 3, 5] by decide) (show List.Nodup [5, 4, 3, 0, 1, 2] by decide) (List.forall_mem_cons.mpr ⟨(List.Mem.tail _ (List.Mem.tail _ (List.Mem.tail _ (List.Mem.head _)))), (List.forall_mem_cons.mpr ⟨(List.Mem.tail _ (List.Mem.tail _ (List.Mem.tail _ (List.Mem.tail _ (List.Mem.head _))))), (List.forall_mem_cons.mpr ⟨(List.Mem.tail _ (List.Mem.tail _ (List.Mem.tail _ (List.Mem.tail _ (List.Mem.tail _ (List.Mem.head _)))))), (List.forall_mem_cons.mpr ⟨(List.Mem.tail _ (List.Mem.tail _ (List.Mem.head _))), (List.forall_mem_cons.mpr ⟨(List.Mem.head _), (fun _ h => by cases h)⟩)⟩)⟩)⟩)⟩) ?_
  exact m_operate_lp35 hA (e) (x) lo hd ra_e rb_e ra_x rb_x hN hBI hTR hNA hn hk hbu hm (((m_fst A (e)) : Int).toNat + 1) (1) (m_fst A (e)) (w_up I 5889 (((I 5889) + 1) + 1)) (w_upF (w_upF A 92 g6a) 92 g14a) (w_upN (w_upN B 92 b6a) 92 b14a) (w_upN (w_upN C 92 c6a) 92 c14a) M13 hR14a ⟨by omega, by omega⟩ (show m_gx I A (w_up I 5889 (((I 5889) + 1) + 1)) (w_upF (w_upF A 92 g6a) 92 g14a) by exact (show m_gx I A (w_up I 5889 (((I 5889) + 1) + 1)) (w_upF (w_upF A 92 g6a) 92 g14a) from (show m_gx I A (w_up I 5889 ((I 5889) + 1)) (w_upF A 92 g6a) from m_gx_refl))) (show (((I 4737) = (I 4609) ∧ (I 4865) = (I 4609) ∧ (I 4993) = (I 4609) ∧ (I 5121) = (I 4609) ∧ (I 5249) = (I 4609) ∧ (I 5377) = (I 4609) ∧ (I 3393) = (I 3905) ∧ (I 3521) = (I 3905) ∧ (I 3649) = (I 3905) ∧ (I 3777) = (I 3905) ∧ (I 4161) = (I 4033)) ∧ (0 ≤ (I 4609) ∧ 0 ≤ (I 4481) ∧ 0 ≤ (I 5505) ∧ 0 ≤ (I 5633) ∧ 0 ≤ (I 5761) ∧ 0 ≤ ((I 5889) + 1) + 1 ∧ 0 ≤ (I 6017) ∧ 0 ≤ (I 3905) ∧ 0 ≤ (I 4033))) ∧ ((I 3905) = (I 3905) ∧ (I 4033) = (I 4033) ∧ (I 6017) = (I 6017)) ∧ ((I 4609) = (I 4609) ∧ (I 5505) = (I 5505) ∧ (I 5633) = (I 5633)) ∧ (((I 5889) + 1) + 1 = (I 5889) + 2 * 1 ∧ 1 ≤ 1 ∧ 1 ≤ e - (m_fst A (e))) ∧ ((I 4481) + 1 = (I 4481) + 1 ∧ (I 5761) + 1 = (I 5761) + 1) ∧ (0 ≤ (m_fst A (e)) ∧ (lo e).1 ≤ (lo ((m_fst A (e)))).1 ∧ (lo ((m_fst A (e)))).1 ≤ (m_fst A (e)) ∧ (m_fst A (e)) < e ∧ (lo ((m_fst A (e)))).2 ≤ (lo e).2) by (repeat' apply And.intro) <;> first | assumption | omega) (show m_BI (w_up I 5889 (((I 5889) + 1) + 1)) (w_upF (w_upF A 92 g6a) 92 g14a) by exact (show m_BI (w_up I 5889 (((I 5889) + 1) + 1)) (w_upF (w_upF A 92 g6a) 92 g14a) from (show m_BI (w_up I 5889 ((I 5889) + 1)) (w_upF A 92 g6a) from hBI))) (show m_cp I A (w_upF (w_upF A 92 g6a) 92 g14a) by exact cp18) (show m_oc A g14a lo e (I 5889) (((I 5889) + 1) + 1) ((m_fst A (e))) by exact ocB) (show t_E ((A 53) ((m_fst A (e)))) by exact kF) (show ((A 53) ((m_fst A (e))) = 9 ∨ (A 53) ((m_fst A (e))) = 10) ∨ (lo ((m_fst A (e)))).2 < (lo e).2 by exact Or.elim kR (fun q => Or.inl q) (fun q => Or.inr (by omega))) (show (m_fst A (e)) < ((((m_fst A (e)) : Int).toNat + 1 : Nat) : Int) by omega)
