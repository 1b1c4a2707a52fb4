def m_slot_Q (fr : Nat → Bool) (X : Nat → Option (q_C (Nat → Int32))) (u l : Nat) (I : Nat → Int) (A : Nat → Int → Int) (B C : Nat → Nat) (M : w_M) (feature : Int) (mark : Int) (n : Int) (lo : Int → Int) : w_X → w_M → Prop := fun r M' => (∃ v : Int, ∃ lo' : Int → Int, ∃ (I' : Nat → Int) (A' : Nat → Int → Int) (B' C' : Nat → Nat), (r = .inl (some v)) ∧ (w_in v) ∧ (w_Rep w_TM fr X u l I' A' B' C' M') ∧ (m_fx I A I' A') ∧ (((0 ≤ (I' 2774) ∧ (I' 2774) < (I' 2754) ∧ (I' 2754) ≤ 1501 ∧ 0 ≤ (I' 2775) ∧ (I' 2775) ≤ 24) ∧ ((I' 3393) = (I' 3905) ∧ (I' 3521) = (I' 3905) ∧ (I' 3649) = (I' 3905) ∧ (I' 3777) = (I' 3905) ∧ 0 ≤ (I' 3905) ∧ (I' 3905) ≤ 3 * (I' 2774)) ∧ ((I' 4161) = (I' 4033) ∧ 7 ≤ (I' 4289) ∧ (I' 4289) ≤ (I' 4033) ∧ (I' 4033) ≤ 7 + (I' 2774)) ∧ 0 ≤ (I' 5889) ∧ (I' 5889) ≤ (I' 2774)) ∧ ((I' 2754) = (I 2754) ∧ (I 2774) + 1 ≤ (I' 2774) ∧ (I' 2775) = (I 2775) ∧ (I 4289) ≤ (I' 4289) ∧ (I' 5889) = (I 5889)) ∧ ((I' 3905) + 1 ≤ (I 3905) + 3 * ((I' 2774) - (I 2774)) ∧ (I 3905) ≤ v ∧ v + 1 = (I' 3905) ∧ (I 4033) ≤ (I' 4033) ∧ (I' 4033) ≤ (I 4033) + ((I' 2774) - (I 2774)))) ∧ (m_SC I' A') ∧ (m_TR lo' I' A') ∧ (m_ST lo I A lo' I' A') ∧ ((fun k => k = 27) ((A' 53) (v))) ∧ (m_rt lo' (I' 3905) v)) ∨ (∃ (I' : Nat → Int) (A' : Nat → Int → Int) (B' C' : Nat → Nat), (r = .inr 69) ∧ (w_Rep w_TM fr X u l I' A' B' C' M') ∧ (m_fx I A I' A'))
set_option maxRecDepth 100000 in
theorem m_slot {L : Nat} {xs : Nat → Int32} {d : Nat} {fr : Nat → Bool} {X : Nat → Option (q_C (Nat → Int32))} {u l : Nat} {I : Nat → Int} {A : Nat → Int → Int} {B C : Nat → Nat} {M : w_M} (feature : Int) (mark : Int) (n : Int) (lo : Int → Int) (hR : w_Rep w_TM fr X u l I A B C M) (hd : 20 * (24 - (I 2775)) + 8 ≤ (d : Int)) (r_feature : w_in feature) (r_mark : w_in mark) (r_n : w_in n) (hTK : m_TK I A) (hNU : (0 ≤ (I 2774) ∧ (I 2774) < (I 2754) ∧ (I 2754) ≤ 1501 ∧ 0 ≤ (I 2775) ∧ (I 2775) ≤ 24) ∧ ((I 3393) = (I 3905) ∧ (I 3521) = (I 3905) ∧ (I 3649) = (I 3905) ∧ (I 3777) = (I 3905) ∧ 0 ≤ (I 3905) ∧ (I 3905) ≤ 3 * (I 2774)) ∧ ((I 4161) = (I 4033) ∧ 7 ≤ (I 4289) ∧ (I 4289) ≤ (I 4033) ∧ (I 4033) ≤ 7 + (I 2774)) ∧ 0 ≤ (I 5889) ∧ (I 5889) ≤ (I 2774)) (hSC : m_SC I A) (hTR : m_TR lo I A) (hm : 0 ≤ mark ∧ mark ≤ (I 4289)) : w_W (z_P L xs) d 258 (0, [(0, .ref 43), (1, .int (Int32.ofInt (feature))), (2, .int (Int32.ofInt (mark))), (3, .int (Int32.ofInt (n)))], [], M) (m_slot_Q fr X u l I A B C M feature mark n lo) := by
  obtain ⟨ra_feature, rb_feature⟩ := r_feature
  obtain ⟨ra_mark, rb_mark⟩ := r_mark
  obtain ⟨ra_n, rb_n⟩ := r_n
  obtain ⟨d, rfl⟩ : ∃ d0, d = d0 + 1 := ⟨d - 1, by omega⟩
  refine w_adv (n := 1) (F' := (1, [(0, .ref 43), (1, .int (Int32.ofInt (feature))), (2, .int (Int32.ofInt (mark))), (3, .int (Int32.ofInt (n)))], [.ref 43], M)) rfl ?_
  refine w_gf (v := .ref 45) hR rfl rfl rfl rfl ?_
  refine w_adv (n := 1) (F' := (5, [(0, .ref 43), (1, .int (Int32.ofInt (feature))), (2, .int (Int32.ofInt (mark))), (3, .int (Int32.ofInt (n)))], [.ref 43, .ref 45], M)) rfl ?_
  refine w_gf (v := .int (Int32.ofInt ((I 2774)))) hR rfl rfl rfl rfl ?_
  obtain ⟨r1, r2⟩ : -2147483648 ≤ (I 2774) ∧ (I 2774) ≤ 2147483647 := hR.ri 2774
  refine w_la (n := 1502) hR rfl (Or.inl ⟨rfl, rfl⟩) rfl (show 0 ≤ (I 2774) by omega) (show (I 2774) < (1502 : Int) by omega) (by decide) ?_
  obtain ⟨r3, r4⟩ : -2147483648 ≤ (A 45) ((I 2774)) ∧ (A 45) ((I 2774)) ≤ 2147483647 := hR.ra 45 ((I 2774))
  show w_W _ _ _ (9, [(0, .ref 43), (1, .int (Int32.ofInt (feature))), (2, .int (Int32.ofInt (mark))), (3, .int (Int32.ofInt (n)))], [.int (Int32.ofInt ((A 45) ((I 2774))))], M) _
  refine w_adv (n := 1) (F' := (10, [(0, .ref 43), (1, .int (Int32.ofInt (feature))), (2, .int (Int32.ofInt (mark))), (3, .int (Int32.ofInt (n)))], [.int (Int32.ofInt (3)), .int (Int32.ofInt ((A 45) ((I 2774))))], M)) rfl ?_
  refine w_br2 (a := (A 45) ((I 2774))) (b := 3) rfl rfl ⟨by omega, by omega⟩ ⟨by omega, by omega⟩ (fun h5 => ?_) (fun h5 => ?_)
  · have h5 : ¬ (A 45) ((I 2774)) = 3 := h5
    show w_W _ _ _ (45, [(0, .ref 43), (1, .int (Int32.ofInt (feature))), (2, .int (Int32.ofInt (mark))), (3, .int (Int32.ofInt (n)))], [], M) _
    refine w_adv (n := 1) (F' := (46, [(0, .ref 43), (1, .int (Int32.ofInt (feature))), (2, .int (Int32.ofInt (mark))), (3, .int (Int32.ofInt (n)))], [.ref 43], M)) rfl ?_
    refine w_gf (v := .ref 45) hR rfl rfl rfl rfl ?_
    refine w_adv (n := 1) (F' := (50, [(0, .ref 43), (1, .int (Int32.ofInt (feature))), (2, .int (Int32.ofInt (mark))), (3, .int (Int32.ofInt (n)))], [.ref 43, .ref 45], M)) rfl ?_
    refine w_gf (v := .int (Int32.ofInt ((I 2774)))) hR rfl rfl rfl rfl ?_
    refine w_la (n := 1502) hR rfl (Or.inl ⟨rfl, rfl⟩) rfl (show 0 ≤ (I 2774) by omega) (show (I 2774) < (1502 : Int) by omega) (by decide) ?_
    show w_W _ _ _ (54, [(0, .ref 43), (1, .int (Int32.ofInt (feature))), (2, .int (Int32.ofInt (mark))), (3, .int (Int32.ofInt (n)))], [.int (Int32.ofInt ((A 45) ((I 2774))))], M) _
    refine w_adv (n := 1) (F' := (55, [(0, .ref 43), (1, .int (Int32.ofInt (feature))), (2, .int (Int32.ofInt (mark))), (3, .int (Int32.ofInt (n)))], [.int (Int32.ofInt (2)), .int (Int32.ofInt ((A 45) ((I 2774))))], M)) rfl ?_
    refine w_br2 (a := (A 45) ((I 2774))) (b := 2) rfl rfl ⟨by omega, by omega⟩ ⟨by omega, by omega⟩ (fun h6 => ?_) (fun h6 => ?_)
    · have h6 : (A 45) ((I 2774)) = 2 := h6
      have w7 : (I 2774) + 1 < (I 2754) := m_TK_lt hTK (by omega) (by omega) (by omega)
      show w_W _ _ _ (63, [(0, .ref 43), (1, .int (Int32.ofInt (feature))), (2, .int (Int32.ofInt (mark))), (3, .int (Int32.ofInt (n)))], [], M) _
      refine w_adv (n := 6) (F' := (70, [(0, .ref 43), (1, .int (Int32.ofInt (feature))), (2, .int (Int32.ofInt (mark))), (3, .int (Int32.ofInt (n)))], [.int (Int32.ofInt (n)), .int (Int32.ofInt (mark)), .ref 43, .int (Int32.ofInt (feature)), .int (Int32.ofInt (27)), .ref 43], M)) rfl ?_
      refine w_call (cm := 237) (as := [(0, .ref 43), (1, .int (Int32.ofInt (mark))), (2, .int (Int32.ofInt (n)))]) (rest := [.int (Int32.ofInt (feature)), .int (Int32.ofInt (27)), .ref 43]) (o := some (9, 43)) rfl (w_fitR hR rfl) (m_bind (mark) (n) (lo) hR (show 20 * (24 - (I 2775)) + 6 ≤ (d : Int) by omega) ⟨by omega, by omega⟩ ⟨by omega, by omega⟩ (show m_TK I A by exact hTK) (show (0 ≤ (I 2774) ∧ (I 2774) < (I 2754) ∧ (I 2754) ≤ 1501 ∧ 0 ≤ (I 2775) ∧ (I 2775) ≤ 24) ∧ ((I 3393) = (I 3905) ∧ (I 3521) = (I 3905) ∧ (I 3649) = (I 3905) ∧ (I 3777) = (I 3905) ∧ 0 ≤ (I 3905) ∧ (I 3905) ≤ 3 * (I 2774)) ∧ ((I 4161) = (I 4033) ∧ 7 ≤ (I 4289) ∧ (I 4289) ≤ (I 4033) ∧ (I 4033) ≤ 7 + (I 2774)) ∧ 0 ≤ (I 5889) ∧ (I 5889) ≤ (I 2774) by (repeat' apply And.intro) <;> omega) (show m_SC I A by exact hSC) (show m_TR lo I A by exact hTR) (show (A 45) ((I 2774)) = 2 by first | assumption | omega) (show 0 ≤ mark ∧ mark ≤ (I 4289) by first | assumption | omega)) (fun r8 M9 q10 => ?_)
      rcases q10 with ⟨v11, lo12, I10a, A10a, B10a, C10a, e13, ⟨r14, r15⟩, hR10a, f16, f17, f18, f19, f20, f21, f22⟩ | ⟨I10b, A10b, B10b, C10b, e23, hR10b, f24⟩
      · rw [e13]
        replace hR10a : w_Rep w_TM fr X u l I10a A10a B10a C10a M9 := hR10a
        replace f16 : m_fx I A I10a A10a := f16
        replace f17 : ((0 ≤ (I10a 2774) ∧ (I10a 2774) < (I10a 2754) ∧ (I10a 2754) ≤ 1501 ∧ 0 ≤ (I10a 2775) ∧ (I10a 2775) ≤ 24) ∧ ((I10a 3393) = (I10a 3905) ∧ (I10a 3521) = (I10a 3905) ∧ (I10a 3649) = (I10a 3905) ∧ (I10a 3777) = (I10a 3905) ∧ 0 ≤ (I10a 3905) ∧ (I10a 3905) ≤ 3 * (I10a 2774)) ∧ ((I10a 4161) = (I10a 4033) ∧ 7 ≤ (I10a 4289) ∧ (I10a 4289) ≤ (I10a 4033) ∧ (I10a 4033) ≤ 7 + (I10a 2774)) ∧ 0 ≤ (I10a 5889) ∧ (I10a 5889) ≤ (I10a 2774)) ∧ ((I10a 2754) = (I 2754) ∧ (I 2774) + 1 ≤ (I10a 2774) ∧ (I10a 2775) = (I 2775) ∧ (I10a 4289) = (I 4289) + 1 ∧ (I10a 5889) = (I 5889)) ∧ ((I10a 3905) + 2 ≤ (I 3905) + 3 * ((I10a 2774) - (I 2774)) ∧ (I 3905) ≤ v11 ∧ v11 + 1 = (I10a 3905) ∧ (I 4033) ≤ (I10a 4033) ∧ (I10a 4033) ≤ (I 4033) + ((I10a 2774) - (I 2774))) := f17
        replace f18 : m_SC I10a A10a := f18
        replace f19 : m_TR lo12 I10a A10a := f19
        replace f20 : m_ST lo I A lo12 I10a A10a := f20
        replace f21 : (fun k => k = 28) ((A10a 53) (v11)) := f21
        replace f22 : m_rt lo12 (I10a 3905) v11 := f22
        have tk25 : m_TK I10a A10a := m_TK_fx f16 hTK
        have s26 : m_ST lo I A lo12 I10a A10a := f20
        have k27 : m_kd lo12 I10a A10a (I 3905) v11 (fun k => k = 28) := m_kd_of f20 f19 (by omega) (by omega) (by omega) f21
        have j28 := k27.1
        show w_W _ _ _ (73, [(0, .ref 43), (1, .int (Int32.ofInt (feature))), (2, .int (Int32.ofInt (mark))), (3, .int (Int32.ofInt (n)))], [.int (Int32.ofInt (v11)), .int (Int32.ofInt (feature)), .int (Int32.ofInt (27)), .ref 43], M9) _
        refine w_adv (n := 1) (F' := (74, [(0, .ref 43), (1, .int (Int32.ofInt (feature))), (2, .int (Int32.ofInt (mark))), (3, .int (Int32.ofInt (n)))], [.int (Int32.ofInt (0)), .int (Int32.ofInt (v11)), .int (Int32.ofInt (feature)), .int (Int32.ofInt (27)), .ref 43], M9)) rfl ?_
        refine w_call (cm := 239) (as := [(0, .ref 43), (1, .int (Int32.ofInt (27))), (2, .int (Int32.ofInt (feature))), (3, .int (Int32.ofInt (v11))), (4, .int (Int32.ofInt (0)))]) (rest := []) (o := some (9, 43)) rfl (w_fitR hR10a rfl) (m_node (27) (feature) (v11) (0) hR10a (show 2 ≤ d by omega) ⟨by omega, by omega⟩ ⟨by omega, by omega⟩ ⟨by omega, by omega⟩ ⟨by omega, by omega⟩ (show (I10a 3393) = (I10a 3905) by first | assumption | omega) (show (I10a 3521) = (I10a 3905) by first | assumption | omega) (show (I10a 3649) = (I10a 3905) by first | assumption | omega) (show (I10a 3777) = (I10a 3905) by first | assumption | omega) (show (I10a 3905) < 65536 by first | assumption | omega)) (fun r29 M30 q31 => ?_)
        rcases q31 with ⟨v32, I31a, A31a, B31a, C31a, e33, ⟨r34, r35⟩, hR31a, f36, f37⟩
        rw [e33]
        replace hR31a : w_Rep w_TM fr X u l I31a A31a B31a C31a M30 := hR31a
        replace f36 : m_fx I10a A10a I31a A31a := f36
        replace f37 : m_nd I10a A10a I31a A31a v32 27 feature v11 0 := f37
        have j38 : (v32 = (I10a 3905) ∧ (I31a 3905) = (I10a 3905) + 1 ∧ (I31a 3393) = (I10a 3393) + 1 ∧ (I31a 3521) = (I10a 3521) + 1 ∧ (I31a 3649) = (I10a 3649) + 1 ∧ (I31a 3777) = (I10a 3777) + 1) ∧ ((I31a 2774) = (I10a 2774) ∧ (I31a 2754) = (I10a 2754) ∧ (I31a 2775) = (I10a 2775) ∧ (I31a 4289) = (I10a 4289) ∧ (I31a 4033) = (I10a 4033) ∧ (I31a 4161) = (I10a 4161) ∧ (I31a 5889) = (I10a 5889)) := m_nd_num f37
        have tk39 : m_TK I31a A31a := m_TK_fx f36 tk25
        have sc40 := m_SC_nd f37 f18
        have tr41 : m_TR (t_up lo12 v32 (I 3905)) I31a A31a := m_TR_nd (show m_TR lo12 I10a A10a from f19) f37 (by omega) (by omega) (m_cl_ST (show m_ST lo I A lo12 I10a A10a from s26) hTR (by omega)) (t_N_mk27 t_up_same (by omega) (by omega) (Or.inr (m_ch f37 (by omega) k27)))
        have s42 := m_ST_nd (l := (I 3905)) (show m_ST lo I A lo12 I10a A10a from s26) f37 (show (I 3905) ≤ (I 3905) by omega) (show (I 3905) ≤ (I10a 3905) by omega)
        have k43 : m_kd (t_up lo12 v32 (I 3905)) I31a A31a (I 3905) v32 (fun k => k = 27) := m_kd_new f37 (by omega) (by omega) rfl
        have j44 := k43.1
        have rt45 : m_rt (t_up lo12 v32 (I 3905)) (I31a 3905) v32 := m_rt_new f37
        show w_W _ _ _ (77, [(0, .ref 43), (1, .int (Int32.ofInt (feature))), (2, .int (Int32.ofInt (mark))), (3, .int (Int32.ofInt (n)))], [.int (Int32.ofInt (v32))], M30) _
        refine w_fin (r := .inl (some (v32))) (M' := M30) rfl ?_
        exact Or.inl ⟨v32, (t_up lo12 v32 (I 3905)), I31a, A31a, B31a, C31a, rfl, ⟨by omega, by omega⟩, hR31a, (show m_fx I A I31a A31a by exact (m_fx_trans f16 f36)), (show ((0 ≤ (I31a 2774) ∧ (I31a 2774) < (I31a 2754) ∧ (I31a 2754) ≤ 1501 ∧ 0 ≤ (I31a 2775) ∧ (I31a 2775) ≤ 24) ∧ ((I31a 3393) = (I31a 3905) ∧ (I31a 3521) = (I31a 3905) ∧ (I31a 3649) = (I31a 3905) ∧ (I31a 3777) = (I31a 3905) ∧ 0 ≤ (I31a 3905) ∧ (I31a 3905) ≤ 3 * (I31a 2774)) ∧ ((I31a 4161) = (I31a 4033) ∧ 7 ≤ (I31a 4289) ∧ (I31a 4289) ≤ (I31a 4033) ∧ (I31a 4033) ≤ 7 + (I31a 2774)) ∧ 0 ≤ (I31a 5889) ∧ (I31a 5889) ≤ (I31a 2774)) ∧ ((I31a 2754) = (I 2754) ∧ (I 2774) + 1 ≤ (I31a 2774) ∧ (I31a 2775) = (I 2775) ∧ (I 4289) ≤ (I31a 4289) ∧ (I31a 5889) = (I 5889)) ∧ ((I31a 3905) + 1 ≤ (I 3905) + 3 * ((I31a 2774) - (I 2774)) ∧ (I 3905) ≤ v32 ∧ v32 + 1 = (I31a 3905) ∧ (I 4033) ≤ (I31a 4033) ∧ (I31a 4033) ≤ (I 4033) + ((I31a 2774) - (I 2774))) by (repeat' apply And.intro) <;> omega), (show m_SC I31a A31a by exact sc40), (show m_TR (t_up lo12 v32 (I 3905)) I31a A31a by exact tr41), (show m_ST lo I A (t_up lo12 v32 (I 3905)) I31a A31a by exact s42), (show (fun k => k = 27) ((A31a 53) (v32)) by exact (k43).2), (show m_rt (t_up lo12 v32 (I 3905)) (I31a 3905) v32 by exact rt45)⟩
      · rw [e23]
        replace hR10b : w_Rep w_TM fr X u l I10b A10b B10b C10b M9 := hR10b
        replace f24 : m_fx I A I10b A10b := f24
        exact Or.inr (⟨I10b, A10b, B10b, C10b, rfl, hR10b, (show m_fx I A I10b A10b by exact f24)⟩)
    · have h6 : ¬ ((A 45) ((I 2774)) = 2) := h6
      show w_W _ _ _ (58, [(0, .ref 43), (1, .int (Int32.ofInt (feature))), (2, .int (Int32.ofInt (mark))), (3, .int (Int32.ofInt (n)))], [], M) _
      refine w_adv (n := 2) (F' := (60, [(0, .ref 43), (1, .int (Int32.ofInt (feature))), (2, .int (Int32.ofInt (mark))), (3, .int (Int32.ofInt (n)))], [.int (Int32.ofInt (1)), .ref 43], M)) rfl ?_
      refine w_call (cm := 232) (as := [(0, .ref 43), (1, .int (Int32.ofInt (1)))]) (rest := []) (o := some (9, 43)) rfl (w_fitR hR rfl) (m_fail (1) hR ⟨by omega, by omega⟩ (show 0 ≤ (I 2774) ∧ (I 2774) < 1501 by omega) (show 1 ≤ 1 ∧ 1 ≤ 7 by first | assumption | omega)) (fun r46 M47 q48 => ?_)
      rcases q48 with ⟨I48a, A48a, B48a, C48a, e49, hR48a, f50⟩
      rw [e49]
      replace hR48a : w_Rep w_TM fr X u l I48a A48a B48a C48a M47 := hR48a
      replace f50 : m_fx I A I48a A48a := f50
      exact Or.inr (⟨I48a, A48a, B48a, C48a, rfl, hR48a, (show m_fx I A I48a A48a by exact f50)⟩)
  · have h5 : ¬ (¬ (A 45) ((I 2774)) = 3) := h5
    have w51 : (I 2774) + 1 < (I 2754) := m_TK_lt hTK (by omega) (by omega) (by omega)
    show w_W _ _ _ (13, [(0, .ref 43), (1, .int (Int32.ofInt (feature))), (2, .int (Int32.ofInt (mark))), (3, .int (Int32.ofInt (n)))], [], M) _
    refine w_adv (n := 2) (F' := (16, [(0, .ref 43), (1, .int (Int32.ofInt (feature))), (2, .int (Int32.ofInt (mark))), (3, .int (Int32.ofInt (n)))], [.int (Int32.ofInt (32)), .int (Int32.ofInt (n))], M)) rfl ?_
    refine w_br2 (a := n) (b := 32) rfl rfl ⟨by omega, by omega⟩ ⟨by omega, by omega⟩ (fun h52 => ?_) (fun h52 => ?_)
    · have h52 : n < 32 := h52
      show w_W _ _ _ (25, [(0, .ref 43), (1, .int (Int32.ofInt (feature))), (2, .int (Int32.ofInt (mark))), (3, .int (Int32.ofInt (n)))], [], M) _
      refine w_adv (n := 2) (F' := (27, [(0, .ref 43), (1, .int (Int32.ofInt (feature))), (2, .int (Int32.ofInt (mark))), (3, .int (Int32.ofInt (n)))], [.ref 43, .ref 43], M)) rfl ?_
      refine w_gf (v := .int (Int32.ofInt ((I 2774)))) hR rfl rfl rfl rfl ?_
      refine w_adv (n := 1) (F' := (31, [(0, .ref 43), (1, .int (Int32.ofInt (feature))), (2, .int (Int32.ofInt (mark))), (3, .int (Int32.ofInt (n)))], [.int (Int32.ofInt (1)), .int (Int32.ofInt ((I 2774))), .ref 43], M)) rfl ?_
      refine w_add rfl ?_
      refine w_pf hR rfl rfl rfl rfl (show w_in ((I 2774) + 1) from ⟨by omega, by omega⟩) (fun h => absurd h (by decide)) (fun M53 hR54 => ?_)
      replace hR54 : w_Rep w_TM fr X u l (w_up I 2774 ((I 2774) + 1)) A B C M53 := hR54
      refine w_adv (n := 5) (F' := (41, [(0, .ref 43), (1, .int (Int32.ofInt (feature))), (2, .int (Int32.ofInt (mark))), (3, .int (Int32.ofInt (n)))], [.int (Int32.ofInt (0)), .int (Int32.ofInt ((-1))), .int (Int32.ofInt (feature)), .int (Int32.ofInt (27)), .ref 43], M53)) rfl ?_
      refine w_call (cm := 239) (as := [(0, .ref 43), (1, .int (Int32.ofInt (27))), (2, .int (Int32.ofInt (feature))), (3, .int (Int32.ofInt ((-1)))), (4, .int (Int32.ofInt (0)))]) (rest := []) (o := some (9, 43)) rfl (w_fitR hR54 rfl) (m_node (27) (feature) ((-1)) (0) hR54 (show 2 ≤ d by omega) ⟨by omega, by omega⟩ ⟨by omega, by omega⟩ ⟨by omega, by omega⟩ ⟨by omega, by omega⟩ (show (I 3393) = (I 3905) by first | assumption | omega) (show (I 3521) = (I 3905) by first | assumption | omega) (show (I 3649) = (I 3905) by first | assumption | omega) (show (I 3777) = (I 3905) by first | assumption | omega) (show (I 3905) < 65536 by first | assumption | omega)) (fun r55 M56 q57 => ?_)
      rcases q57 with ⟨v58, I57a, A57a, B57a, C57a, e59, ⟨r60, r61⟩, hR57a, f62, f63⟩
      rw [e59]
      replace hR57a : w_Rep w_TM fr X u l I57a A57a B57a C57a M56 := hR57a
      replace f62 : m_fx (w_up I 2774 ((I 2774) + 1)) A I57a A57a := f62
      replace f63 : m_nd (w_up I 2774 ((I 2774) + 1)) A I57a A57a v58 27 feature (-1) 0 := f63
      have j64 : (v58 = (I 3905) ∧ (I57a 3905) = (I 3905) + 1 ∧ (I57a 3393) = (I 3393) + 1 ∧ (I57a 3521) = (I 3521) + 1 ∧ (I57a 3649) = (I 3649) + 1 ∧ (I57a 3777) = (I 3777) + 1) ∧ ((I57a 2774) = (I 2774) + 1 ∧ (I57a 2754) = (I 2754) ∧ (I57a 2775) = (I 2775) ∧ (I57a 4289) = (I 4289) ∧ (I57a 4033) = (I 4033) ∧ (I57a 4161) = (I 4161) ∧ (I57a 5889) = (I 5889)) := m_nd_num f63
      have tk65 : m_TK I57a A57a := m_TK_fx f62 hTK
      have sc66 := m_SC_nd f63 hSC
      have tr67 : m_TR (t_up lo v58 (I 3905)) I57a A57a := m_TR_nd (show m_TR lo (w_up I 2774 ((I 2774) + 1)) A from hTR) f63 (by omega) (by omega) (m_cl_ST (show m_ST lo I A lo (w_up I 2774 ((I 2774) + 1)) A from m_ST_refl) hTR (by omega)) (t_N_mk27 t_up_same (by omega) (by omega) (Or.inl rfl))
      have s68 := m_ST_nd (l := (I 3905)) (show m_ST lo I A lo (w_up I 2774 ((I 2774) + 1)) A from m_ST_refl) f63 (show (I 3905) ≤ (I 3905) by omega) (show (I 3905) ≤ (I 3905) by omega)
      have k69 : m_kd (t_up lo v58 (I 3905)) I57a A57a (I 3905) v58 (fun k => k = 27) := m_kd_new f63 (by omega) (by omega) rfl
      have j70 := k69.1
      have rt71 : m_rt (t_up lo v58 (I 3905)) (I57a 3905) v58 := m_rt_new f63
      show w_W _ _ _ (44, [(0, .ref 43), (1, .int (Int32.ofInt (feature))), (2, .int (Int32.ofInt (mark))), (3, .int (Int32.ofInt (n)))], [.int (Int32.ofInt (v58))], M56) _
      refine w_fin (r := .inl (some (v58))) (M' := M56) rfl ?_
      exact Or.inl ⟨v58, (t_up lo v58 (I 3905)), I57a, A57a, B57a, C57a, rfl, ⟨by omega, by omega⟩, hR57a, (show m_fx I A I57a A57a by exact f62), (show ((0 ≤ (I57a 2774) ∧ (I57a 2774) < (I57a 2754) ∧ (I57a 2754) ≤ 1501 ∧ 0 ≤ (I57a 2775) ∧ (I57a 2775) ≤ 24) ∧ ((I57a 3393) = (I57a 3905) ∧ (I57a 3521) = (I57a 3905) ∧ (I57a 3649) = (I57a 3905) ∧ (I57a 3777) = (I57a 3905) ∧ 0 ≤ (I57a 3905) ∧ (I57a 3905) ≤ 3 * (I57a 2774)) ∧ ((I57a 4161) = (I57a 4033) ∧ 7 ≤ (I57a 4289) ∧ (I57a 4289) ≤ (I57a 4033) ∧ (I57a 4033) ≤ 7 + (I57a 2774)) ∧ 0 ≤ (I57a 5889) ∧ (I57a 5889) ≤ (I57a 2774)) ∧ ((I57a 2754) = (I 2754) ∧ (I 2774) + 1 ≤ (I57a 2774) ∧ (I57a 2775) = (I 2775) ∧ (I 4289) ≤ (I57a 4289) ∧ (I57a 5889) = (I 5889)) ∧ ((I57a 3905) + 1 ≤ (I 3905) + 3 * ((I57a 2774) - (I 2774)) ∧ (I 3905) ≤ v58 ∧ v58 + 1 = (I57a 3905) ∧ (I 4033) ≤ (I57a 4033) ∧ (I57a 4033) ≤ (I 4033) + ((I57a 2774) - (I 2774))) by (repeat' apply And.intro) <;> omega), (show m_SC I57a A57a by exact sc66), (show m_TR (t_up lo v58 (I 3905)) I57a A57a by exact tr67), (show m_ST lo I A (t_up lo v58 (I 3905)) I57a A57a by exact s68), (show (fun k => k = 27) ((A57a 53) (v58)) by exact (k69).2), (show m_rt (t_up lo v58 (I 3905)) (I57a 3905) v58 by exact rt71)⟩
    · have h52 : ¬ (n < 32) := h52
      show w_W _ _ _ (19, [(0, .ref 43), (1, .int (Int32.ofInt (feature))), (2, .int (Int32.ofInt (mark))), (3, .int (Int32.ofInt (n)))], [], M) _
      refine w_adv (n := 2) (F' := (22, [(0, .ref 43), (1, .int (Int32.ofInt (feature))), (2, .int (Int32.ofInt (mark))), (3, .int (Int32.ofInt (n)))], [.int (Int32.ofInt (6)), .ref 43], M)) rfl ?_
      refine w_call (cm := 232) (as := [(0, .ref 43), (1, .int (Int32.ofInt (6)))]) (rest := []) (o := some (9, 43)) rfl (w_fitR hR rfl) (m_fail (6) hR ⟨by omega, by omega⟩ (show 0 ≤ (I 2774) ∧ (I 2774) < 1501 by omega) (show 1 ≤ 6 ∧ 6 ≤ 7 by first | assumption | omega)) (fun r72 M73 q74 => ?_)
      rcases q74 with ⟨I74a, A74a, B74a, C74a, e75, hR74a, f76⟩
      rw [e75]
      replace hR74a : w_Rep w_TM fr X u l I74a A74a B74a C74a M73 := hR74a
      replace f76 : m_fx I A I74a A74a := f76
      exact Or.inr (⟨I74a, A74a, B74a, C74a, rfl, hR74a, (show m_fx I A I74a A74a by exact f76)⟩)
def m_binds_Q (fr : Nat → Bool) (X : Nat → Option (q_C (Nat → Int32))) (u l : Nat) (I : Nat → Int) (A : Nat → Int → Int) (B C : Nat → Nat) (M : w_M) (lo : Int → Int) : w_X → w_M → Prop := fun r M' => (∃ v : Int, ∃ lo' : Int → Int, ∃ (I' : Nat → Int) (A' : Nat → Int → Int) (B' C' : Nat → Nat), (r = .inl (some v)) ∧ (w_in v) ∧ (w_Rep w_TM fr X u l I' A' B' C' M') ∧ (m_fx I A I' A') ∧ (((0 ≤ (I' 2774) ∧ (I' 2774) < (I' 2754) ∧ (I' 2754) ≤ 1501 ∧ 0 ≤ (I' 2775) ∧ (I' 2775) ≤ 24) ∧ ((I' 3393) = (I' 3905) ∧ (I' 3521) = (I' 3905) ∧ (I' 3649) = (I' 3905) ∧ (I' 3777) = (I' 3905) ∧ 0 ≤ (I' 3905) ∧ (I' 3905) ≤ 3 * (I' 2774)) ∧ ((I' 4161) = (I' 4033) ∧ 7 ≤ (I' 4289) ∧ (I' 4289) ≤ (I' 4033) ∧ (I' 4033) ≤ 7 + (I' 2774)) ∧ 0 ≤ (I' 5889) ∧ (I' 5889) ≤ (I' 2774)) ∧ ((I' 2754) = (I 2754) ∧ (I 2774) + 0 ≤ (I' 2774) ∧ (I' 2775) = (I 2775) ∧ (I 4289) ≤ (I' 4289) ∧ (I' 5889) = (I 5889)) ∧ ((I' 3905) + 0 ≤ (I 3905) + 3 * ((I' 2774) - (I 2774)) ∧ (I 3905) ≤ (I' 3905) ∧ -1 ≤ v ∧ v < (I' 3905) ∧ (I 4033) ≤ (I' 4033) ∧ (I' 4033) ≤ (I 4033) + ((I' 2774) - (I 2774)))) ∧ (m_SC I' A') ∧ (m_TR lo' I' A') ∧ (m_ST lo I A lo' I' A') ∧ (v = -1 ∨ m_kd lo' I' A' (I 3905) v (fun k => k = 28)) ∧ (v = -1 ∨ m_rt lo' (I' 3905) v)) ∨ (∃ (I' : Nat → Int) (A' : Nat → Int → Int) (B' C' : Nat → Nat), (r = .inr 69) ∧ (w_Rep w_TM fr X u l I' A' B' C' M') ∧ (m_fx I A I' A'))
set_option maxRecDepth 100000 in
theorem m_binds {L : Nat} {xs : Nat → Int32} {d : Nat} {fr : Nat → Bool} {X : Nat → Option (q_C (Nat → Int32))} {u l : Nat} {I : Nat → Int} {A : Nat → Int → Int} {B C : Nat → Nat} {M : w_M} (lo : Int → Int) (hR : w_Rep w_TM fr X u l I A B C M) (hd : 20 * (24 - (I 2775)) + 8 ≤ (d : Int)) (hTK : m_TK I A) (hNU : (0 ≤ (I 2774) ∧ (I 2774) < (I 2754) ∧ (I 2754) ≤ 1501 ∧ 0 ≤ (I 2775) ∧ (I 2775) ≤ 24) ∧ ((I 3393) = (I 3905) ∧ (I 3521) = (I 3905) ∧ (I 3649) = (I 3905) ∧ (I 3777) = (I 3905) ∧ 0 ≤ (I 3905) ∧ (I 3905) ≤ 3 * (I 2774)) ∧ ((I 4161) = (I 4033) ∧ 7 ≤ (I 4289) ∧ (I 4289) ≤ (I 4033) ∧ (I 4033) ≤ 7 + (I 2774)) ∧ 0 ≤ (I 5889) ∧ (I 5889) ≤ (I 2774)) (hSC : m_SC I A) (hTR : m_TR lo I A) : w_W (z_P L xs) d 236 (0, [(0, .ref 43)], [], M) (m_binds_Q fr X u l I A B C M lo) := by
  obtain ⟨d, rfl⟩ : ∃ d0, d = d0 + 1 := ⟨d - 1, by omega⟩
  refine w_adv (n := 1) (F' := (1, [(0, .ref 43)], [.ref 43], M)) rfl ?_
  refine w_gf (v := .ref 67) hR rfl rfl rfl rfl ?_
  refine w_gf (v := .int (Int32.ofInt ((I 4289)))) hR rfl rfl rfl rfl ?_
  obtain ⟨r1, r2⟩ : -2147483648 ≤ (I 4289) ∧ (I 4289) ≤ 2147483647 := hR.ri 4289
  obtain ⟨r3a, r3b, r3c⟩ : 0 ≤ (I 4289) ∧ (I 4289) ≤ (C 67 : Int) ∧ (C 67 : Int) ≤ 131072 := hR.sz (show 67 ∈ w_TM.2.2 by decide)
  refine w_adv (n := 7) (F' := (15, [(4, .int (Int32.ofInt (0))), (3, .int (Int32.ofInt ((-1)))), (2, .int (Int32.ofInt ((-1)))), (1, .int (Int32.ofInt ((I 4289)))), (0, .ref 43)], [], M)) rfl ?_
  have lp15 : ∀ fu : Nat, ∀ (lo_15 : Int → Int) (y15_2 : Int) (y15_3 : Int) (y15_4 : Int) (I_15 : Nat → Int) (A_15 : Nat → Int → Int) (B_15 C_15 : Nat → Nat) (M_15 : w_M) (hR_15 : w_Rep w_TM fr X u l I_15 A_15 B_15 C_15 M_15), w_in y15_2 → w_in y15_3 → w_in y15_4 → (0 ≤ (I_15 2774) ∧ (I_15 2774) < (I_15 2754) ∧ (I_15 2754) ≤ 1501 ∧ 0 ≤ (I_15 2775) ∧ (I_15 2775) ≤ 24) ∧ ((I_15 3393) = (I_15 3905) ∧ (I_15 3521) = (I_15 3905) ∧ (I_15 3649) = (I_15 3905) ∧ (I_15 3777) = (I_15 3905) ∧ 0 ≤ (I_15 3905) ∧ (I_15 3905) ≤ 3 * (I_15 2774)) ∧ ((I_15 4161) = (I_15 4033) ∧ 7 ≤ (I_15 4289) ∧ (I_15 4289) ≤ (I_15 4033) ∧ (I_15 4033) ≤ 7 + (I_15 2774)) ∧ 0 ≤ (I_15 5889) ∧ (I_15 5889) ≤ (I_15 2774) → ((I_15 2754) = (I 2754) ∧ (I 2774) ≤ (I_15 2774) ∧ (I_15 2775) = (I 2775) ∧ (I 4289) ≤ (I_15 4289) ∧ (I_15 5889) = (I 5889)) ∧ ((I_15 3905) + 0 ≤ (I 3905) + 3 * ((I_15 2774) - (I 2774)) ∧ (I 3905) ≤ (I_15 3905) ∧ (I 4033) ≤ (I_15 4033) ∧ (I_15 4033) ≤ (I 4033) + ((I_15 2774) - (I 2774))) → m_TK I_15 A_15 → m_SC I_15 A_15 → m_TR lo_15 I_15 A_15 → m_ST lo I A lo_15 I_15 A_15 → m_fx I A I_15 A_15 → (y15_2 = -1 ∧ y15_3 = -1) ∨ (m_kd lo_15 I_15 A_15 (I 3905) y15_2 (fun k => k = 28) ∧ m_kd lo_15 I_15 A_15 (I 3905) y15_3 (fun k => k = 28) ∧ m_rt lo_15 (I_15 3905) y15_2 ∧ m_rt lo_15 (I_15 3905) y15_3) → 0 ≤ y15_4 ∧ y15_4 ≤ (I_15 2774) - (I 2774) → (I_15 2754) - (I_15 2774) < (fu : Int) → w_W (z_P L xs) (d + 1) 236 (15, [(0, .ref 43), (1, .int (Int32.ofInt ((I 4289)))), (2, .int (Int32.ofInt (y15_2))), (3, .int (Int32.ofInt (y15_3))), (4, .int (Int32.ofInt (y15_4)))], [], M_15) (m_binds_Q fr X u l I A B C M lo) := by
    intro fu
    induction fu with
    | zero =>
      intro lo_15 y15_2 y15_3 y15_4 I_15 A_15 B_15 C_15 M_15 hR_15 ⟨ra_y15_2, rb_y15_2⟩ ⟨ra_y15_3, rb_y15_3⟩ ⟨ra_y15_4, rb_y15_4⟩ hi15_0 hi15_1 hi15_2 hi15_3 hi15_4 hi15_5 hi15_6 hi15_7 hi15_8 hn15
      exfalso
      omega
    | succ fu ih15 =>
      intro lo_15 y15_2 y15_3 y15_4 I_15 A_15 B_15 C_15 M_15 hR_15 ⟨ra_y15_2, rb_y15_2⟩ ⟨ra_y15_3, rb_y15_3⟩ ⟨ra_y15_4, rb_y15_4⟩ hi15_0 hi15_1 hi15_2 hi15_3 hi15_4 hi15_5 hi15_6 hi15_7 hi15_8 hn15
      rcases hi15_7 with ⟨h8, h9⟩ | ⟨k4, k5, rt6, rt7⟩
      · skip
        refine w_adv (n := 1) (F' := (16, [(0, .ref 43), (1, .int (Int32.ofInt ((I 4289)))), (2, .int (Int32.ofInt (y15_2))), (3, .int (Int32.ofInt (y15_3))), (4, .int (Int32.ofInt (y15_4)))], [.ref 43], M_15)) rfl ?_
        refine w_gf (v := .ref 45) hR_15 rfl rfl rfl rfl ?_
        refine w_adv (n := 1) (F' := (20, [(0, .ref 43), (1, .int (Int32.ofInt ((I 4289)))), (2, .int (Int32.ofInt (y15_2))), (3, .int (Int32.ofInt (y15_3))), (4, .int (Int32.ofInt (y15_4)))], [.ref 43, .ref 45], M_15)) rfl ?_
        refine w_gf (v := .int (Int32.ofInt ((I_15 2774)))) hR_15 rfl rfl rfl rfl ?_
        obtain ⟨r10, r11⟩ : -2147483648 ≤ (I_15 2774) ∧ (I_15 2774) ≤ 2147483647 := hR_15.ri 2774
        refine w_la (n := 1502) hR_15 rfl (Or.inl ⟨rfl, rfl⟩) rfl (show 0 ≤ (I_15 2774) by omega) (show (I_15 2774) < (1502 : Int) by omega) (by decide) ?_
        obtain ⟨r12, r13⟩ : -2147483648 ≤ (A_15 45) ((I_15 2774)) ∧ (A_15 45) ((I_15 2774)) ≤ 2147483647 := hR_15.ra 45 ((I_15 2774))
        show w_W _ _ _ (24, [(0, .ref 43), (1, .int (Int32.ofInt ((I 4289)))), (2, .int (Int32.ofInt (y15_2))), (3, .int (Int32.ofInt (y15_3))), (4, .int (Int32.ofInt (y15_4)))], [.int (Int32.ofInt ((A_15 45) ((I_15 2774))))], M_15) _
        refine w_adv (n := 1) (F' := (25, [(0, .ref 43), (1, .int (Int32.ofInt ((I 4289)))), (2, .int (Int32.ofInt (y15_2))), (3, .int (Int32.ofInt (y15_3))), (4, .int (Int32.ofInt (y15_4)))], [.int (Int32.ofInt (2)), .int (Int32.ofInt ((A_15 45) ((I_15 2774))))], M_15)) rfl ?_
        refine w_br2 (a := (A_15 45) ((I_15 2774))) (b := 2) rfl rfl ⟨by omega, by omega⟩ ⟨by omega, by omega⟩ (fun h14 => ?_) (fun h14 => ?_)
        · have h14 : ¬ (A_15 45) ((I_15 2774)) = 2 := h14
          show w_W _ _ _ (55, [(0, .ref 43), (1, .int (Int32.ofInt ((I 4289)))), (2, .int (Int32.ofInt (y15_2))), (3, .int (Int32.ofInt (y15_3))), (4, .int (Int32.ofInt (y15_4)))], [], M_15) _
          refine w_adv (n := 1) (F' := (56, [(0, .ref 43), (1, .int (Int32.ofInt ((I 4289)))), (2, .int (Int32.ofInt (y15_2))), (3, .int (Int32.ofInt (y15_3))), (4, .int (Int32.ofInt (y15_4)))], [.int (Int32.ofInt (y15_2))], M_15)) rfl ?_
          refine w_fin (r := .inl (some (y15_2))) (M' := M_15) rfl ?_
          exact Or.inl ⟨y15_2, lo_15, I_15, A_15, B_15, C_15, rfl, ⟨by omega, by omega⟩, hR_15, (show m_fx I A I_15 A_15 by exact hi15_6), (show ((0 ≤ (I_15 2774) ∧ (I_15 2774) < (I_15 2754) ∧ (I_15 2754) ≤ 1501 ∧ 0 ≤ (I_15 2775) ∧ (I_15 2775) ≤ 24) ∧ ((I_15 3393) = (I_15 3905) ∧ (I_15 3521) = (I_15 3905) ∧ (I_15 3649) = (I_15 3905) ∧ (I_15 3777) = (I_15 3905) ∧ 0 ≤ (I_15 3905) ∧ (I_15 3905) ≤ 3 * (I_15 2774)) ∧ ((I_15 4161) = (I_15 4033) ∧ 7 ≤ (I_15 4289) ∧ (I_15 4289) ≤ (I_15 4033) ∧ (I_15 4033) ≤ 7 + (I_15 2774)) ∧ 0 ≤ (I_15 5889) ∧ (I_15 5889) ≤ (I_15 2774)) ∧ ((I_15 2754) = (I 2754) ∧ (I 2774) + 0 ≤ (I_15 2774) ∧ (I_15 2775) = (I 2775) ∧ (I 4289) ≤ (I_15 4289) ∧ (I_15 5889) = (I 5889)) ∧ ((I_15 3905) + 0 ≤ (I 3905) + 3 * ((I_15 2774) - (I 2774)) ∧ (I 3905) ≤ (I_15 3905) ∧ -1 ≤ y15_2 ∧ y15_2 < (I_15 3905) ∧ (I 4033) ≤ (I_15 4033) ∧ (I_15 4033) ≤ (I 4033) + ((I_15 2774) - (I 2774))) by (repeat' apply And.intro) <;> omega), (show m_SC I_15 A_15 by exact hi15_3), (show m_TR lo_15 I_15 A_15 by exact hi15_4), (show m_ST lo I A lo_15 I_15 A_15 by exact hi15_5), (show y15_2 = -1 ∨ m_kd lo_15 I_15 A_15 (I 3905) y15_2 (fun k => k = 28) by exact Or.inl (by omega)), (show y15_2 = -1 ∨ m_rt lo_15 (I_15 3905) y15_2 by exact Or.inl (by omega))⟩
        · have h14 : ¬ (¬ (A_15 45) ((I_15 2774)) = 2) := h14
          have w15 : (I_15 2774) + 1 < (I_15 2754) := m_TK_lt hi15_2 (by omega) (by omega) (by omega)
          show w_W _ _ _ (28, [(0, .ref 43), (1, .int (Int32.ofInt ((I 4289)))), (2, .int (Int32.ofInt (y15_2))), (3, .int (Int32.ofInt (y15_3))), (4, .int (Int32.ofInt (y15_4)))], [], M_15) _
          refine w_adv (n := 3) (F' := (32, [(0, .ref 43), (1, .int (Int32.ofInt ((I 4289)))), (2, .int (Int32.ofInt (y15_2))), (3, .int (Int32.ofInt (y15_3))), (4, .int (Int32.ofInt (y15_4)))], [.int (Int32.ofInt (y15_4)), .int (Int32.ofInt ((I 4289))), .ref 43], M_15)) rfl ?_
          refine w_call (cm := 237) (as := [(0, .ref 43), (1, .int (Int32.ofInt ((I 4289)))), (2, .int (Int32.ofInt (y15_4)))]) (rest := []) (o := some (9, 43)) rfl (w_fitR hR_15 rfl) (m_bind ((I 4289)) (y15_4) (lo_15) hR_15 (show 20 * (24 - (I_15 2775)) + 6 ≤ (d : Int) by omega) ⟨by omega, by omega⟩ ⟨by omega, by omega⟩ (show m_TK I_15 A_15 by exact hi15_2) (show (0 ≤ (I_15 2774) ∧ (I_15 2774) < (I_15 2754) ∧ (I_15 2754) ≤ 1501 ∧ 0 ≤ (I_15 2775) ∧ (I_15 2775) ≤ 24) ∧ ((I_15 3393) = (I_15 3905) ∧ (I_15 3521) = (I_15 3905) ∧ (I_15 3649) = (I_15 3905) ∧ (I_15 3777) = (I_15 3905) ∧ 0 ≤ (I_15 3905) ∧ (I_15 3905) ≤ 3 * (I_15 2774)) ∧ ((I_15 4161) = (I_15 4033) ∧ 7 ≤ (I_15 4289) ∧ (I_15 4289) ≤ (I_15 4033) ∧ (I_15 4033) ≤ 7 + (I_15 2774)) ∧ 0 ≤ (I_15 5889) ∧ (I_15 5889) ≤ (I_15 2774) by (repeat' apply And.intro) <;> omega) (show m_SC I_15 A_15 by exact hi15_3) (show m_TR lo_15 I_15 A_15 by exact hi15_4) (show (A_15 45) ((I_15 2774)) = 2 by first | assumption | omega) (show 0 ≤ (I 4289) ∧ (I 4289) ≤ (I_15 4289) by first | assumption | omega)) (fun r16 M17 q18 => ?_)
          rcases q18 with ⟨v19, lo20, I18a, A18a, B18a, C18a, e21, ⟨r22, r23⟩, hR18a, f24, f25, f26, f27, f28, f29, f30⟩ | ⟨I18b, A18b, B18b, C18b, e31, hR18b, f32⟩
          · rw [e21]
            replace hR18a : w_Rep w_TM fr X u l I18a A18a B18a C18a M17 := hR18a
            replace f24 : m_fx I_15 A_15 I18a A18a := f24
            replace f25 : ((0 ≤ (I18a 2774) ∧ (I18a 2774) < (I18a 2754) ∧ (I18a 2754) ≤ 1501 ∧ 0 ≤ (I18a 2775) ∧ (I18a 2775) ≤ 24) ∧ ((I18a 3393) = (I18a 3905) ∧ (I18a 3521) = (I18a 3905) ∧ (I18a 3649) = (I18a 3905) ∧ (I18a 3777) = (I18a 3905) ∧ 0 ≤ (I18a 3905) ∧ (I18a 3905) ≤ 3 * (I18a 2774)) ∧ ((I18a 4161) = (I18a 4033) ∧ 7 ≤ (I18a 4289) ∧ (I18a 4289) ≤ (I18a 4033) ∧ (I18a 4033) ≤ 7 + (I18a 2774)) ∧ 0 ≤ (I18a 5889) ∧ (I18a 5889) ≤ (I18a 2774)) ∧ ((I18a 2754) = (I_15 2754) ∧ (I_15 2774) + 1 ≤ (I18a 2774) ∧ (I18a 2775) = (I_15 2775) ∧ (I18a 4289) = (I_15 4289) + 1 ∧ (I18a 5889) = (I_15 5889)) ∧ ((I18a 3905) + 2 ≤ (I_15 3905) + 3 * ((I18a 2774) - (I_15 2774)) ∧ (I_15 3905) ≤ v19 ∧ v19 + 1 = (I18a 3905) ∧ (I_15 4033) ≤ (I18a 4033) ∧ (I18a 4033) ≤ (I_15 4033) + ((I18a 2774) - (I_15 2774))) := f25
            replace f26 : m_SC I18a A18a := f26
            replace f27 : m_TR lo20 I18a A18a := f27
            replace f28 : m_ST lo_15 I_15 A_15 lo20 I18a A18a := f28
            replace f29 : (fun k => k = 28) ((A18a 53) (v19)) := f29
            replace f30 : m_rt lo20 (I18a 3905) v19 := f30
            have tk33 : m_TK I18a A18a := m_TK_fx f24 hi15_2
            have s34 : m_ST lo I A lo20 I18a A18a := m_ST_trans (show m_ST lo I A lo_15 I_15 A_15 from hi15_5) f28 (by omega) (by omega) (by omega) (by omega)
            have s35 : m_ST lo_15 I_15 A_15 lo20 I18a A18a := f28
            have k36 : m_kd lo20 I18a A18a (I_15 3905) v19 (fun k => k = 28) := m_kd_of f28 f27 (by omega) (by omega) (by omega) f29
            have j37 := k36.1
            show w_W _ _ _ (35, [(0, .ref 43), (1, .int (Int32.ofInt ((I 4289)))), (2, .int (Int32.ofInt (y15_2))), (3, .int (Int32.ofInt (y15_3))), (4, .int (Int32.ofInt (y15_4)))], [.int (Int32.ofInt (v19))], M17) _
            refine w_adv (n := 5) (F' := (42, [(5, .int (Int32.ofInt (v19))), (0, .ref 43), (1, .int (Int32.ofInt ((I 4289)))), (2, .int (Int32.ofInt (y15_2))), (3, .int (Int32.ofInt (y15_3))), (4, .int (Int32.ofInt (y15_4)))], [.int (Int32.ofInt (v19)), .int (Int32.ofInt (y15_3)), .int (Int32.ofInt (y15_2)), .ref 43], M17)) rfl ?_
            refine w_call (cm := 240) (as := [(0, .ref 43), (1, .int (Int32.ofInt (y15_2))), (2, .int (Int32.ofInt (y15_3))), (3, .int (Int32.ofInt (v19)))]) (rest := []) (o := some (9, 43)) rfl (w_fitR hR18a rfl) (m_link (y15_2) (y15_3) (v19) hR18a ⟨by omega, by omega⟩ ⟨by omega, by omega⟩ ⟨by omega, by omega⟩ (show y15_2 < 0 ∨ (0 ≤ y15_3 ∧ y15_3 < (I18a 3905)) by first | assumption | omega)) (fun r38 M39 q40 => ?_)
            rcases q40 with ⟨e41, e42, f43⟩ | ⟨e44, hR40b, f45⟩
            · rw [e41, e42]
              replace f43 : y15_2 < 0 := f43
              show w_W _ _ _ (45, [(5, .int (Int32.ofInt (v19))), (0, .ref 43), (1, .int (Int32.ofInt ((I 4289)))), (2, .int (Int32.ofInt (y15_2))), (3, .int (Int32.ofInt (y15_3))), (4, .int (Int32.ofInt (y15_4)))], [.int (Int32.ofInt (v19))], M17) _
              refine w_adv (n := 3) (F' := (49, [(3, .int (Int32.ofInt (v19))), (2, .int (Int32.ofInt (v19))), (5, .int (Int32.ofInt (v19))), (0, .ref 43), (1, .int (Int32.ofInt ((I 4289)))), (4, .int (Int32.ofInt (y15_4)))], [], M17)) rfl ?_
              refine w_inc (nL := 6) (a := y15_4) rfl rfl rfl (by decide) ?_
              refine w_adv (n := 1) (F' := (15, [(4, .int (Int32.ofInt (y15_4 + 1))), (3, .int (Int32.ofInt (v19))), (2, .int (Int32.ofInt (v19))), (5, .int (Int32.ofInt (v19))), (0, .ref 43), (1, .int (Int32.ofInt ((I 4289))))], [], M17)) rfl ?_
              refine w_ls (ls := [(0, .ref 43), (1, .int (Int32.ofInt ((I 4289)))), (2, .int (Int32.ofInt (v19))), (3, .int (Int32.ofInt (v19))), (4, .int (Int32.ofInt (y15_4 + 1)))]) (show List.Nodup [0, 1, 2, 3, 4] by decide) (show List.Nodup [4, 3, 2, 5, 0, 1] by decide) (List.forall_mem_cons.mpr ⟨(List.Mem.tail _ (List.Mem.tail _ (List.Mem.tail _ (List.Mem.tail _ (List.Mem.head _))))), (List.forall_mem_cons.mpr ⟨(List.Mem.tail _ (List.Mem.tail _ (List.Mem.tail _ (List.Mem.tail _ (List.Mem.tail _ (List.Mem.head _)))))), (List.forall_mem_cons.mpr ⟨(List.Mem.tail _ (List.Mem.tail _ (List.Mem.head _))), (List.forall_mem_cons.mpr ⟨(List.Mem.tail _ (List.Mem.head _)), (List.forall_mem_cons.mpr ⟨(List.Mem.head _), (fun _ h => by cases h)⟩)⟩)⟩)⟩)⟩) ?_
              exact ih15 lo20 (v19) (v19) (y15_4 + 1) I18a A18a B18a C18a M17 hR18a ⟨by omega, by omega⟩ ⟨by omega, by omega⟩ ⟨by omega, by omega⟩ (show (0 ≤ (I18a 2774) ∧ (I18a 2774) < (I18a 2754) ∧ (I18a 2754) ≤ 1501 ∧ 0 ≤ (I18a 2775) ∧ (I18a 2775) ≤ 24) ∧ ((I18a 3393) = (I18a 3905) ∧ (I18a 3521) = (I18a 3905) ∧ (I18a 3649) = (I18a 3905) ∧ (I18a 3777) = (I18a 3905) ∧ 0 ≤ (I18a 3905) ∧ (I18a 3905) ≤ 3 * (I18a 2774)) ∧ ((I18a 4161) = (I18a 4033) ∧ 7 ≤ (I18a 4289) ∧ (I18a 4289) ≤ (I18a 4033) ∧ (I18a 4033) ≤ 7 + (I18a 2774)) ∧ 0 ≤ (I18a 5889) ∧ (I18a 5889) ≤ (I18a 2774) by (repeat' apply And.intro) <;> omega) (show ((I18a 2754) = (I 2754) ∧ (I 2774) ≤ (I18a 2774) ∧ (I18a 2775) = (I 2775) ∧ (I 4289) ≤ (I18a 4289) ∧ (I18a 5889) = (I 5889)) ∧ ((I18a 3905) + 0 ≤ (I 3905) + 3 * ((I18a 2774) - (I 2774)) ∧ (I 3905) ≤ (I18a 3905) ∧ (I 4033) ≤ (I18a 4033) ∧ (I18a 4033) ≤ (I 4033) + ((I18a 2774) - (I 2774))) by (repeat' apply And.intro) <;> omega) (show m_TK I18a A18a by exact tk33) (show m_SC I18a A18a by exact f26) (show m_TR lo20 I18a A18a by exact f27) (show m_ST lo I A lo20 I18a A18a by exact s34) (show m_fx I A I18a A18a by exact (m_fx_trans hi15_6 f24)) (show (v19 = -1 ∧ v19 = -1) ∨ (m_kd lo20 I18a A18a (I 3905) v19 (fun k => k = 28) ∧ m_kd lo20 I18a A18a (I 3905) v19 (fun k => k = 28) ∧ m_rt lo20 (I18a 3905) v19 ∧ m_rt lo20 (I18a 3905) v19) by exact Or.inr ⟨m_kd_l k36 (by omega) (by omega), m_kd_l k36 (by omega) (by omega), f30, f30⟩) (show 0 ≤ y15_4 + 1 ∧ y15_4 + 1 ≤ (I18a 2774) - (I 2774) by omega) (by omega)
            · rw [e44]
              replace hR40b : w_Rep w_TM fr X u l I18a (w_upF A18a 61 (w_upA (A18a 61) (y15_3) (v19))) B18a C18a M39 := hR40b
              replace f45 : 0 ≤ y15_2 := f45
              exfalso; omega
          · rw [e31]
            replace hR18b : w_Rep w_TM fr X u l I18b A18b B18b C18b M17 := hR18b
            replace f32 : m_fx I_15 A_15 I18b A18b := f32
            exact Or.inr (⟨I18b, A18b, B18b, C18b, rfl, hR18b, (show m_fx I A I18b A18b by exact (m_fx_trans hi15_6 f32))⟩)
      · have j46 := k4.1
        have j47 := k5.1
        refine w_adv (n := 1) (F' := (16, [(0, .ref 43), (1, .int (Int32.ofInt ((I 4289)))), (2, .int (Int32.ofInt (y15_2))), (3, .int (Int32.ofInt (y15_3))), (4, .int (Int32.ofInt (y15_4)))], [.ref 43], M_15)) rfl ?_
        refine w_gf (v := .ref 45) hR_15 rfl rfl rfl rfl ?_
        refine w_adv (n := 1) (F' := (20, [(0, .ref 43), (1, .int (Int32.ofInt ((I 4289)))), (2, .int (Int32.ofInt (y15_2))), (3, .int (Int32.ofInt (y15_3))), (4, .int (Int32.ofInt (y15_4)))], [.ref 43, .ref 45], M_15)) rfl ?_
        refine w_gf (v := .int (Int32.ofInt ((I_15 2774)))) hR_15 rfl rfl rfl rfl ?_
        obtain ⟨r48, r49⟩ : -2147483648 ≤ (I_15 2774) ∧ (I_15 2774) ≤ 2147483647 := hR_15.ri 2774
        refine w_la (n := 1502) hR_15 rfl (Or.inl ⟨rfl, rfl⟩) rfl (show 0 ≤ (I_15 2774) by omega) (show (I_15 2774) < (1502 : Int) by omega) (by decide) ?_
        obtain ⟨r50, r51⟩ : -2147483648 ≤ (A_15 45) ((I_15 2774)) ∧ (A_15 45) ((I_15 2774)) ≤ 2147483647 := hR_15.ra 45 ((I_15 2774))
        show w_W _ _ _ (24, [(0, .ref 43), (1, .int (Int32.ofInt ((I 4289)))), (2, .int (Int32.ofInt (y15_2))), (3, .int (Int32.ofInt (y15_3))), (4, .int (Int32.ofInt (y15_4)))], [.int (Int32.ofInt ((A_15 45) ((I_15 2774))))], M_15) _
        refine w_adv (n := 1) (F' := (25, [(0, .ref 43), (1, .int (Int32.ofInt ((I 4289)))), (2, .int (Int32.ofInt (y15_2))), (3, .int (Int32.ofInt (y15_3))), (4, .int (Int32.ofInt (y15_4)))], [.int (Int32.ofInt (2)), .int (Int32.ofInt ((A_15 45) ((I_15 2774))))], M_15)) rfl ?_
        refine w_br2 (a := (A_15 45) ((I_15 2774))) (b := 2) rfl rfl ⟨by omega, by omega⟩ ⟨by omega, by omega⟩ (fun h52 => ?_) (fun h52 => ?_)
        · have h52 : ¬ (A_15 45) ((I_15 2774)) = 2 := h52
          show w_W _ _ _ (55, [(0, .ref 43), (1, .int (Int32.ofInt ((I 4289)))), (2, .int (Int32.ofInt (y15_2))), (3, .int (Int32.ofInt (y15_3))), (4, .int (Int32.ofInt (y15_4)))], [], M_15) _
          refine w_adv (n := 1) (F' := (56, [(0, .ref 43), (1, .int (Int32.ofInt ((I 4289)))), (2, .int (Int32.ofInt (y15_2))), (3, .int (Int32.ofInt (y15_3))), (4, .int (Int32.ofInt (y15_4)))], [.int (Int32.ofInt (y15_2))], M_15)) rfl ?_
          refine w_fin (r := .inl (some (y15_2))) (M' := M_15) rfl ?_
          exact Or.inl ⟨y15_2, lo_15, I_15, A_15, B_15, C_15, rfl, ⟨by omega, by omega⟩, hR_15, (show m_fx I A I_15 A_15 by exact hi15_6), (show ((0 ≤ (I_15 2774) ∧ (I_15 2774) < (I_15 2754) ∧ (I_15 2754) ≤ 1501 ∧ 0 ≤ (I_15 2775) ∧ (I_15 2775) ≤ 24) ∧ ((I_15 3393) = (I_15 3905) ∧ (I_15 3521) = (I_15 3905) ∧ (I_15 3649) = (I_15 3905) ∧ (I_15 3777) = (I_15 3905) ∧ 0 ≤ (I_15 3905) ∧ (I_15 3905) ≤ 3 * (I_15 2774)) ∧ ((I_15 4161) = (I_15 4033) ∧ 7 ≤ (I_15 4289) ∧ (I_15 4289) ≤ (I_15 4033) ∧ (I_15 4033) ≤ 7 + (I_15 2774)) ∧ 0 ≤ (I_15 5889) ∧ (I_15 5889) ≤ (I_15 2774)) ∧ ((I_15 2754) = (I 2754) ∧ (I 2774) + 0 ≤ (I_15 2774) ∧ (I_15 2775) = (I 2775) ∧ (I 4289) ≤ (I_15 4289) ∧ (I_15 5889) = (I 5889)) ∧ ((I_15 3905) + 0 ≤ (I 3905) + 3 * ((I_15 2774) - (I 2774)) ∧ (I 3905) ≤ (I_15 3905) ∧ -1 ≤ y15_2 ∧ y15_2 < (I_15 3905) ∧ (I 4033) ≤ (I_15 4033) ∧ (I_15 4033) ≤ (I 4033) + ((I_15 2774) - (I 2774))) by (repeat' apply And.intro) <;> omega), (show m_SC I_15 A_15 by exact hi15_3), (show m_TR lo_15 I_15 A_15 by exact hi15_4), (show m_ST lo I A lo_15 I_15 A_15 by exact hi15_5), (show y15_2 = -1 ∨ m_kd lo_15 I_15 A_15 (I 3905) y15_2 (fun k => k = 28) by exact Or.inr (m_kd_l k4 (by omega) (by omega))), (show y15_2 = -1 ∨ m_rt lo_15 (I_15 3905) y15_2 by exact Or.inr rt6)⟩
        · have h52 : ¬ (¬ (A_15 45) ((I_15 2774)) = 2) := h52
          have w53 : (I_15 2774) + 1 < (I_15 2754) := m_TK_lt hi15_2 (by omega) (by omega) (by omega)
          show w_W _ _ _ (28, [(0, .ref 43), (1, .int (Int32.ofInt ((I 4289)))), (2, .int (Int32.ofInt (y15_2))), (3, .int (Int32.ofInt (y15_3))), (4, .int (Int32.ofInt (y15_4)))], [], M_15) _
          refine w_adv (n := 3) (F' := (32, [(0, .ref 43), (1, .int (Int32.ofInt ((I 4289)))), (2, .int (Int32.ofInt (y15_2))), (3, .int (Int32.ofInt (y15_3))), (4, .int (Int32.ofInt (y15_4)))], [.int (Int32.ofInt (y15_4)), .int (Int32.ofInt ((I 4289))), .ref 43], M_15)) rfl ?_
          refine w_call (cm := 237) (as := [(0, .ref 43), (1, .int (Int32.ofInt ((I 4289)))), (2, .int (Int32.ofInt (y15_4)))]) (rest := []) (o := some (9, 43)) rfl (w_fitR hR_15 rfl) (m_bind ((I 4289)) (y15_4) (lo_15) hR_15 (show 20 * (24 - (I_15 2775)) + 6 ≤ (d : Int) by omega) ⟨by omega, by omega⟩ ⟨by omega, by omega⟩ (show m_TK I_15 A_15 by exact hi15_2) (show (0 ≤ (I_15 2774) ∧ (I_15 2774) < (I_15 2754) ∧ (I_15 2754) ≤ 1501 ∧ 0 ≤ (I_15 2775) ∧ (I_15 2775) ≤ 24) ∧ ((I_15 3393) = (I_15 3905) ∧ (I_15 3521) = (I_15 3905) ∧ (I_15 3649) = (I_15 3905) ∧ (I_15 3777) = (I_15 3905) ∧ 0 ≤ (I_15 3905) ∧ (I_15 3905) ≤ 3 * (I_15 2774)) ∧ ((I_15 4161) = (I_15 4033) ∧ 7 ≤ (I_15 4289) ∧ (I_15 4289) ≤ (I_15 4033) ∧ (I_15 4033) ≤ 7 + (I_15 2774)) ∧ 0 ≤ (I_15 5889) ∧ (I_15 5889) ≤ (I_15 2774) by (repeat' apply And.intro) <;> omega) (show m_SC I_15 A_15 by exact hi15_3) (show m_TR lo_15 I_15 A_15 by exact hi15_4) (show (A_15 45) ((I_15 2774)) = 2 by first | assumption | omega) (show 0 ≤ (I 4289) ∧ (I 4289) ≤ (I_15 4289) by first | assumption | omega)) (fun r54 M55 q56 => ?_)
          rcases q56 with ⟨v57, lo58, I56a, A56a, B56a, C56a, e59, ⟨r60, r61⟩, hR56a, f62, f63, f64, f65, f66, f67, f68⟩ | ⟨I56b, A56b, B56b, C56b, e69, hR56b, f70⟩
          · rw [e59]
            replace hR56a : w_Rep w_TM fr X u l I56a A56a B56a C56a M55 := hR56a
            replace f62 : m_fx I_15 A_15 I56a A56a := f62
            replace f63 : ((0 ≤ (I56a 2774) ∧ (I56a 2774) < (I56a 2754) ∧ (I56a 2754) ≤ 1501 ∧ 0 ≤ (I56a 2775) ∧ (I56a 2775) ≤ 24) ∧ ((I56a 3393) = (I56a 3905) ∧ (I56a 3521) = (I56a 3905) ∧ (I56a 3649) = (I56a 3905) ∧ (I56a 3777) = (I56a 3905) ∧ 0 ≤ (I56a 3905) ∧ (I56a 3905) ≤ 3 * (I56a 2774)) ∧ ((I56a 4161) = (I56a 4033) ∧ 7 ≤ (I56a 4289) ∧ (I56a 4289) ≤ (I56a 4033) ∧ (I56a 4033) ≤ 7 + (I56a 2774)) ∧ 0 ≤ (I56a 5889) ∧ (I56a 5889) ≤ (I56a 2774)) ∧ ((I56a 2754) = (I_15 2754) ∧ (I_15 2774) + 1 ≤ (I56a 2774) ∧ (I56a 2775) = (I_15 2775) ∧ (I56a 4289) = (I_15 4289) + 1 ∧ (I56a 5889) = (I_15 5889)) ∧ ((I56a 3905) + 2 ≤ (I_15 3905) + 3 * ((I56a 2774) - (I_15 2774)) ∧ (I_15 3905) ≤ v57 ∧ v57 + 1 = (I56a 3905) ∧ (I_15 4033) ≤ (I56a 4033) ∧ (I56a 4033) ≤ (I_15 4033) + ((I56a 2774) - (I_15 2774))) := f63
            replace f64 : m_SC I56a A56a := f64
            replace f65 : m_TR lo58 I56a A56a := f65
            replace f66 : m_ST lo_15 I_15 A_15 lo58 I56a A56a := f66
            replace f67 : (fun k => k = 28) ((A56a 53) (v57)) := f67
            replace f68 : m_rt lo58 (I56a 3905) v57 := f68
            have tk71 : m_TK I56a A56a := m_TK_fx f62 hi15_2
            have s72 : m_ST lo I A lo58 I56a A56a := m_ST_trans (show m_ST lo I A lo_15 I_15 A_15 from hi15_5) f66 (by omega) (by omega) (by omega) (by omega)
            have s73 : m_ST lo_15 I_15 A_15 lo58 I56a A56a := f66
            have k74 := m_kd_ST f66 (by omega) k4
            have j75 := k74.1
            have rt76 := m_rt_ST f66 (by omega) (by omega) rt6
            have k77 := m_kd_ST f66 (by omega) k5
            have j78 := k77.1
            have rt79 := m_rt_ST f66 (by omega) (by omega) rt7
            have k80 : m_kd lo58 I56a A56a (I_15 3905) v57 (fun k => k = 28) := m_kd_of f66 f65 (by omega) (by omega) (by omega) f67
            have j81 := k80.1
            show w_W _ _ _ (35, [(0, .ref 43), (1, .int (Int32.ofInt ((I 4289)))), (2, .int (Int32.ofInt (y15_2))), (3, .int (Int32.ofInt (y15_3))), (4, .int (Int32.ofInt (y15_4)))], [.int (Int32.ofInt (v57))], M55) _
            refine w_adv (n := 5) (F' := (42, [(5, .int (Int32.ofInt (v57))), (0, .ref 43), (1, .int (Int32.ofInt ((I 4289)))), (2, .int (Int32.ofInt (y15_2))), (3, .int (Int32.ofInt (y15_3))), (4, .int (Int32.ofInt (y15_4)))], [.int (Int32.ofInt (v57)), .int (Int32.ofInt (y15_3)), .int (Int32.ofInt (y15_2)), .ref 43], M55)) rfl ?_
            refine w_call (cm := 240) (as := [(0, .ref 43), (1, .int (Int32.ofInt (y15_2))), (2, .int (Int32.ofInt (y15_3))), (3, .int (Int32.ofInt (v57)))]) (rest := []) (o := some (9, 43)) rfl (w_fitR hR56a rfl) (m_link (y15_2) (y15_3) (v57) hR56a ⟨by omega, by omega⟩ ⟨by omega, by omega⟩ ⟨by omega, by omega⟩ (show y15_2 < 0 ∨ (0 ≤ y15_3 ∧ y15_3 < (I56a 3905)) by first | assumption | omega)) (fun r82 M83 q84 => ?_)
            rcases q84 with ⟨e85, e86, f87⟩ | ⟨e88, hR84b, f89⟩
            · rw [e85, e86]
              replace f87 : y15_2 < 0 := f87
              exfalso; omega
            · rw [e88]
              replace hR84b : w_Rep w_TM fr X u l I56a (w_upF A56a 61 (w_upA (A56a 61) (y15_3) (v57))) B56a C56a M83 := hR84b
              replace f89 : 0 ≤ y15_2 := f89
              have t90 : t_L ((A56a 53) (y15_3)) ((A56a 53) (v57)) := Or.inl ⟨by have q1 : (A56a 53) (y15_3) = 28 := k77.2; have q2 : (A56a 53) (v57) = 28 := k80.2; omega, by have q1 : (A56a 53) (y15_3) = 28 := k77.2; omega⟩
              have tr91 : m_TR lo58 I56a (w_upF A56a 61 (w_upA (A56a 61) (y15_3) (v57))) := m_TR_link (show m_TR lo58 I56a A56a from f65) rfl rfl rfl rfl rfl (by omega) (show v57 < (I56a 3905) by omega) rt79 f68 (by omega) (by omega) t90
              have s92 : m_ST lo I A lo58 I56a (w_upF A56a 61 (w_upA (A56a 61) (y15_3) (v57))) := m_ST_link (show m_ST lo I A lo58 I56a A56a from s72) (show (I 3905) ≤ y15_3 by omega) rfl rfl rfl rfl rfl rfl rfl
              show w_W _ _ _ (45, [(5, .int (Int32.ofInt (v57))), (0, .ref 43), (1, .int (Int32.ofInt ((I 4289)))), (2, .int (Int32.ofInt (y15_2))), (3, .int (Int32.ofInt (y15_3))), (4, .int (Int32.ofInt (y15_4)))], [.int (Int32.ofInt (y15_2))], M83) _
              refine w_adv (n := 3) (F' := (49, [(3, .int (Int32.ofInt (v57))), (2, .int (Int32.ofInt (y15_2))), (5, .int (Int32.ofInt (v57))), (0, .ref 43), (1, .int (Int32.ofInt ((I 4289)))), (4, .int (Int32.ofInt (y15_4)))], [], M83)) rfl ?_
              refine w_inc (nL := 6) (a := y15_4) rfl rfl rfl (by decide) ?_
              refine w_adv (n := 1) (F' := (15, [(4, .int (Int32.ofInt (y15_4 + 1))), (3, .int (Int32.ofInt (v57))), (2, .int (Int32.ofInt (y15_2))), (5, .int (Int32.ofInt (v57))), (0, .ref 43), (1, .int (Int32.ofInt ((I 4289))))], [], M83)) rfl ?_
              refine w_ls (ls := [(0, .ref 43), (1, .int (Int32.ofInt ((I 4289)))), (2, .int (Int32.ofInt (y15_2))), (3, .int (Int32.ofInt (v57))), (4, .int (Int32.ofInt (y15_4 + 1)))]) (show List.Nodup [0, 1, 2, 3, 4] by decide) (show List.Nodup [4, 3, 2, 5, 0, 1] by decide) (List.forall_mem_cons.mpr ⟨(List.Mem.tail _ (List.Mem.tail _ (List.Mem.tail _ (List.Mem.tail _ (List.Mem.head _))))), (List.forall_mem_cons.mpr ⟨(List.Mem.tail _ (List.Mem.tail _ (List.Mem.tail _ (List.Mem.tail _ (List.Mem.tail _ (List.Mem.head _)))))), (List.forall_mem_cons.mpr ⟨(List.Mem.tail _ (List.Mem.tail _ (List.Mem.head _))), (List.forall_mem_cons.mpr ⟨(List.Mem.tail _ (List.Mem.head _)), (List.forall_mem_cons.mpr ⟨(List.Mem.head _), (fun _ h => by cases h)⟩)⟩)⟩)⟩)⟩) ?_
              exact ih15 lo58 (y15_2) (v57) (y15_4 + 1) I56a (w_upF A56a 61 (w_upA (A56a 61) (y15_3) (v57))) B56a C56a M83 hR84b ⟨by omega, by omega⟩ ⟨by omega, by omega⟩ ⟨by omega, by omega⟩ (show (0 ≤ (I56a 2774) ∧ (I56a 2774) < (I56a 2754) ∧ (I56a 2754) ≤ 1501 ∧ 0 ≤ (I56a 2775) ∧ (I56a 2775) ≤ 24) ∧ ((I56a 3393) = (I56a 3905) ∧ (I56a 3521) = (I56a 3905) ∧ (I56a 3649) = (I56a 3905) ∧ (I56a 3777) = (I56a 3905) ∧ 0 ≤ (I56a 3905) ∧ (I56a 3905) ≤ 3 * (I56a 2774)) ∧ ((I56a 4161) = (I56a 4033) ∧ 7 ≤ (I56a 4289) ∧ (I56a 4289) ≤ (I56a 4033) ∧ (I56a 4033) ≤ 7 + (I56a 2774)) ∧ 0 ≤ (I56a 5889) ∧ (I56a 5889) ≤ (I56a 2774) by (repeat' apply And.intro) <;> omega) (show ((I56a 2754) = (I 2754) ∧ (I 2774) ≤ (I56a 2774) ∧ (I56a 2775) = (I 2775) ∧ (I 4289) ≤ (I56a 4289) ∧ (I56a 5889) = (I 5889)) ∧ ((I56a 3905) + 0 ≤ (I 3905) + 3 * ((I56a 2774) - (I 2774)) ∧ (I 3905) ≤ (I56a 3905) ∧ (I 4033) ≤ (I56a 4033) ∧ (I56a 4033) ≤ (I 4033) + ((I56a 2774) - (I 2774))) by (repeat' apply And.intro) <;> omega) (show m_TK I56a (w_upF A56a 61 (w_upA (A56a 61) (y15_3) (v57))) by exact tk71) (show m_SC I56a (w_upF A56a 61 (w_upA (A56a 61) (y15_3) (v57))) by exact f64) (show m_TR lo58 I56a (w_upF A56a 61 (w_upA (A56a 61) (y15_3) (v57))) by exact tr91) (show m_ST lo I A lo58 I56a (w_upF A56a 61 (w_upA (A56a 61) (y15_3) (v57))) by exact s92) (show m_fx I A I56a (w_upF A56a 61 (w_upA (A56a 61) (y15_3) (v57))) by exact (m_fx_trans hi15_6 f62)) (show (y15_2 = -1 ∧ v57 = -1) ∨ (m_kd lo58 I56a (w_upF A56a 61 (w_upA (A56a 61) (y15_3) (v57))) (I 3905) y15_2 (fun k => k = 28) ∧ m_kd lo58 I56a (w_upF A56a 61 (w_upA (A56a 61) (y15_3) (v57))) (I 3905) v57 (fun k => k = 28) ∧ m_rt lo58 (I56a 3905) y15_2 ∧ m_rt lo58 (I56a 3905) v57) by exact Or.inr ⟨k74, m_kd_l k80 (by omega) (by omega), rt76, f68⟩) (show 0 ≤ y15_4 + 1 ∧ y15_4 + 1 ≤ (I56a 2774) - (I 2774) by omega) (by omega)
          · rw [e69]
            replace hR56b : w_Rep w_TM fr X u l I56b A56b B56b C56b M55 := hR56b
            replace f70 : m_fx I_15 A_15 I56b A56b := f70
            exact Or.inr (⟨I56b, A56b, B56b, C56b, rfl, hR56b, (show m_fx I A I56b A56b by exact (m_fx_trans hi15_6 f70))⟩)
  refine w_ls (ls := [(0, .ref 43), (1, .int (Int32.ofInt ((I 4289)))), (2, .int (Int32.ofInt ((-1)))), (3, .int (Int32.ofInt ((-1)))), (4, .int (Int32.ofInt (0)))]) (show List.Nodup [0, 1, 2, 3, 4] by decide) (show List.Nodup [4, 3, 2, 1, 0] by decide) (List.forall_mem_cons.mpr ⟨(List.Mem.tail _ (List.Mem.tail _ (List.Mem.tail _ (List.Mem.tail _ (List.Mem.head _))))), (List.forall_mem_cons.mpr ⟨(List.Mem.tail _ (List.Mem.tail _ (List.Mem.tail _ (List.Mem.head _)))), (List.forall_mem_cons.mpr ⟨(List.Mem.tail _ (List.Mem.tail _ (List.Mem.head _))), (List.forall_mem_cons.mpr ⟨(List.Mem.tail _ (List.Mem.head _)), (List.forall_mem_cons.mpr ⟨(List.Mem.head _), (fun _ h => by cases h)⟩)⟩)⟩)⟩)⟩) ?_
  exact lp15 (((I 2754) - (I 2774)).toNat + 1) lo ((-1)) ((-1)) (0) I A B C M hR ⟨by omega, by omega⟩ ⟨by omega, by omega⟩ ⟨by omega, by omega⟩ (show (0 ≤ (I 2774) ∧ (I 2774) < (I 2754) ∧ (I 2754) ≤ 1501 ∧ 0 ≤ (I 2775) ∧ (I 2775) ≤ 24) ∧ ((I 3393) = (I 3905) ∧ (I 3521) = (I 3905) ∧ (I 3649) = (I 3905) ∧ (I 3777) = (I 3905) ∧ 0 ≤ (I 3905) ∧ (I 3905) ≤ 3 * (I 2774)) ∧ ((I 4161) = (I 4033) ∧ 7 ≤ (I 4289) ∧ (I 4289) ≤ (I 4033) ∧ (I 4033) ≤ 7 + (I 2774)) ∧ 0 ≤ (I 5889) ∧ (I 5889) ≤ (I 2774) by (repeat' apply And.intro) <;> omega) (show ((I 2754) = (I 2754) ∧ (I 2774) ≤ (I 2774) ∧ (I 2775) = (I 2775) ∧ (I 4289) ≤ (I 4289) ∧ (I 5889) = (I 5889)) ∧ ((I 3905) + 0 ≤ (I 3905) + 3 * ((I 2774) - (I 2774)) ∧ (I 3905) ≤ (I 3905) ∧ (I 4033) ≤ (I 4033) ∧ (I 4033) ≤ (I 4033) + ((I 2774) - (I 2774))) by (repeat' apply And.intro) <;> omega) (show m_TK I A by exact hTK) (show m_SC I A by exact hSC) (show m_TR lo I A by exact hTR) (show m_ST lo I A lo I A by exact m_ST_refl) (show m_fx I A I A by exact m_fx_refl) (show ((-1) = -1 ∧ (-1) = -1) ∨ (m_kd lo I A (I 3905) (-1) (fun k => k = 28) ∧ m_kd lo I A (I 3905) (-1) (fun k => k = 28) ∧ m_rt lo (I 3905) (-1) ∧ m_rt lo (I 3905) (-1)) by exact Or.inl ⟨rfl, rfl⟩) (show 0 ≤ 0 ∧ 0 ≤ (I 2774) - (I 2774) by omega) (by omega)
