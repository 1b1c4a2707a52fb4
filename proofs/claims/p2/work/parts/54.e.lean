def m_bodyOr_Q (fr : Nat → Bool) (X : Nat → Option (q_C (Nat → Int32))) (u l : Nat) (I : Nat → Int) (A : Nat → Int → Int) (B C : Nat → Nat) (M : w_M) (vl : Int) (lo : Int → Int) : w_X → w_M → Prop := fun r M' => (∃ v : Int, ∃ lo' : Int → Int, ∃ (I' : Nat → Int) (A' : Nat → Int → Int) (B' C' : Nat → Nat), (r = .inl (some v)) ∧ (w_in v) ∧ (w_Rep w_TM fr X u l I' A' B' C' M') ∧ (m_fx I A I' A') ∧ (((0 ≤ (I' 2774) ∧ (I' 2774) < (I' 2754) ∧ (I' 2754) ≤ 1501 ∧ 0 ≤ (I' 2775) ∧ (I' 2775) ≤ 24) ∧ ((I' 3393) = (I' 3905) ∧ (I' 3521) = (I' 3905) ∧ (I' 3649) = (I' 3905) ∧ (I' 3777) = (I' 3905) ∧ 0 ≤ (I' 3905) ∧ (I' 3905) ≤ 3 * (I' 2774)) ∧ ((I' 4161) = (I' 4033) ∧ 7 ≤ (I' 4289) ∧ (I' 4289) ≤ (I' 4033) ∧ (I' 4033) ≤ 7 + (I' 2774)) ∧ 0 ≤ (I' 5889) ∧ (I' 5889) ≤ (I' 2774)) ∧ ((I' 2754) = (I 2754) ∧ (I 2774) + 1 ≤ (I' 2774) ∧ (I' 2775) = (I 2775) ∧ (I' 4289) = (I 4289) + 0 ∧ (I' 5889) = (I 5889)) ∧ ((I' 3905) + 1 ≤ (I 3905) + 3 * ((I' 2774) - (I 2774)) ∧ (I 3905) ≤ v ∧ v + 1 = (I' 3905) ∧ (I 4033) ≤ (I' 4033) ∧ (I' 4033) ≤ (I 4033) + ((I' 2774) - (I 2774)))) ∧ (m_SC I' A') ∧ (m_TR lo' I' A') ∧ (m_ST lo I A lo' I' A') ∧ (t_B ((A' 53) (v))) ∧ (m_rt lo' (I' 3905) v)) ∨ (∃ (I' : Nat → Int) (A' : Nat → Int → Int) (B' C' : Nat → Nat), (r = .inr 69) ∧ (w_Rep w_TM fr X u l I' A' B' C' M') ∧ (m_fx I A I' A'))
set_option maxRecDepth 100000 in
theorem m_bodyOr {L : Nat} {xs : Nat → Int32} {d : Nat} {fr : Nat → Bool} {X : Nat → Option (q_C (Nat → Int32))} {u l : Nat} {I : Nat → Int} {A : Nat → Int → Int} {B C : Nat → Nat} {M : w_M} {N : Int} (hA : m_all L xs N) (vl : Int) (lo : Int → Int) (hR : w_Rep w_TM fr X u l I A B C M) (hd : 20 * (24 - (I 2775)) + 21 ≤ (d : Int)) (r_vl : w_in vl) (hTK : m_TK I A) (hNU : (0 ≤ (I 2774) ∧ (I 2774) < (I 2754) ∧ (I 2754) ≤ 1501 ∧ 0 ≤ (I 2775) ∧ (I 2775) ≤ 24) ∧ ((I 3393) = (I 3905) ∧ (I 3521) = (I 3905) ∧ (I 3649) = (I 3905) ∧ (I 3777) = (I 3905) ∧ 0 ≤ (I 3905) ∧ (I 3905) ≤ 3 * (I 2774)) ∧ ((I 4161) = (I 4033) ∧ 7 ≤ (I 4289) ∧ (I 4289) ≤ (I 4033) ∧ (I 4033) ≤ 7 + (I 2774)) ∧ 0 ≤ (I 5889) ∧ (I 5889) ≤ (I 2774)) (hSC : m_SC I A) (hTR : m_TR lo I A) (hm : (I 2754) - (I 2774) < N) : w_W (z_P L xs) d 242 (0, [(0, .ref 43), (1, .int (Int32.ofInt (vl)))], [], M) (m_bodyOr_Q fr X u l I A B C M vl lo) := by
  obtain ⟨ra_vl, rb_vl⟩ := r_vl
  obtain ⟨d, rfl⟩ : ∃ d0, d = d0 + 1 := ⟨d - 1, by omega⟩
  refine w_adv (n := 1) (F' := (1, [(0, .ref 43), (1, .int (Int32.ofInt (vl)))], [.int (Int32.ofInt (vl))], M)) rfl ?_
  refine w_br1 (a := vl) rfl rfl ⟨by omega, by omega⟩ (fun h1 => ?_) (fun h1 => ?_)
  · have h1 : vl = 0 := h1
    show w_W _ _ _ (11, [(0, .ref 43), (1, .int (Int32.ofInt (vl)))], [], M) _
    refine w_adv (n := 1) (F' := (12, [(0, .ref 43), (1, .int (Int32.ofInt (vl)))], [.ref 43], M)) rfl ?_
    refine w_call (cm := 227) (as := [(0, .ref 43)]) (rest := []) (o := some (9, 43)) rfl (w_fitR hR rfl) (hA.2.1 (lo) hR (show 20 * (24 - (I 2775)) + 19 ≤ (d : Int) by omega) (show m_TK I A by exact hTK) (show (0 ≤ (I 2774) ∧ (I 2774) < (I 2754) ∧ (I 2754) ≤ 1501 ∧ 0 ≤ (I 2775) ∧ (I 2775) ≤ 24) ∧ ((I 3393) = (I 3905) ∧ (I 3521) = (I 3905) ∧ (I 3649) = (I 3905) ∧ (I 3777) = (I 3905) ∧ 0 ≤ (I 3905) ∧ (I 3905) ≤ 3 * (I 2774)) ∧ ((I 4161) = (I 4033) ∧ 7 ≤ (I 4289) ∧ (I 4289) ≤ (I 4033) ∧ (I 4033) ≤ 7 + (I 2774)) ∧ 0 ≤ (I 5889) ∧ (I 5889) ≤ (I 2774) by (repeat' apply And.intro) <;> omega) (show m_SC I A by exact hSC) (show m_TR lo I A by exact hTR) (show (I 2754) - (I 2774) < N by first | assumption | omega)) (fun r2 M3 q4 => ?_)
    rcases q4 with ⟨v5, lo6, I4a, A4a, B4a, C4a, e7, ⟨r8, r9⟩, hR4a, f10, f11, f12, f13, f14, f15, f16⟩ | ⟨I4b, A4b, B4b, C4b, e17, hR4b, f18⟩
    · rw [e7]
      replace hR4a : w_Rep w_TM fr X u l I4a A4a B4a C4a M3 := hR4a
      replace f10 : m_fx I A I4a A4a := f10
      replace f11 : ((0 ≤ (I4a 2774) ∧ (I4a 2774) < (I4a 2754) ∧ (I4a 2754) ≤ 1501 ∧ 0 ≤ (I4a 2775) ∧ (I4a 2775) ≤ 24) ∧ ((I4a 3393) = (I4a 3905) ∧ (I4a 3521) = (I4a 3905) ∧ (I4a 3649) = (I4a 3905) ∧ (I4a 3777) = (I4a 3905) ∧ 0 ≤ (I4a 3905) ∧ (I4a 3905) ≤ 3 * (I4a 2774)) ∧ ((I4a 4161) = (I4a 4033) ∧ 7 ≤ (I4a 4289) ∧ (I4a 4289) ≤ (I4a 4033) ∧ (I4a 4033) ≤ 7 + (I4a 2774)) ∧ 0 ≤ (I4a 5889) ∧ (I4a 5889) ≤ (I4a 2774)) ∧ ((I4a 2754) = (I 2754) ∧ (I 2774) + 1 ≤ (I4a 2774) ∧ (I4a 2775) = (I 2775) ∧ (I4a 4289) = (I 4289) + 0 ∧ (I4a 5889) = (I 5889)) ∧ ((I4a 3905) + 1 ≤ (I 3905) + 3 * ((I4a 2774) - (I 2774)) ∧ (I 3905) ≤ v5 ∧ v5 + 1 = (I4a 3905) ∧ (I 4033) ≤ (I4a 4033) ∧ (I4a 4033) ≤ (I 4033) + ((I4a 2774) - (I 2774))) := f11
      replace f12 : m_SC I4a A4a := f12
      replace f13 : m_TR lo6 I4a A4a := f13
      replace f14 : m_ST lo I A lo6 I4a A4a := f14
      replace f15 : (fun k => k = 25) ((A4a 53) (v5)) := f15
      replace f16 : m_rt lo6 (I4a 3905) v5 := f16
      have tk19 : m_TK I4a A4a := m_TK_fx f10 hTK
      have s20 : m_ST lo I A lo6 I4a A4a := f14
      have k21 : m_kd lo6 I4a A4a (I 3905) v5 (fun k => k = 25) := m_kd_of f14 f13 (by omega) (by omega) (by omega) f15
      have j22 := k21.1
      show w_W _ _ _ (15, [(0, .ref 43), (1, .int (Int32.ofInt (vl)))], [.int (Int32.ofInt (v5))], M3) _
      refine w_fin (r := .inl (some (v5))) (M' := M3) rfl ?_
      exact Or.inl ⟨v5, lo6, I4a, A4a, B4a, C4a, rfl, ⟨by omega, by omega⟩, hR4a, (show m_fx I A I4a A4a by exact f10), (show ((0 ≤ (I4a 2774) ∧ (I4a 2774) < (I4a 2754) ∧ (I4a 2754) ≤ 1501 ∧ 0 ≤ (I4a 2775) ∧ (I4a 2775) ≤ 24) ∧ ((I4a 3393) = (I4a 3905) ∧ (I4a 3521) = (I4a 3905) ∧ (I4a 3649) = (I4a 3905) ∧ (I4a 3777) = (I4a 3905) ∧ 0 ≤ (I4a 3905) ∧ (I4a 3905) ≤ 3 * (I4a 2774)) ∧ ((I4a 4161) = (I4a 4033) ∧ 7 ≤ (I4a 4289) ∧ (I4a 4289) ≤ (I4a 4033) ∧ (I4a 4033) ≤ 7 + (I4a 2774)) ∧ 0 ≤ (I4a 5889) ∧ (I4a 5889) ≤ (I4a 2774)) ∧ ((I4a 2754) = (I 2754) ∧ (I 2774) + 1 ≤ (I4a 2774) ∧ (I4a 2775) = (I 2775) ∧ (I4a 4289) = (I 4289) + 0 ∧ (I4a 5889) = (I 5889)) ∧ ((I4a 3905) + 1 ≤ (I 3905) + 3 * ((I4a 2774) - (I 2774)) ∧ (I 3905) ≤ v5 ∧ v5 + 1 = (I4a 3905) ∧ (I 4033) ≤ (I4a 4033) ∧ (I4a 4033) ≤ (I 4033) + ((I4a 2774) - (I 2774))) by (repeat' apply And.intro) <;> omega), (show m_SC I4a A4a by exact f12), (show m_TR lo6 I4a A4a by exact f13), (show m_ST lo I A lo6 I4a A4a by exact s20), (show t_B ((A4a 53) (v5)) by exact ((m_kd_K k21 (fun k h => by have h : k = 25 := h; unfold t_B; omega))).2), (show m_rt lo6 (I4a 3905) v5 by exact f16)⟩
    · rw [e17]
      replace hR4b : w_Rep w_TM fr X u l I4b A4b B4b C4b M3 := hR4b
      replace f18 : m_fx I A I4b A4b := f18
      exact Or.inr (⟨I4b, A4b, B4b, C4b, rfl, hR4b, (show m_fx I A I4b A4b by exact f18)⟩)
  · have h1 : ¬ (vl = 0) := h1
    show w_W _ _ _ (4, [(0, .ref 43), (1, .int (Int32.ofInt (vl)))], [], M) _
    refine w_adv (n := 1) (F' := (5, [(0, .ref 43), (1, .int (Int32.ofInt (vl)))], [.ref 43], M)) rfl ?_
    refine w_call (cm := 243) (as := [(0, .ref 43)]) (rest := []) (o := some (9, 43)) rfl (w_fitR hR rfl) (hA.2.2 (lo) hR (show 20 * (24 - (I 2775)) + 20 ≤ (d : Int) by omega) (show m_TK I A by exact hTK) (show (0 ≤ (I 2774) ∧ (I 2774) < (I 2754) ∧ (I 2754) ≤ 1501 ∧ 0 ≤ (I 2775) ∧ (I 2775) ≤ 24) ∧ ((I 3393) = (I 3905) ∧ (I 3521) = (I 3905) ∧ (I 3649) = (I 3905) ∧ (I 3777) = (I 3905) ∧ 0 ≤ (I 3905) ∧ (I 3905) ≤ 3 * (I 2774)) ∧ ((I 4161) = (I 4033) ∧ 7 ≤ (I 4289) ∧ (I 4289) ≤ (I 4033) ∧ (I 4033) ≤ 7 + (I 2774)) ∧ 0 ≤ (I 5889) ∧ (I 5889) ≤ (I 2774) by (repeat' apply And.intro) <;> omega) (show m_SC I A by exact hSC) (show m_TR lo I A by exact hTR) (show (I 2754) - (I 2774) < N by first | assumption | omega)) (fun r23 M24 q25 => ?_)
    rcases q25 with ⟨v26, lo27, I25a, A25a, B25a, C25a, e28, ⟨r29, r30⟩, hR25a, f31, f32, f33, f34, f35, f36, f37⟩ | ⟨I25b, A25b, B25b, C25b, e38, hR25b, f39⟩
    · rw [e28]
      replace hR25a : w_Rep w_TM fr X u l I25a A25a B25a C25a M24 := hR25a
      replace f31 : m_fx I A I25a A25a := f31
      replace f32 : ((0 ≤ (I25a 2774) ∧ (I25a 2774) < (I25a 2754) ∧ (I25a 2754) ≤ 1501 ∧ 0 ≤ (I25a 2775) ∧ (I25a 2775) ≤ 24) ∧ ((I25a 3393) = (I25a 3905) ∧ (I25a 3521) = (I25a 3905) ∧ (I25a 3649) = (I25a 3905) ∧ (I25a 3777) = (I25a 3905) ∧ 0 ≤ (I25a 3905) ∧ (I25a 3905) ≤ 3 * (I25a 2774)) ∧ ((I25a 4161) = (I25a 4033) ∧ 7 ≤ (I25a 4289) ∧ (I25a 4289) ≤ (I25a 4033) ∧ (I25a 4033) ≤ 7 + (I25a 2774)) ∧ 0 ≤ (I25a 5889) ∧ (I25a 5889) ≤ (I25a 2774)) ∧ ((I25a 2754) = (I 2754) ∧ (I 2774) + 1 ≤ (I25a 2774) ∧ (I25a 2775) = (I 2775) ∧ (I25a 4289) = (I 4289) + 0 ∧ (I25a 5889) = (I 5889)) ∧ ((I25a 3905) + 1 ≤ (I 3905) + 3 * ((I25a 2774) - (I 2774)) ∧ (I 3905) ≤ v26 ∧ v26 + 1 = (I25a 3905) ∧ (I 4033) ≤ (I25a 4033) ∧ (I25a 4033) ≤ (I 4033) + ((I25a 2774) - (I 2774))) := f32
      replace f33 : m_SC I25a A25a := f33
      replace f34 : m_TR lo27 I25a A25a := f34
      replace f35 : m_ST lo I A lo27 I25a A25a := f35
      replace f36 : (fun k => k = 19) ((A25a 53) (v26)) := f36
      replace f37 : m_rt lo27 (I25a 3905) v26 := f37
      have tk40 : m_TK I25a A25a := m_TK_fx f31 hTK
      have s41 : m_ST lo I A lo27 I25a A25a := f35
      have k42 : m_kd lo27 I25a A25a (I 3905) v26 (fun k => k = 19) := m_kd_of f35 f34 (by omega) (by omega) (by omega) f36
      have j43 := k42.1
      show w_W _ _ _ (8, [(0, .ref 43), (1, .int (Int32.ofInt (vl)))], [.int (Int32.ofInt (v26))], M24) _
      refine w_adv (n := 1) (F' := (15, [(0, .ref 43), (1, .int (Int32.ofInt (vl)))], [.int (Int32.ofInt (v26))], M24)) rfl ?_
      refine w_fin (r := .inl (some (v26))) (M' := M24) rfl ?_
      exact Or.inl ⟨v26, lo27, I25a, A25a, B25a, C25a, rfl, ⟨by omega, by omega⟩, hR25a, (show m_fx I A I25a A25a by exact f31), (show ((0 ≤ (I25a 2774) ∧ (I25a 2774) < (I25a 2754) ∧ (I25a 2754) ≤ 1501 ∧ 0 ≤ (I25a 2775) ∧ (I25a 2775) ≤ 24) ∧ ((I25a 3393) = (I25a 3905) ∧ (I25a 3521) = (I25a 3905) ∧ (I25a 3649) = (I25a 3905) ∧ (I25a 3777) = (I25a 3905) ∧ 0 ≤ (I25a 3905) ∧ (I25a 3905) ≤ 3 * (I25a 2774)) ∧ ((I25a 4161) = (I25a 4033) ∧ 7 ≤ (I25a 4289) ∧ (I25a 4289) ≤ (I25a 4033) ∧ (I25a 4033) ≤ 7 + (I25a 2774)) ∧ 0 ≤ (I25a 5889) ∧ (I25a 5889) ≤ (I25a 2774)) ∧ ((I25a 2754) = (I 2754) ∧ (I 2774) + 1 ≤ (I25a 2774) ∧ (I25a 2775) = (I 2775) ∧ (I25a 4289) = (I 4289) + 0 ∧ (I25a 5889) = (I 5889)) ∧ ((I25a 3905) + 1 ≤ (I 3905) + 3 * ((I25a 2774) - (I 2774)) ∧ (I 3905) ≤ v26 ∧ v26 + 1 = (I25a 3905) ∧ (I 4033) ≤ (I25a 4033) ∧ (I25a 4033) ≤ (I 4033) + ((I25a 2774) - (I 2774))) by (repeat' apply And.intro) <;> omega), (show m_SC I25a A25a by exact f33), (show m_TR lo27 I25a A25a by exact f34), (show m_ST lo I A lo27 I25a A25a by exact s41), (show t_B ((A25a 53) (v26)) by exact ((m_kd_K k42 (fun k h => by have h : k = 19 := h; unfold t_B; omega))).2), (show m_rt lo27 (I25a 3905) v26 by exact f37)⟩
    · rw [e38]
      replace hR25b : w_Rep w_TM fr X u l I25b A25b B25b C25b M24 := hR25b
      replace f39 : m_fx I A I25b A25b := f39
      exact Or.inr (⟨I25b, A25b, B25b, C25b, rfl, hR25b, (show m_fx I A I25b A25b by exact f39)⟩)
def m_thread_Q (fr : Nat → Bool) (X : Nat → Option (q_C (Nat → Int32))) (u l : Nat) (I : Nat → Int) (A : Nat → Int → Int) (B C : Nat → Nat) (M : w_M) (vl : Int) (lo : Int → Int) : w_X → w_M → Prop := fun r M' => (∃ v : Int, ∃ lo' : Int → Int, ∃ (I' : Nat → Int) (A' : Nat → Int → Int) (B' C' : Nat → Nat), (r = .inl (some v)) ∧ (w_in v) ∧ (w_Rep w_TM fr X u l I' A' B' C' M') ∧ (m_fx I A I' A') ∧ (((0 ≤ (I' 2774) ∧ (I' 2774) < (I' 2754) ∧ (I' 2754) ≤ 1501 ∧ 0 ≤ (I' 2775) ∧ (I' 2775) ≤ 24) ∧ ((I' 3393) = (I' 3905) ∧ (I' 3521) = (I' 3905) ∧ (I' 3649) = (I' 3905) ∧ (I' 3777) = (I' 3905) ∧ 0 ≤ (I' 3905) ∧ (I' 3905) ≤ 3 * (I' 2774)) ∧ ((I' 4161) = (I' 4033) ∧ 7 ≤ (I' 4289) ∧ (I' 4289) ≤ (I' 4033) ∧ (I' 4033) ≤ 7 + (I' 2774)) ∧ 0 ≤ (I' 5889) ∧ (I' 5889) ≤ (I' 2774)) ∧ ((I' 2754) = (I 2754) ∧ (I 2774) + 1 ≤ (I' 2774) ∧ (I' 2775) = (I 2775) ∧ (I' 4289) = (I 4289) + 0 ∧ (I' 5889) = (I 5889)) ∧ ((I' 3905) + 2 ≤ (I 3905) + 3 * ((I' 2774) - (I 2774)) ∧ (I 3905) ≤ v ∧ v + 1 = (I' 3905) ∧ (I 4033) ≤ (I' 4033) ∧ (I' 4033) ≤ (I 4033) + ((I' 2774) - (I 2774)))) ∧ (m_SC I' A') ∧ (m_TR lo' I' A') ∧ (m_ST lo I A lo' I' A') ∧ ((fun k => k = 18) ((A' 53) (v))) ∧ (m_rt lo' (I' 3905) v)) ∨ (∃ (I' : Nat → Int) (A' : Nat → Int → Int) (B' C' : Nat → Nat), (r = .inr 69) ∧ (w_Rep w_TM fr X u l I' A' B' C' M') ∧ (m_fx I A I' A'))
set_option maxRecDepth 100000 in
theorem m_thread {L : Nat} {xs : Nat → Int32} {d : Nat} {fr : Nat → Bool} {X : Nat → Option (q_C (Nat → Int32))} {u l : Nat} {I : Nat → Int} {A : Nat → Int → Int} {B C : Nat → Nat} {M : w_M} {N : Int} (hA : m_all L xs N) (vl : Int) (lo : Int → Int) (hR : w_Rep w_TM fr X u l I A B C M) (hd : 20 * (24 - (I 2775)) + 11 ≤ (d : Int)) (r_vl : w_in vl) (hTK : m_TK I A) (hNU : (0 ≤ (I 2774) ∧ (I 2774) < (I 2754) ∧ (I 2754) ≤ 1501 ∧ 0 ≤ (I 2775) ∧ (I 2775) ≤ 24) ∧ ((I 3393) = (I 3905) ∧ (I 3521) = (I 3905) ∧ (I 3649) = (I 3905) ∧ (I 3777) = (I 3905) ∧ 0 ≤ (I 3905) ∧ (I 3905) ≤ 3 * (I 2774)) ∧ ((I 4161) = (I 4033) ∧ 7 ≤ (I 4289) ∧ (I 4289) ≤ (I 4033) ∧ (I 4033) ≤ 7 + (I 2774)) ∧ 0 ≤ (I 5889) ∧ (I 5889) ≤ (I 2774)) (hSC : m_SC I A) (hTR : m_TR lo I A) (hk : 1 ≤ (A 45) ((I 2774)) ∧ (A 45) ((I 2774)) ≤ 6) (hm : (I 2754) - (I 2774) ≤ N) : w_W (z_P L xs) d 272 (0, [(0, .ref 43), (1, .int (Int32.ofInt (vl)))], [], M) (m_thread_Q fr X u l I A B C M vl lo) := by
  obtain ⟨ra_vl, rb_vl⟩ := r_vl
  obtain ⟨d, rfl⟩ : ∃ d0, d = d0 + 1 := ⟨d - 1, by omega⟩
  have wl : (I 2774) + 1 < (I 2754) := m_TK_lt hTK (by omega) (by omega) (by omega)
  refine w_adv (n := 1) (F' := (1, [(0, .ref 43), (1, .int (Int32.ofInt (vl)))], [.ref 43], M)) rfl ?_
  refine w_call (cm := 235) (as := [(0, .ref 43)]) (rest := []) (o := some (9, 43)) rfl (w_fitR hR rfl) (m_enter hR (show 2 ≤ d by omega) (show 0 ≤ (I 2774) ∧ (I 2774) < 1501 by omega) (show 0 ≤ (I 2775) ∧ (I 2775) ≤ 24 by first | assumption | omega)) (fun r1 M2 q3 => ?_)
  rcases q3 with ⟨e4, hR3a, f5⟩ | ⟨I3b, A3b, B3b, C3b, e6, hR3b, f7⟩
  · rw [e4]
    replace hR3a : w_Rep w_TM fr X u l (w_up (w_up I 2775 ((I 2775) + 1)) 2774 ((I 2774) + 1)) A B C M2 := hR3a
    replace f5 : (I 2775) < 24 := f5
    have w8 : (I 2774) + 1 < (I 2754) := m_TK_lt hTK (show (I 2774) < (I 2754) by omega) (show 1 ≤ (A 45) ((I 2774)) by omega) (show (A 45) ((I 2774)) ≤ 6 by omega)
    show w_W _ _ _ (4, [(0, .ref 43), (1, .int (Int32.ofInt (vl)))], [], M2) _
    refine w_adv (n := 2) (F' := (6, [(0, .ref 43), (1, .int (Int32.ofInt (vl)))], [.int (Int32.ofInt (vl)), .ref 43], M2)) rfl ?_
    refine w_call (cm := 242) (as := [(0, .ref 43), (1, .int (Int32.ofInt (vl)))]) (rest := []) (o := some (9, 43)) rfl (w_fitR hR3a rfl) (m_bodyOr hA (vl) (lo) hR3a (show 20 * (24 - ((I 2775) + 1)) + 21 ≤ (d : Int) by omega) ⟨by omega, by omega⟩ (show m_TK (w_up (w_up I 2775 ((I 2775) + 1)) 2774 ((I 2774) + 1)) A by exact hTK) (show (0 ≤ (I 2774) + 1 ∧ (I 2774) + 1 < (I 2754) ∧ (I 2754) ≤ 1501 ∧ 0 ≤ (I 2775) + 1 ∧ (I 2775) + 1 ≤ 24) ∧ ((I 3393) = (I 3905) ∧ (I 3521) = (I 3905) ∧ (I 3649) = (I 3905) ∧ (I 3777) = (I 3905) ∧ 0 ≤ (I 3905) ∧ (I 3905) ≤ 3 * ((I 2774) + 1)) ∧ ((I 4161) = (I 4033) ∧ 7 ≤ (I 4289) ∧ (I 4289) ≤ (I 4033) ∧ (I 4033) ≤ 7 + ((I 2774) + 1)) ∧ 0 ≤ (I 5889) ∧ (I 5889) ≤ (I 2774) + 1 by (repeat' apply And.intro) <;> omega) (show m_SC (w_up (w_up I 2775 ((I 2775) + 1)) 2774 ((I 2774) + 1)) A by exact hSC) (show m_TR lo (w_up (w_up I 2775 ((I 2775) + 1)) 2774 ((I 2774) + 1)) A by exact hTR) (show (I 2754) - ((I 2774) + 1) < N by first | assumption | omega)) (fun r9 M10 q11 => ?_)
    rcases q11 with ⟨v12, lo13, I11a, A11a, B11a, C11a, e14, ⟨r15, r16⟩, hR11a, f17, f18, f19, f20, f21, f22, f23⟩ | ⟨I11b, A11b, B11b, C11b, e24, hR11b, f25⟩
    · rw [e14]
      replace hR11a : w_Rep w_TM fr X u l I11a A11a B11a C11a M10 := hR11a
      replace f17 : m_fx (w_up (w_up I 2775 ((I 2775) + 1)) 2774 ((I 2774) + 1)) A I11a A11a := f17
      replace f18 : ((0 ≤ (I11a 2774) ∧ (I11a 2774) < (I11a 2754) ∧ (I11a 2754) ≤ 1501 ∧ 0 ≤ (I11a 2775) ∧ (I11a 2775) ≤ 24) ∧ ((I11a 3393) = (I11a 3905) ∧ (I11a 3521) = (I11a 3905) ∧ (I11a 3649) = (I11a 3905) ∧ (I11a 3777) = (I11a 3905) ∧ 0 ≤ (I11a 3905) ∧ (I11a 3905) ≤ 3 * (I11a 2774)) ∧ ((I11a 4161) = (I11a 4033) ∧ 7 ≤ (I11a 4289) ∧ (I11a 4289) ≤ (I11a 4033) ∧ (I11a 4033) ≤ 7 + (I11a 2774)) ∧ 0 ≤ (I11a 5889) ∧ (I11a 5889) ≤ (I11a 2774)) ∧ ((I11a 2754) = (I 2754) ∧ ((I 2774) + 1) + 1 ≤ (I11a 2774) ∧ (I11a 2775) = (I 2775) + 1 ∧ (I11a 4289) = (I 4289) + 0 ∧ (I11a 5889) = (I 5889)) ∧ ((I11a 3905) + 1 ≤ (I 3905) + 3 * ((I11a 2774) - ((I 2774) + 1)) ∧ (I 3905) ≤ v12 ∧ v12 + 1 = (I11a 3905) ∧ (I 4033) ≤ (I11a 4033) ∧ (I11a 4033) ≤ (I 4033) + ((I11a 2774) - ((I 2774) + 1))) := f18
      replace f19 : m_SC I11a A11a := f19
      replace f20 : m_TR lo13 I11a A11a := f20
      replace f21 : m_ST lo (w_up (w_up I 2775 ((I 2775) + 1)) 2774 ((I 2774) + 1)) A lo13 I11a A11a := f21
      replace f22 : t_B ((A11a 53) (v12)) := f22
      replace f23 : m_rt lo13 (I11a 3905) v12 := f23
      have tk26 : m_TK I11a A11a := m_TK_fx f17 hTK
      have s27 : m_ST lo I A lo13 I11a A11a := f21
      have k28 : m_kd lo13 I11a A11a (I 3905) v12 t_B := m_kd_of f21 f20 (by omega) (by omega) (by omega) f22
      have j29 := k28.1
      show w_W _ _ _ (9, [(0, .ref 43), (1, .int (Int32.ofInt (vl)))], [.int (Int32.ofInt (v12))], M10) _
      refine w_adv (n := 3) (F' := (12, [(2, .int (Int32.ofInt (v12))), (0, .ref 43), (1, .int (Int32.ofInt (vl)))], [.int (Int32.ofInt (3)), .ref 43], M10)) rfl ?_
      refine w_call (cm := 244) (as := [(0, .ref 43), (1, .int (Int32.ofInt (3)))]) (rest := []) (o := some (9, 43)) rfl (w_fitR hR11a rfl) (m_closeWord (3) hR11a (show 3 ≤ d by omega) ⟨by omega, by omega⟩ (show 0 ≤ (I11a 2774) ∧ (I11a 2774) < 1501 by omega) (show 1 ≤ (I11a 2775) ∧ (I11a 2775) ≤ 24 by first | assumption | omega)) (fun r30 M31 q32 => ?_)
      rcases q32 with ⟨e33, hR32a, f34⟩ | ⟨I32b, A32b, B32b, C32b, e35, hR32b, f36⟩
      · rw [e33]
        replace hR32a : w_Rep w_TM fr X u l (w_up (w_up I11a 2774 ((I11a 2774) + 1)) 2775 ((I11a 2775) - 1)) A11a B11a C11a M31 := hR32a
        replace f34 : (A11a 45) ((I11a 2774)) = 5 ∧ (A11a 46) ((I11a 2774)) = 3 := f34
        have w37 : (I11a 2774) + 1 < (I11a 2754) := m_TK_lt tk26 (show (I11a 2774) < (I11a 2754) by omega) (show 1 ≤ (A11a 45) ((I11a 2774)) by omega) (show (A11a 45) ((I11a 2774)) ≤ 6 by omega)
        show w_W _ _ _ (15, [(2, .int (Int32.ofInt (v12))), (0, .ref 43), (1, .int (Int32.ofInt (vl)))], [], M31) _
        refine w_adv (n := 5) (F' := (21, [(2, .int (Int32.ofInt (v12))), (0, .ref 43), (1, .int (Int32.ofInt (vl)))], [.int (Int32.ofInt (0)), .int (Int32.ofInt (0)), .int (Int32.ofInt (v12)), .int (Int32.ofInt (18)), .ref 43], M31)) rfl ?_
        refine w_call (cm := 239) (as := [(0, .ref 43), (1, .int (Int32.ofInt (18))), (2, .int (Int32.ofInt (v12))), (3, .int (Int32.ofInt (0))), (4, .int (Int32.ofInt (0)))]) (rest := []) (o := some (9, 43)) rfl (w_fitR hR32a rfl) (m_node (18) (v12) (0) (0) hR32a (show 2 ≤ d by omega) ⟨by omega, by omega⟩ ⟨by omega, by omega⟩ ⟨by omega, by omega⟩ ⟨by omega, by omega⟩ (show (I11a 3393) = (I11a 3905) by first | assumption | omega) (show (I11a 3521) = (I11a 3905) by first | assumption | omega) (show (I11a 3649) = (I11a 3905) by first | assumption | omega) (show (I11a 3777) = (I11a 3905) by first | assumption | omega) (show (I11a 3905) < 65536 by first | assumption | omega)) (fun r38 M39 q40 => ?_)
        rcases q40 with ⟨v41, I40a, A40a, B40a, C40a, e42, ⟨r43, r44⟩, hR40a, f45, f46⟩
        rw [e42]
        replace hR40a : w_Rep w_TM fr X u l I40a A40a B40a C40a M39 := hR40a
        replace f45 : m_fx (w_up (w_up I11a 2774 ((I11a 2774) + 1)) 2775 ((I11a 2775) - 1)) A11a I40a A40a := f45
        replace f46 : m_nd (w_up (w_up I11a 2774 ((I11a 2774) + 1)) 2775 ((I11a 2775) - 1)) A11a I40a A40a v41 18 v12 0 0 := f46
        have j47 : (v41 = (I11a 3905) ∧ (I40a 3905) = (I11a 3905) + 1 ∧ (I40a 3393) = (I11a 3393) + 1 ∧ (I40a 3521) = (I11a 3521) + 1 ∧ (I40a 3649) = (I11a 3649) + 1 ∧ (I40a 3777) = (I11a 3777) + 1) ∧ ((I40a 2774) = (I11a 2774) + 1 ∧ (I40a 2754) = (I11a 2754) ∧ (I40a 2775) = (I11a 2775) - 1 ∧ (I40a 4289) = (I11a 4289) ∧ (I40a 4033) = (I11a 4033) ∧ (I40a 4161) = (I11a 4161) ∧ (I40a 5889) = (I11a 5889)) := m_nd_num f46
        have tk48 : m_TK I40a A40a := m_TK_fx f45 tk26
        have sc49 := m_SC_nd f46 f19
        have tr50 : m_TR (t_up lo13 v41 (I 3905)) I40a A40a := m_TR_nd (show m_TR lo13 (w_up (w_up I11a 2774 ((I11a 2774) + 1)) 2775 ((I11a 2775) - 1)) A11a from f20) f46 (by omega) (by omega) (m_cl_ST (show m_ST lo I A lo13 (w_up (w_up I11a 2774 ((I11a 2774) + 1)) 2775 ((I11a 2775) - 1)) A11a from s27) hTR (by omega)) (t_N_mk18 t_up_same (by omega) (by omega) (m_ch f46 (by omega) k28))
        have s51 := m_ST_nd (l := (I 3905)) (show m_ST lo I A lo13 (w_up (w_up I11a 2774 ((I11a 2774) + 1)) 2775 ((I11a 2775) - 1)) A11a from s27) f46 (show (I 3905) ≤ (I 3905) by omega) (show (I 3905) ≤ (I11a 3905) by omega)
        have k52 : m_kd (t_up lo13 v41 (I 3905)) I40a A40a (I 3905) v41 (fun k => k = 18) := m_kd_new f46 (by omega) (by omega) rfl
        have j53 := k52.1
        have rt54 : m_rt (t_up lo13 v41 (I 3905)) (I40a 3905) v41 := m_rt_new f46
        show w_W _ _ _ (24, [(2, .int (Int32.ofInt (v12))), (0, .ref 43), (1, .int (Int32.ofInt (vl)))], [.int (Int32.ofInt (v41))], M39) _
        refine w_fin (r := .inl (some (v41))) (M' := M39) rfl ?_
        exact Or.inl ⟨v41, (t_up lo13 v41 (I 3905)), I40a, A40a, B40a, C40a, rfl, ⟨by omega, by omega⟩, hR40a, (show m_fx I A I40a A40a by exact (m_fx_trans f17 f45)), (show ((0 ≤ (I40a 2774) ∧ (I40a 2774) < (I40a 2754) ∧ (I40a 2754) ≤ 1501 ∧ 0 ≤ (I40a 2775) ∧ (I40a 2775) ≤ 24) ∧ ((I40a 3393) = (I40a 3905) ∧ (I40a 3521) = (I40a 3905) ∧ (I40a 3649) = (I40a 3905) ∧ (I40a 3777) = (I40a 3905) ∧ 0 ≤ (I40a 3905) ∧ (I40a 3905) ≤ 3 * (I40a 2774)) ∧ ((I40a 4161) = (I40a 4033) ∧ 7 ≤ (I40a 4289) ∧ (I40a 4289) ≤ (I40a 4033) ∧ (I40a 4033) ≤ 7 + (I40a 2774)) ∧ 0 ≤ (I40a 5889) ∧ (I40a 5889) ≤ (I40a 2774)) ∧ ((I40a 2754) = (I 2754) ∧ (I 2774) + 1 ≤ (I40a 2774) ∧ (I40a 2775) = (I 2775) ∧ (I40a 4289) = (I 4289) + 0 ∧ (I40a 5889) = (I 5889)) ∧ ((I40a 3905) + 2 ≤ (I 3905) + 3 * ((I40a 2774) - (I 2774)) ∧ (I 3905) ≤ v41 ∧ v41 + 1 = (I40a 3905) ∧ (I 4033) ≤ (I40a 4033) ∧ (I40a 4033) ≤ (I 4033) + ((I40a 2774) - (I 2774))) by (repeat' apply And.intro) <;> omega), (show m_SC I40a A40a by exact sc49), (show m_TR (t_up lo13 v41 (I 3905)) I40a A40a by exact tr50), (show m_ST lo I A (t_up lo13 v41 (I 3905)) I40a A40a by exact s51), (show (fun k => k = 18) ((A40a 53) (v41)) by exact (k52).2), (show m_rt (t_up lo13 v41 (I 3905)) (I40a 3905) v41 by exact rt54)⟩
      · rw [e35]
        replace hR32b : w_Rep w_TM fr X u l I32b A32b B32b C32b M31 := hR32b
        replace f36 : m_fx I11a A11a I32b A32b := f36
        exact Or.inr (⟨I32b, A32b, B32b, C32b, rfl, hR32b, (show m_fx I A I32b A32b by exact (m_fx_trans f17 f36))⟩)
    · rw [e24]
      replace hR11b : w_Rep w_TM fr X u l I11b A11b B11b C11b M10 := hR11b
      replace f25 : m_fx (w_up (w_up I 2775 ((I 2775) + 1)) 2774 ((I 2774) + 1)) A I11b A11b := f25
      exact Or.inr (⟨I11b, A11b, B11b, C11b, rfl, hR11b, (show m_fx I A I11b A11b by exact f25)⟩)
  · rw [e6]
    replace hR3b : w_Rep w_TM fr X u l I3b A3b B3b C3b M2 := hR3b
    replace f7 : m_fx I A I3b A3b := f7
    exact Or.inr (⟨I3b, A3b, B3b, C3b, rfl, hR3b, (show m_fx I A I3b A3b by exact f7)⟩)
