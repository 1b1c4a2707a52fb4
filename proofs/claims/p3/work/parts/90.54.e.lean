def m_bodyOr_Q (fr : Nat → Bool) (X : Nat → Option (q_C (Nat → Int32))) (u l : Nat) (I : Nat → Int) (A : Nat → Int → Int) (B C : Nat → Nat) (M : w_M) (vl : Int) (lo : Int → Int × Int) : w_X → w_M → Prop := fun r M' => (∃ v : Int, ∃ lo' : Int → Int × Int, ∃ (I' : Nat → Int) (A' : Nat → Int → Int) (B' C' : Nat → Nat), (r = .inl (some v)) ∧ (w_in v) ∧ (w_Rep w_TM fr X u l I' A' B' C' M') ∧ (m_fx I A I' A') ∧ (((0 ≤ (I' 2774) ∧ (I' 2774) < (I' 2754) ∧ (I' 2754) ≤ 1501 ∧ 0 ≤ (I' 2775) ∧ (I' 2775) ≤ 24) ∧ ((I' 3393) = (I' 3905) ∧ (I' 3521) = (I' 3905) ∧ (I' 3649) = (I' 3905) ∧ (I' 3777) = (I' 3905) ∧ 0 ≤ (I' 3905) ∧ (I' 3905) ≤ 3 * (I' 2774)) ∧ ((I' 4161) = (I' 4033) ∧ 7 ≤ (I' 4289) ∧ (I' 4289) ≤ (I' 4033) ∧ (I' 4033) ≤ 7 + (I' 2774)) ∧ 0 ≤ (I' 5889) ∧ (I' 5889) ≤ (I' 2774)) ∧ ((I' 2754) = (I 2754) ∧ (I 2774) + 1 ≤ (I' 2774) ∧ (I' 2775) = (I 2775) ∧ (I' 4289) = (I 4289) + 0 ∧ (I' 5889) = (I 5889)) ∧ ((I' 3905) + 1 ≤ (I 3905) + 3 * ((I' 2774) - (I 2774)) ∧ (I 3905) ≤ v ∧ v + 1 = (I' 3905) ∧ (I 4033) ≤ (I' 4033) ∧ (I' 4033) ≤ (I 4033) + ((I' 2774) - (I 2774)))) ∧ (m_SC I' A') ∧ (m_TR lo' I' A') ∧ (m_ST lo I A lo' I' A') ∧ (t_B ((A' 53) (v))) ∧ (m_rt lo' (I' 3905) v) ∧ (m_RK lo' (I 3905) (I' 3905) (8 * (24 - (I 2775)) + 7))) ∨ (∃ (I' : Nat → Int) (A' : Nat → Int → Int) (B' C' : Nat → Nat), (r = .inr 69) ∧ (w_Rep w_TM fr X u l I' A' B' C' M') ∧ (m_fx I A I' A'))
set_option maxHeartbeats 100000000 in
set_option maxRecDepth 100000 in
theorem m_bodyOr {L : Nat} {xs : Nat → Int32} {d : Nat} {fr : Nat → Bool} {X : Nat → Option (q_C (Nat → Int32))} {u l : Nat} {I : Nat → Int} {A : Nat → Int → Int} {B C : Nat → Nat} {M : w_M} {N : Int} (hA : m_all L xs N) (vl : Int) (lo : Int → Int × Int) (hR : w_Rep w_TM fr X u l I A B C M) (hd : 20 * (24 - (I 2775)) + 21 ≤ (d : Int)) (r_vl : w_in vl) (hTK : m_TK I A) (hNU : (0 ≤ (I 2774) ∧ (I 2774) < (I 2754) ∧ (I 2754) ≤ 1501 ∧ 0 ≤ (I 2775) ∧ (I 2775) ≤ 24) ∧ ((I 3393) = (I 3905) ∧ (I 3521) = (I 3905) ∧ (I 3649) = (I 3905) ∧ (I 3777) = (I 3905) ∧ 0 ≤ (I 3905) ∧ (I 3905) ≤ 3 * (I 2774)) ∧ ((I 4161) = (I 4033) ∧ 7 ≤ (I 4289) ∧ (I 4289) ≤ (I 4033) ∧ (I 4033) ≤ 7 + (I 2774)) ∧ 0 ≤ (I 5889) ∧ (I 5889) ≤ (I 2774)) (hSC : m_SC I A) (hTR : m_TR lo I A) (hm : (I 2754) - (I 2774) < N) : w_W (z_P L xs) d 242 (0, [(0, .ref 43), (1, .int (Int32.ofInt (vl)))], [], M) (m_bodyOr_Q fr X u l I A B C M vl lo) := by
  obtain ⟨ra_vl, rb_vl⟩ := r_vl
  obtain ⟨d, rfl⟩ : ∃ d0, d = d0 + 1 := ⟨d - 1, by omega⟩
  refine w_adv (n := 1) (F' := (1, [(0, .ref 43), (1, .int (Int32.ofInt (vl)))], [.int (Int32.ofInt (vl))], M)) rfl ?_
  refine w_br1 (a := vl) rfl rfl ⟨by omega, by omega⟩ (fun h1 => ?_) (fun h1 => ?_)
  · have h1 : vl = 0 := h1
    show w_W _ _ _ (11, [(0, .ref 43), (1, .int (Int32.ofInt (vl)))], [], M) _
    refine w_adv (n := 1) (F' := (12, [(0, .ref 43), (1, .int (Int32.ofInt (vl)))], [.ref 43], M)) rfl ?_
    refine w_call (cm := 227) (as := [(0, .ref 43)]) (rest := []) (o := some (9, 43)) rfl (w_fitR hR rfl) (hA.2.1 (lo) hR (show 20 * (24 - (I 2775)) + 19 ≤ (d : Int) by omega) (show m_TK I A by exact hTK) (show (0 ≤ (I 2774) ∧ (I 2774) < (I 2754) ∧ (I 2754) ≤ 1501 ∧ 0 ≤ (I 2775) ∧ (I 2775) ≤ 24) ∧ ((I 3393) = (I 3905) ∧ (I 3521) = (I 3905) ∧ (I 3649) = (I 3905) ∧ (I 3777) = (I 3905) ∧ 0 ≤ (I 3905) ∧ (I 3905) ≤ 3 * (I 2774)) ∧ ((I 4161) = (I 4033) ∧ 7 ≤ (I 4289) ∧ (I 4289) ≤ (I 4033) ∧ (I 4033) ≤ 7 + (I 2774)) ∧ 0 ≤ (I 5889) ∧ (I 5889) ≤ (I 2774) by (repeat' apply And.intro) <;> first | assumption | omega) (show m_SC I A by exact hSC) (show m_TR lo I A by exact hTR) (show (I 2754) - (I 2774) < N by first | assumption | omega)) (fun r2 M3 q4 => ?_)
    rcases q4 with ⟨v5, lo6, I4a, A4a, B4a, C4a, e7, ⟨r8, r9⟩, hR4a, f10, f11, f12, f13, f14, f15, f16, f17⟩ | ⟨I4b, A4b, B4b, C4b, e18, hR4b, f19⟩
    · rw [e7]
      replace hR4a : w_Rep w_TM fr X u l I4a A4a B4a C4a M3 := hR4a
      replace f10 : m_fx I A I4a A4a := f10
      replace f11 : ((0 ≤ (I4a 2774) ∧ (I4a 2774) < (I4a 2754) ∧ (I4a 2754) ≤ 1501 ∧ 0 ≤ (I4a 2775) ∧ (I4a 2775) ≤ 24) ∧ ((I4a 3393) = (I4a 3905) ∧ (I4a 3521) = (I4a 3905) ∧ (I4a 3649) = (I4a 3905) ∧ (I4a 3777) = (I4a 3905) ∧ 0 ≤ (I4a 3905) ∧ (I4a 3905) ≤ 3 * (I4a 2774)) ∧ ((I4a 4161) = (I4a 4033) ∧ 7 ≤ (I4a 4289) ∧ (I4a 4289) ≤ (I4a 4033) ∧ (I4a 4033) ≤ 7 + (I4a 2774)) ∧ 0 ≤ (I4a 5889) ∧ (I4a 5889) ≤ (I4a 2774)) ∧ ((I4a 2754) = (I 2754) ∧ (I 2774) + 1 ≤ (I4a 2774) ∧ (I4a 2775) = (I 2775) ∧ (I4a 4289) = (I 4289) + 0 ∧ (I4a 5889) = (I 5889)) ∧ ((I4a 3905) + 1 ≤ (I 3905) + 3 * ((I4a 2774) - (I 2774)) ∧ (I 3905) ≤ v5 ∧ v5 + 1 = (I4a 3905) ∧ (I 4033) ≤ (I4a 4033) ∧ (I4a 4033) ≤ (I 4033) + ((I4a 2774) - (I 2774))) := f11
      obtain ⟨⟨⟨n20, n21, n22, n23, n24⟩, ⟨n25, n26, n27, n28, n29, n30⟩, ⟨n31, n32, n33, n34⟩, n35, n36⟩, ⟨n37, n38, n39, n40, n41⟩, ⟨n42, n43, n44, n45, n46⟩⟩ := id f11
      clear f11
      replace f12 : m_SC I4a A4a := f12
      replace f13 : m_TR lo6 I4a A4a := f13
      replace f14 : m_ST lo I A lo6 I4a A4a := f14
      replace f15 : (fun k => k = 25) ((A4a 53) (v5)) := f15
      replace f16 : m_rt lo6 (I4a 3905) v5 := f16
      replace f17 : m_RK lo6 (I 3905) (I4a 3905) (8 * (24 - (I 2775)) + 7) := f17
      have tk47 : m_TK I4a A4a := m_TK_fx f10 hTK
      have nn48 : (I 3905) ≤ (I4a 3905) := by omega
      have nz49 : 0 ≤ (I 3905) := by first | assumption | omega
      have ho50 : (I 2775) = (I 2775) + (0) := by omega
      have rk52 : m_RK lo6 (I 3905) (I4a 3905) (8 * (24 - (I 2775)) + (7)) := m_RK_app (I := I) (I' := I4a) (R := (8 * (24 - (I 2775)) + (7))) (show m_RK lo (I 3905) (I 3905) (8 * (24 - (I 2775)) + (7)) from fun q q1 q2 => by omega) f14 f17 (show 0 ≤ (I 3905) by first | assumption | omega) (m_r8 (by decide)) (m_r8o (k := 0) ho50 (by decide))
      have s51 : m_ST lo I A lo6 I4a A4a := f14
      have k53 : m_kd lo6 I4a A4a (I 3905) (8 * (24 - (I 2775)) + 7) v5 (fun k => k = 25) := m_kd_of f14 f13 nz49 (show (I 3905) ≤ v5 by first | assumption | omega) (show v5 < (I4a 3905) by omega) f15 f17
      obtain ⟨j54, j55, j56, j57, j58⟩ := k53.1
      show w_W _ _ _ (15, [(0, .ref 43), (1, .int (Int32.ofInt (vl)))], [.int (Int32.ofInt (v5))], M3) _
      refine w_fin (r := .inl (some (v5))) (M' := M3) rfl ?_
      exact Or.inl ⟨v5, lo6, I4a, A4a, B4a, C4a, rfl, ⟨by omega, by omega⟩, hR4a, (show m_fx I A I4a A4a by exact f10), (show ((0 ≤ (I4a 2774) ∧ (I4a 2774) < (I4a 2754) ∧ (I4a 2754) ≤ 1501 ∧ 0 ≤ (I4a 2775) ∧ (I4a 2775) ≤ 24) ∧ ((I4a 3393) = (I4a 3905) ∧ (I4a 3521) = (I4a 3905) ∧ (I4a 3649) = (I4a 3905) ∧ (I4a 3777) = (I4a 3905) ∧ 0 ≤ (I4a 3905) ∧ (I4a 3905) ≤ 3 * (I4a 2774)) ∧ ((I4a 4161) = (I4a 4033) ∧ 7 ≤ (I4a 4289) ∧ (I4a 4289) ≤ (I4a 4033) ∧ (I4a 4033) ≤ 7 + (I4a 2774)) ∧ 0 ≤ (I4a 5889) ∧ (I4a 5889) ≤ (I4a 2774)) ∧ ((I4a 2754) = (I 2754) ∧ (I 2774) + 1 ≤ (I4a 2774) ∧ (I4a 2775) = (I 2775) ∧ (I4a 4289) = (I 4289) + 0 ∧ (I4a 5889) = (I 5889)) ∧ ((I4a 3905) + 1 ≤ (I 3905) + 3 * ((I4a 2774) - (I 2774)) ∧ (I 3905) ≤ v5 ∧ v5 + 1 = (I4a 3905) ∧ (I 4033) ≤ (I4a 4033) ∧ (I4a 4033) ≤ (I 4033) + ((I4a 2774) - (I 2774))) by (repeat' apply And.intro) <;> first | assumption | omega), (show m_SC I4a A4a by exact f12), (show m_TR lo6 I4a A4a by exact f13), (show m_ST lo I A lo6 I4a A4a by exact s51), (show t_B ((A4a 53) (v5)) by exact ((m_kd_K k53 (fun k h => by have h : k = 25 := h; unfold t_B; omega))).2), (show m_rt lo6 (I4a 3905) v5 by exact f16), (show m_RK lo6 (I 3905) (I4a 3905) (8 * (24 - (I 2775)) + 7) by exact m_RK_le (show m_RK lo6 (I 3905) (I4a 3905) (8 * (24 - (I 2775)) + (7)) from rk52) (show (8 * (24 - (I 2775)) + (7)) ≤ 8 * (24 - (I 2775)) + 7 by omega))⟩
    · rw [e18]
      replace hR4b : w_Rep w_TM fr X u l I4b A4b B4b C4b M3 := hR4b
      replace f19 : m_fx I A I4b A4b := f19
      exact Or.inr (⟨I4b, A4b, B4b, C4b, rfl, hR4b, (show m_fx I A I4b A4b by exact f19)⟩)
  · have h1 : ¬ (vl = 0) := h1
    show w_W _ _ _ (4, [(0, .ref 43), (1, .int (Int32.ofInt (vl)))], [], M) _
    refine w_adv (n := 1) (F' := (5, [(0, .ref 43), (1, .int (Int32.ofInt (vl)))], [.ref 43], M)) rfl ?_
    refine w_call (cm := 243) (as := [(0, .ref 43)]) (rest := []) (o := some (9, 43)) rfl (w_fitR hR rfl) (hA.2.2 (lo) hR (show 20 * (24 - (I 2775)) + 20 ≤ (d : Int) by omega) (show m_TK I A by exact hTK) (show (0 ≤ (I 2774) ∧ (I 2774) < (I 2754) ∧ (I 2754) ≤ 1501 ∧ 0 ≤ (I 2775) ∧ (I 2775) ≤ 24) ∧ ((I 3393) = (I 3905) ∧ (I 3521) = (I 3905) ∧ (I 3649) = (I 3905) ∧ (I 3777) = (I 3905) ∧ 0 ≤ (I 3905) ∧ (I 3905) ≤ 3 * (I 2774)) ∧ ((I 4161) = (I 4033) ∧ 7 ≤ (I 4289) ∧ (I 4289) ≤ (I 4033) ∧ (I 4033) ≤ 7 + (I 2774)) ∧ 0 ≤ (I 5889) ∧ (I 5889) ≤ (I 2774) by (repeat' apply And.intro) <;> first | assumption | omega) (show m_SC I A by exact hSC) (show m_TR lo I A by exact hTR) (show (I 2754) - (I 2774) < N by first | assumption | omega)) (fun r59 M60 q61 => ?_)
    rcases q61 with ⟨v62, lo63, I61a, A61a, B61a, C61a, e64, ⟨r65, r66⟩, hR61a, f67, f68, f69, f70, f71, f72, f73, f74⟩ | ⟨I61b, A61b, B61b, C61b, e75, hR61b, f76⟩
    · rw [e64]
      replace hR61a : w_Rep w_TM fr X u l I61a A61a B61a C61a M60 := hR61a
      replace f67 : m_fx I A I61a A61a := f67
      replace f68 : ((0 ≤ (I61a 2774) ∧ (I61a 2774) < (I61a 2754) ∧ (I61a 2754) ≤ 1501 ∧ 0 ≤ (I61a 2775) ∧ (I61a 2775) ≤ 24) ∧ ((I61a 3393) = (I61a 3905) ∧ (I61a 3521) = (I61a 3905) ∧ (I61a 3649) = (I61a 3905) ∧ (I61a 3777) = (I61a 3905) ∧ 0 ≤ (I61a 3905) ∧ (I61a 3905) ≤ 3 * (I61a 2774)) ∧ ((I61a 4161) = (I61a 4033) ∧ 7 ≤ (I61a 4289) ∧ (I61a 4289) ≤ (I61a 4033) ∧ (I61a 4033) ≤ 7 + (I61a 2774)) ∧ 0 ≤ (I61a 5889) ∧ (I61a 5889) ≤ (I61a 2774)) ∧ ((I61a 2754) = (I 2754) ∧ (I 2774) + 1 ≤ (I61a 2774) ∧ (I61a 2775) = (I 2775) ∧ (I61a 4289) = (I 4289) + 0 ∧ (I61a 5889) = (I 5889)) ∧ ((I61a 3905) + 1 ≤ (I 3905) + 3 * ((I61a 2774) - (I 2774)) ∧ (I 3905) ≤ v62 ∧ v62 + 1 = (I61a 3905) ∧ (I 4033) ≤ (I61a 4033) ∧ (I61a 4033) ≤ (I 4033) + ((I61a 2774) - (I 2774))) := f68
      obtain ⟨⟨⟨n77, n78, n79, n80, n81⟩, ⟨n82, n83, n84, n85, n86, n87⟩, ⟨n88, n89, n90, n91⟩, n92, n93⟩, ⟨n94, n95, n96, n97, n98⟩, ⟨n99, n100, n101, n102, n103⟩⟩ := id f68
      clear f68
      replace f69 : m_SC I61a A61a := f69
      replace f70 : m_TR lo63 I61a A61a := f70
      replace f71 : m_ST lo I A lo63 I61a A61a := f71
      replace f72 : (fun k => k = 19) ((A61a 53) (v62)) := f72
      replace f73 : m_rt lo63 (I61a 3905) v62 := f73
      replace f74 : m_RK lo63 (I 3905) (I61a 3905) (8 * (24 - (I 2775)) + 7) := f74
      have tk104 : m_TK I61a A61a := m_TK_fx f67 hTK
      have nn105 : (I 3905) ≤ (I61a 3905) := by omega
      have nz106 : 0 ≤ (I 3905) := by first | assumption | omega
      have ho107 : (I 2775) = (I 2775) + (0) := by omega
      have rk109 : m_RK lo63 (I 3905) (I61a 3905) (8 * (24 - (I 2775)) + (7)) := m_RK_app (I := I) (I' := I61a) (R := (8 * (24 - (I 2775)) + (7))) (show m_RK lo (I 3905) (I 3905) (8 * (24 - (I 2775)) + (7)) from fun q q1 q2 => by omega) f71 f74 (show 0 ≤ (I 3905) by first | assumption | omega) (m_r8 (by decide)) (m_r8o (k := 0) ho107 (by decide))
      have s108 : m_ST lo I A lo63 I61a A61a := f71
      have k110 : m_kd lo63 I61a A61a (I 3905) (8 * (24 - (I 2775)) + 7) v62 (fun k => k = 19) := m_kd_of f71 f70 nz106 (show (I 3905) ≤ v62 by first | assumption | omega) (show v62 < (I61a 3905) by omega) f72 f74
      obtain ⟨j111, j112, j113, j114, j115⟩ := k110.1
      show w_W _ _ _ (8, [(0, .ref 43), (1, .int (Int32.ofInt (vl)))], [.int (Int32.ofInt (v62))], M60) _
      refine w_adv (n := 1) (F' := (15, [(0, .ref 43), (1, .int (Int32.ofInt (vl)))], [.int (Int32.ofInt (v62))], M60)) rfl ?_
      refine w_fin (r := .inl (some (v62))) (M' := M60) rfl ?_
      exact Or.inl ⟨v62, lo63, I61a, A61a, B61a, C61a, rfl, ⟨by omega, by omega⟩, hR61a, (show m_fx I A I61a A61a by exact f67), (show ((0 ≤ (I61a 2774) ∧ (I61a 2774) < (I61a 2754) ∧ (I61a 2754) ≤ 1501 ∧ 0 ≤ (I61a 2775) ∧ (I61a 2775) ≤ 24) ∧ ((I61a 3393) = (I61a 3905) ∧ (I61a 3521) = (I61a 3905) ∧ (I61a 3649) = (I61a 3905) ∧ (I61a 3777) = (I61a 3905) ∧ 0 ≤ (I61a 3905) ∧ (I61a 3905) ≤ 3 * (I61a 2774)) ∧ ((I61a 4161) = (I61a 4033) ∧ 7 ≤ (I61a 4289) ∧ (I61a 4289) ≤ (I61a 4033) ∧ (I61a 4033) ≤ 7 + (I61a 2774)) ∧ 0 ≤ (I61a 5889) ∧ (I61a 5889) ≤ (I61a 2774)) ∧ ((I61a 2754) = (I 2754) ∧ (I 2774) + 1 ≤ (I61a 2774) ∧ (I61a 2775) = (I 2775) ∧ (I61a 4289) = (I 4289) + 0 ∧ (I61a 5889) = (I 5889)) ∧ ((I61a 3905) + 1 ≤ (I 3905) + 3 * ((I61a 2774) - (I 2774)) ∧ (I 3905) ≤ v62 ∧ v62 + 1 = (I61a 3905) ∧ (I 4033) ≤ (I61a 4033) ∧ (I61a 4033) ≤ (I 4033) + ((I61a 2774) - (I 2774))) by (repeat' apply And.intro) <;> first | assumption | omega), (show m_SC I61a A61a by exact f69), (show m_TR lo63 I61a A61a by exact f70), (show m_ST lo I A lo63 I61a A61a by exact s108), (show t_B ((A61a 53) (v62)) by exact ((m_kd_K k110 (fun k h => by have h : k = 19 := h; unfold t_B; omega))).2), (show m_rt lo63 (I61a 3905) v62 by exact f73), (show m_RK lo63 (I 3905) (I61a 3905) (8 * (24 - (I 2775)) + 7) by exact m_RK_le (show m_RK lo63 (I 3905) (I61a 3905) (8 * (24 - (I 2775)) + (7)) from rk109) (show (8 * (24 - (I 2775)) + (7)) ≤ 8 * (24 - (I 2775)) + 7 by omega))⟩
    · rw [e75]
      replace hR61b : w_Rep w_TM fr X u l I61b A61b B61b C61b M60 := hR61b
      replace f76 : m_fx I A I61b A61b := f76
      exact Or.inr (⟨I61b, A61b, B61b, C61b, rfl, hR61b, (show m_fx I A I61b A61b by exact f76)⟩)
def m_thread_Q (fr : Nat → Bool) (X : Nat → Option (q_C (Nat → Int32))) (u l : Nat) (I : Nat → Int) (A : Nat → Int → Int) (B C : Nat → Nat) (M : w_M) (vl : Int) (lo : Int → Int × Int) : w_X → w_M → Prop := fun r M' => (∃ v : Int, ∃ lo' : Int → Int × Int, ∃ (I' : Nat → Int) (A' : Nat → Int → Int) (B' C' : Nat → Nat), (r = .inl (some v)) ∧ (w_in v) ∧ (w_Rep w_TM fr X u l I' A' B' C' M') ∧ (m_fx I A I' A') ∧ (((0 ≤ (I' 2774) ∧ (I' 2774) < (I' 2754) ∧ (I' 2754) ≤ 1501 ∧ 0 ≤ (I' 2775) ∧ (I' 2775) ≤ 24) ∧ ((I' 3393) = (I' 3905) ∧ (I' 3521) = (I' 3905) ∧ (I' 3649) = (I' 3905) ∧ (I' 3777) = (I' 3905) ∧ 0 ≤ (I' 3905) ∧ (I' 3905) ≤ 3 * (I' 2774)) ∧ ((I' 4161) = (I' 4033) ∧ 7 ≤ (I' 4289) ∧ (I' 4289) ≤ (I' 4033) ∧ (I' 4033) ≤ 7 + (I' 2774)) ∧ 0 ≤ (I' 5889) ∧ (I' 5889) ≤ (I' 2774)) ∧ ((I' 2754) = (I 2754) ∧ (I 2774) + 1 ≤ (I' 2774) ∧ (I' 2775) = (I 2775) ∧ (I' 4289) = (I 4289) + 0 ∧ (I' 5889) = (I 5889)) ∧ ((I' 3905) + 2 ≤ (I 3905) + 3 * ((I' 2774) - (I 2774)) ∧ (I 3905) ≤ v ∧ v + 1 = (I' 3905) ∧ (I 4033) ≤ (I' 4033) ∧ (I' 4033) ≤ (I 4033) + ((I' 2774) - (I 2774)))) ∧ (m_SC I' A') ∧ (m_TR lo' I' A') ∧ (m_ST lo I A lo' I' A') ∧ ((fun k => k = 18) ((A' 53) (v))) ∧ (m_rt lo' (I' 3905) v) ∧ (m_RK lo' (I 3905) (I' 3905) (8 * (24 - (I 2775)) + 0))) ∨ (∃ (I' : Nat → Int) (A' : Nat → Int → Int) (B' C' : Nat → Nat), (r = .inr 69) ∧ (w_Rep w_TM fr X u l I' A' B' C' M') ∧ (m_fx I A I' A'))
set_option maxHeartbeats 100000000 in
set_option maxRecDepth 100000 in
theorem m_thread {L : Nat} {xs : Nat → Int32} {d : Nat} {fr : Nat → Bool} {X : Nat → Option (q_C (Nat → Int32))} {u l : Nat} {I : Nat → Int} {A : Nat → Int → Int} {B C : Nat → Nat} {M : w_M} {N : Int} (hA : m_all L xs N) (vl : Int) (lo : Int → Int × Int) (hR : w_Rep w_TM fr X u l I A B C M) (hd : 20 * (24 - (I 2775)) + 11 ≤ (d : Int)) (r_vl : w_in vl) (hTK : m_TK I A) (hNU : (0 ≤ (I 2774) ∧ (I 2774) < (I 2754) ∧ (I 2754) ≤ 1501 ∧ 0 ≤ (I 2775) ∧ (I 2775) ≤ 24) ∧ ((I 3393) = (I 3905) ∧ (I 3521) = (I 3905) ∧ (I 3649) = (I 3905) ∧ (I 3777) = (I 3905) ∧ 0 ≤ (I 3905) ∧ (I 3905) ≤ 3 * (I 2774)) ∧ ((I 4161) = (I 4033) ∧ 7 ≤ (I 4289) ∧ (I 4289) ≤ (I 4033) ∧ (I 4033) ≤ 7 + (I 2774)) ∧ 0 ≤ (I 5889) ∧ (I 5889) ≤ (I 2774)) (hSC : m_SC I A) (hTR : m_TR lo I A) (hk : 1 ≤ (A 45) ((I 2774)) ∧ (A 45) ((I 2774)) ≤ 6) (hm : (I 2754) - (I 2774) ≤ N) : w_W (z_P L xs) d 272 (0, [(0, .ref 43), (1, .int (Int32.ofInt (vl)))], [], M) (m_thread_Q fr X u l I A B C M vl lo) := by
  obtain ⟨ra_vl, rb_vl⟩ := r_vl
  obtain ⟨d, rfl⟩ : ∃ d0, d = d0 + 1 := ⟨d - 1, by omega⟩
  have wl : (I 2774) + 1 < (I 2754) := m_TK_lt hTK (by omega) (by omega) (by omega)
  refine w_adv (n := 1) (F' := (1, [(0, .ref 43), (1, .int (Int32.ofInt (vl)))], [.ref 43], M)) rfl ?_
  refine w_call (cm := 235) (as := [(0, .ref 43)]) (rest := []) (o := some (9, 43)) rfl (w_fitR hR rfl) (m_enter hR (show 2 ≤ d by omega) (show 0 ≤ (I 2774) ∧ (I 2774) < 1501 by omega) (show 0 ≤ (I 2775) ∧ (I 2775) ≤ 24 by first | assumption | omega)) (fun r1 M2 q3 => ?_)
  rcases q3 with ⟨e4, hR3a, f5⟩ | ⟨I3b, A3b, B3b, C3b, e6, hR3b, f7⟩
  · rw [e4]
    replace hR3a : w_Rep w_TM fr X u l (w_up (w_up I 2775 ((I 2775) + 1)) 2774 ((I 2774) + 1)) A B C M2 := hR3a
    replace f5 : (I 2775) < 24 := f5
    have w8 : (I 2774) + 1 < (I 2754) := m_TK_lt hTK (show (I 2774) < (I 2754) by omega) (show 1 ≤ (A 45) ((I 2774)) by omega) (show (A 45) ((I 2774)) ≤ 6 by omega)
    show w_W _ _ _ (4, [(0, .ref 43), (1, .int (Int32.ofInt (vl)))], [], M2) _
    refine w_adv (n := 2) (F' := (6, [(0, .ref 43), (1, .int (Int32.ofInt (vl)))], [.int (Int32.ofInt (vl)), .ref 43], M2)) rfl ?_
    refine w_call (cm := 242) (as := [(0, .ref 43), (1, .int (Int32.ofInt (vl)))]) (rest := []) (o := some (9, 43)) rfl (w_fitR hR3a rfl) (m_bodyOr hA (vl) (lo) hR3a (show 20 * (24 - ((I 2775) + 1)) + 21 ≤ (d : Int) by omega) ⟨by omega, by omega⟩ (show m_TK (w_up (w_up I 2775 ((I 2775) + 1)) 2774 ((I 2774) + 1)) A by exact hTK) (show (0 ≤ (I 2774) + 1 ∧ (I 2774) + 1 < (I 2754) ∧ (I 2754) ≤ 1501 ∧ 0 ≤ (I 2775) + 1 ∧ (I 2775) + 1 ≤ 24) ∧ ((I 3393) = (I 3905) ∧ (I 3521) = (I 3905) ∧ (I 3649) = (I 3905) ∧ (I 3777) = (I 3905) ∧ 0 ≤ (I 3905) ∧ (I 3905) ≤ 3 * ((I 2774) + 1)) ∧ ((I 4161) = (I 4033) ∧ 7 ≤ (I 4289) ∧ (I 4289) ≤ (I 4033) ∧ (I 4033) ≤ 7 + ((I 2774) + 1)) ∧ 0 ≤ (I 5889) ∧ (I 5889) ≤ (I 2774) + 1 by (repeat' apply And.intro) <;> first | assumption | omega) (show m_SC (w_up (w_up I 2775 ((I 2775) + 1)) 2774 ((I 2774) + 1)) A by exact hSC) (show m_TR lo (w_up (w_up I 2775 ((I 2775) + 1)) 2774 ((I 2774) + 1)) A by exact hTR) (show (I 2754) - ((I 2774) + 1) < N by first | assumption | omega)) (fun r9 M10 q11 => ?_)
    rcases q11 with ⟨v12, lo13, I11a, A11a, B11a, C11a, e14, ⟨r15, r16⟩, hR11a, f17, f18, f19, f20, f21, f22, f23, f24⟩ | ⟨I11b, A11b, B11b, C11b, e25, hR11b, f26⟩
    · rw [e14]
      replace hR11a : w_Rep w_TM fr X u l I11a A11a B11a C11a M10 := hR11a
      replace f17 : m_fx (w_up (w_up I 2775 ((I 2775) + 1)) 2774 ((I 2774) + 1)) A I11a A11a := f17
      replace f18 : ((0 ≤ (I11a 2774) ∧ (I11a 2774) < (I11a 2754) ∧ (I11a 2754) ≤ 1501 ∧ 0 ≤ (I11a 2775) ∧ (I11a 2775) ≤ 24) ∧ ((I11a 3393) = (I11a 3905) ∧ (I11a 3521) = (I11a 3905) ∧ (I11a 3649) = (I11a 3905) ∧ (I11a 3777) = (I11a 3905) ∧ 0 ≤ (I11a 3905) ∧ (I11a 3905) ≤ 3 * (I11a 2774)) ∧ ((I11a 4161) = (I11a 4033) ∧ 7 ≤ (I11a 4289) ∧ (I11a 4289) ≤ (I11a 4033) ∧ (I11a 4033) ≤ 7 + (I11a 2774)) ∧ 0 ≤ (I11a 5889) ∧ (I11a 5889) ≤ (I11a 2774)) ∧ ((I11a 2754) = (I 2754) ∧ ((I 2774) + 1) + 1 ≤ (I11a 2774) ∧ (I11a 2775) = (I 2775) + 1 ∧ (I11a 4289) = (I 4289) + 0 ∧ (I11a 5889) = (I 5889)) ∧ ((I11a 3905) + 1 ≤ (I 3905) + 3 * ((I11a 2774) - ((I 2774) + 1)) ∧ (I 3905) ≤ v12 ∧ v12 + 1 = (I11a 3905) ∧ (I 4033) ≤ (I11a 4033) ∧ (I11a 4033) ≤ (I 4033) + ((I11a 2774) - ((I 2774) + 1))) := f18
      obtain ⟨⟨⟨n27, n28, n29, n30, n31⟩, ⟨n32, n33, n34, n35, n36, n37⟩, ⟨n38, n39, n40, n41⟩, n42, n43⟩, ⟨n44, n45, n46, n47, n48⟩, ⟨n49, n50, n51, n52, n53⟩⟩ := id f18
      clear f18
      replace f19 : m_SC I11a A11a := f19
      replace f20 : m_TR lo13 I11a A11a := f20
      replace f21 : m_ST lo (w_up (w_up I 2775 ((I 2775) + 1)) 2774 ((I 2774) + 1)) A lo13 I11a A11a := f21
      replace f22 : t_B ((A11a 53) (v12)) := f22
      replace f23 : m_rt lo13 (I11a 3905) v12 := f23
      replace f24 : m_RK lo13 (I 3905) (I11a 3905) (8 * (24 - ((I 2775) + 1)) + 7) := f24
      have tk54 : m_TK I11a A11a := m_TK_fx f17 hTK
      have nn55 : (I 3905) ≤ (I11a 3905) := by omega
      have nz56 : 0 ≤ (I 3905) := by first | assumption | omega
      have ho57 : (I 2775) + 1 = (I 2775) + (1) := by omega
      have rk59 : m_RK lo13 (I 3905) (I11a 3905) (8 * (24 - (I 2775)) + (-1)) := m_RK_app (I := (w_up (w_up I 2775 ((I 2775) + 1)) 2774 ((I 2774) + 1))) (I' := I11a) (R := (8 * (24 - (I 2775)) + (-1))) (show m_RK lo (I 3905) (I 3905) (8 * (24 - (I 2775)) + (-1)) from fun q q1 q2 => by omega) f21 f24 (show 0 ≤ (I 3905) by first | assumption | omega) (m_r8 (by decide)) (m_r8o (k := 1) ho57 (by decide))
      have s58 : m_ST lo I A lo13 I11a A11a := f21
      have k60 : m_kd lo13 I11a A11a (I 3905) (8 * (24 - ((I 2775) + 1)) + 7) v12 t_B := m_kd_of f21 f20 nz56 (show (I 3905) ≤ v12 by first | assumption | omega) (show v12 < (I11a 3905) by omega) f22 f24
      obtain ⟨j61, j62, j63, j64, j65⟩ := k60.1
      show w_W _ _ _ (9, [(0, .ref 43), (1, .int (Int32.ofInt (vl)))], [.int (Int32.ofInt (v12))], M10) _
      refine w_adv (n := 3) (F' := (12, [(2, .int (Int32.ofInt (v12))), (0, .ref 43), (1, .int (Int32.ofInt (vl)))], [.int (Int32.ofInt (3)), .ref 43], M10)) rfl ?_
      refine w_call (cm := 244) (as := [(0, .ref 43), (1, .int (Int32.ofInt (3)))]) (rest := []) (o := some (9, 43)) rfl (w_fitR hR11a rfl) (m_closeWord (3) hR11a (show 3 ≤ d by omega) ⟨by omega, by omega⟩ (show 0 ≤ (I11a 2774) ∧ (I11a 2774) < 1501 by omega) (show 1 ≤ (I11a 2775) ∧ (I11a 2775) ≤ 24 by first | assumption | omega)) (fun r66 M67 q68 => ?_)
      rcases q68 with ⟨e69, hR68a, f70⟩ | ⟨I68b, A68b, B68b, C68b, e71, hR68b, f72⟩
      · rw [e69]
        replace hR68a : w_Rep w_TM fr X u l (w_up (w_up I11a 2774 ((I11a 2774) + 1)) 2775 ((I11a 2775) - 1)) A11a B11a C11a M67 := hR68a
        replace f70 : (A11a 45) ((I11a 2774)) = 5 ∧ (A11a 46) ((I11a 2774)) = 3 := f70
        obtain ⟨n73, n74⟩ := id f70
        clear f70
        have w75 : (I11a 2774) + 1 < (I11a 2754) := m_TK_lt tk54 (show (I11a 2774) < (I11a 2754) by omega) (show 1 ≤ (A11a 45) ((I11a 2774)) by omega) (show (A11a 45) ((I11a 2774)) ≤ 6 by omega)
        show w_W _ _ _ (15, [(2, .int (Int32.ofInt (v12))), (0, .ref 43), (1, .int (Int32.ofInt (vl)))], [], M67) _
        refine w_adv (n := 5) (F' := (21, [(2, .int (Int32.ofInt (v12))), (0, .ref 43), (1, .int (Int32.ofInt (vl)))], [.int (Int32.ofInt (0)), .int (Int32.ofInt (0)), .int (Int32.ofInt (v12)), .int (Int32.ofInt (18)), .ref 43], M67)) rfl ?_
        refine w_call (cm := 239) (as := [(0, .ref 43), (1, .int (Int32.ofInt (18))), (2, .int (Int32.ofInt (v12))), (3, .int (Int32.ofInt (0))), (4, .int (Int32.ofInt (0)))]) (rest := []) (o := some (9, 43)) rfl (w_fitR hR68a rfl) (m_node (18) (v12) (0) (0) hR68a (show 2 ≤ d by omega) ⟨by omega, by omega⟩ ⟨by omega, by omega⟩ ⟨by omega, by omega⟩ ⟨by omega, by omega⟩ (show (I11a 3393) = (I11a 3905) by first | assumption | omega) (show (I11a 3521) = (I11a 3905) by first | assumption | omega) (show (I11a 3649) = (I11a 3905) by first | assumption | omega) (show (I11a 3777) = (I11a 3905) by first | assumption | omega) (show (I11a 3905) < 65536 by first | assumption | omega)) (fun r76 M77 q78 => ?_)
        rcases q78 with ⟨v79, I78a, A78a, B78a, C78a, e80, ⟨r81, r82⟩, hR78a, f83, f84⟩
        rw [e80]
        replace hR78a : w_Rep w_TM fr X u l I78a A78a B78a C78a M77 := hR78a
        replace f83 : m_fx (w_up (w_up I11a 2774 ((I11a 2774) + 1)) 2775 ((I11a 2775) - 1)) A11a I78a A78a := f83
        replace f84 : m_nd (w_up (w_up I11a 2774 ((I11a 2774) + 1)) 2775 ((I11a 2775) - 1)) A11a I78a A78a v79 18 v12 0 0 := f84
        obtain ⟨⟨n85, n86, n87, n88, n89, n90⟩, ⟨n91, n92, n93, n94, n95, n96, n97⟩⟩ : (v79 = (I11a 3905) ∧ (I78a 3905) = (I11a 3905) + 1 ∧ (I78a 3393) = (I11a 3393) + 1 ∧ (I78a 3521) = (I11a 3521) + 1 ∧ (I78a 3649) = (I11a 3649) + 1 ∧ (I78a 3777) = (I11a 3777) + 1) ∧ ((I78a 2774) = (I11a 2774) + 1 ∧ (I78a 2754) = (I11a 2754) ∧ (I78a 2775) = (I11a 2775) - 1 ∧ (I78a 4289) = (I11a 4289) ∧ (I78a 4033) = (I11a 4033) ∧ (I78a 4161) = (I11a 4161) ∧ (I78a 5889) = (I11a 5889)) := m_nd_num f84
        have tk98 : m_TK I78a A78a := m_TK_fx f83 tk54
        have sc99 : m_SC I78a A78a := m_SC_nd f84 f19
        have tr100 : m_TR (t_up lo13 v79 (I 3905) (8 * (24 - (I 2775)) + (0))) I78a A78a := m_TR_nd (show m_TR lo13 (w_up (w_up I11a 2774 ((I11a 2774) + 1)) 2775 ((I11a 2775) - 1)) A11a from f20) f84 (show 0 ≤ (I 3905) by omega) (show (I 3905) ≤ v79 by omega) (m_cl_ST (show m_ST lo I A lo13 (w_up (w_up I11a 2774 ((I11a 2774) + 1)) 2775 ((I11a 2775) - 1)) A11a from s58) hTR (show 0 ≤ (I 3905) by omega)) (t_N_mk18 t_up_same (show 0 ≤ (I 3905) by omega) (show (I 3905) ≤ v79 by omega) (show 0 ≤ (8 * (24 - (I 2775)) + (0)) by omega) (m_hw (show m_RK lo13 (I 3905) v79 (8 * (24 - (I 2775)) + (-1)) from fun q q1 q2 => (show m_RK lo13 (I 3905) (I11a 3905) (8 * (24 - (I 2775)) + (-1)) from rk59) q (show (I 3905) ≤ q by omega) (show q < (I11a 3905) by omega)) (m_r8l (by decide))) (m_ch f84 (show (I 3905) ≤ (I 3905) by omega) k60))
        have s101 : m_ST lo I A (t_up lo13 v79 (I 3905) (8 * (24 - (I 2775)) + (0))) I78a A78a := m_ST_nd (l := (I 3905)) (show m_ST lo I A lo13 (w_up (w_up I11a 2774 ((I11a 2774) + 1)) 2775 ((I11a 2775) - 1)) A11a from s58) f84 (show (I 3905) ≤ (I 3905) by omega) (show (I 3905) ≤ (I11a 3905) by omega)
        have rk102 : m_RK (t_up lo13 v79 (I 3905) (8 * (24 - (I 2775)) + (0))) (I 3905) (I78a 3905) (8 * (24 - (I 2775)) + (0)) := fun q q1 q2 => m_RK_nd (show m_RK lo13 (I 3905) v79 (8 * (24 - (I 2775)) + (-1)) from fun q q1 q2 => (show m_RK lo13 (I 3905) (I11a 3905) (8 * (24 - (I 2775)) + (-1)) from rk59) q q1 (show q < (I11a 3905) by omega)) (m_r8 (by decide)) (m_r8 (by decide)) q q1 (show q < v79 + 1 by omega)
        have k103 : m_kd (t_up lo13 v79 (I 3905) (8 * (24 - (I 2775)) + (0))) I78a A78a (I 3905) (8 * (24 - (I 2775)) + (0)) v79 (fun k => k = 18) := m_kd_new f84 (show 0 ≤ (I 3905) by omega) (show (I 3905) ≤ v79 by omega) rfl
        have rt104 : m_rt (t_up lo13 v79 (I 3905) (8 * (24 - (I 2775)) + (0))) (I78a 3905) v79 := m_rt_new f84
        show w_W _ _ _ (24, [(2, .int (Int32.ofInt (v12))), (0, .ref 43), (1, .int (Int32.ofInt (vl)))], [.int (Int32.ofInt (v79))], M77) _
        refine w_fin (r := .inl (some (v79))) (M' := M77) rfl ?_
        exact Or.inl ⟨v79, (t_up lo13 v79 (I 3905) (8 * (24 - (I 2775)) + (0))), I78a, A78a, B78a, C78a, rfl, ⟨by omega, by omega⟩, hR78a, (show m_fx I A I78a A78a by exact (m_fx_trans f17 f83)), (show ((0 ≤ (I78a 2774) ∧ (I78a 2774) < (I78a 2754) ∧ (I78a 2754) ≤ 1501 ∧ 0 ≤ (I78a 2775) ∧ (I78a 2775) ≤ 24) ∧ ((I78a 3393) = (I78a 3905) ∧ (I78a 3521) = (I78a 3905) ∧ (I78a 3649) = (I78a 3905) ∧ (I78a 3777) = (I78a 3905) ∧ 0 ≤ (I78a 3905) ∧ (I78a 3905) ≤ 3 * (I78a 2774)) ∧ ((I78a 4161) = (I78a 4033) ∧ 7 ≤ (I78a 4289) ∧ (I78a 4289) ≤ (I78a 4033) ∧ (I78a 4033) ≤ 7 + (I78a 2774)) ∧ 0 ≤ (I78a 5889) ∧ (I78a 5889) ≤ (I78a 2774)) ∧ ((I78a 2754) = (I 2754) ∧ (I 2774) + 1 ≤ (I78a 2774) ∧ (I78a 2775) = (I 2775) ∧ (I78a 4289) = (I 4289) + 0 ∧ (I78a 5889) = (I 5889)) ∧ ((I78a 3905) + 2 ≤ (I 3905) + 3 * ((I78a 2774) - (I 2774)) ∧ (I 3905) ≤ v79 ∧ v79 + 1 = (I78a 3905) ∧ (I 4033) ≤ (I78a 4033) ∧ (I78a 4033) ≤ (I 4033) + ((I78a 2774) - (I 2774))) by (repeat' apply And.intro) <;> first | assumption | omega), (show m_SC I78a A78a by exact sc99), (show m_TR (t_up lo13 v79 (I 3905) (8 * (24 - (I 2775)) + (0))) I78a A78a by exact tr100), (show m_ST lo I A (t_up lo13 v79 (I 3905) (8 * (24 - (I 2775)) + (0))) I78a A78a by exact s101), (show (fun k => k = 18) ((A78a 53) (v79)) by exact (k103).2), (show m_rt (t_up lo13 v79 (I 3905) (8 * (24 - (I 2775)) + (0))) (I78a 3905) v79 by exact rt104), (show m_RK (t_up lo13 v79 (I 3905) (8 * (24 - (I 2775)) + (0))) (I 3905) (I78a 3905) (8 * (24 - (I 2775)) + 0) by exact m_RK_le (show m_RK (t_up lo13 v79 (I 3905) (8 * (24 - (I 2775)) + (0))) (I 3905) (I78a 3905) (8 * (24 - (I 2775)) + (0)) from rk102) (show (8 * (24 - (I 2775)) + (0)) ≤ 8 * (24 - (I 2775)) + 0 by omega))⟩
      · rw [e71]
        replace hR68b : w_Rep w_TM fr X u l I68b A68b B68b C68b M67 := hR68b
        replace f72 : m_fx I11a A11a I68b A68b := f72
        exact Or.inr (⟨I68b, A68b, B68b, C68b, rfl, hR68b, (show m_fx I A I68b A68b by exact (m_fx_trans f17 f72))⟩)
    · rw [e25]
      replace hR11b : w_Rep w_TM fr X u l I11b A11b B11b C11b M10 := hR11b
      replace f26 : m_fx (w_up (w_up I 2775 ((I 2775) + 1)) 2774 ((I 2774) + 1)) A I11b A11b := f26
      exact Or.inr (⟨I11b, A11b, B11b, C11b, rfl, hR11b, (show m_fx I A I11b A11b by exact f26)⟩)
  · rw [e6]
    replace hR3b : w_Rep w_TM fr X u l I3b A3b B3b C3b M2 := hR3b
    replace f7 : m_fx I A I3b A3b := f7
    exact Or.inr (⟨I3b, A3b, B3b, C3b, rfl, hR3b, (show m_fx I A I3b A3b by exact f7)⟩)
