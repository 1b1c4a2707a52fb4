def m_pv (A : Nat → Int → Int) (c0 n0 k : Int) : Int := if k = c0 then n0 else A 92 (k - 1) + 1
/-- the parts that wait in the chain, from c0 on up to c -/
def m_CE (lo : Int → Int × Int) (I : Nat → Int) (A : Nat → Int → Int) (c0 n0 R c : Int) : Prop := ∀ k, c0 ≤ k → k < c → n0 ≤ m_pv A c0 n0 k ∧ m_kd lo I A (m_pv A c0 n0 k) R (A 92 k) t_E ∧ m_cl A (m_pv A c0 n0 k)
theorem m_pv_eq {A A' : Nat → Int → Int} {c0 n0 k c : Int} (h : ∀ i, 0 ≤ i → i < c → A' 92 i = A 92 i) (h0 : 0 ≤ c0) (h1 : c0 ≤ k) (h2 : k ≤ c) : m_pv A' c0 n0 k = m_pv A c0 n0 k := by
  unfold m_pv
  by_cases e : k = c0
  · rw [if_pos e, if_pos e]
  · rw [if_neg e, if_neg e, h (k - 1) (by omega) (by omega)]
theorem m_CE_nil {lo : Int → Int × Int} {I : Nat → Int} {A : Nat → Int → Int} {c0 n0 R : Int} : m_CE lo I A c0 n0 R c0 := fun k h1 h2 => by omega
theorem m_CE_ST {lo lo' : Int → Int × Int} {I I' : Nat → Int} {A A' : Nat → Int → Int} {c0 n0 R c : Int} (g : m_CE lo I A c0 n0 R c) (hs : m_ST lo I A lo' I' A') (h0 : 0 ≤ c0) (hc : c ≤ I 5889) (hn : I 3905 ≤ I' 3905) : m_CE lo' I' A' c0 n0 R c := by
  intro k h1 h2
  obtain ⟨g1, g2, g3⟩ := g k h1 h2
  have e1 : m_pv A' c0 n0 k = m_pv A c0 n0 k := m_pv_eq (c := I 5889) hs.2.2.2 h0 h1 (by omega)
  have e2 : A' 92 k = A 92 k := hs.2.2.2 k (by omega) (by omega)
  have g2' := g2.1
  rw [e1, e2]
  refine ⟨g1, m_kd_ST hs hn g2, fun p h3 h4 => ?_⟩
  obtain ⟨-, -, -, -, e5, -⟩ := hs.1 p h3 (by omega)
  rw [e5]
  exact g3 p h3 h4
/-- one more: v stands behind -/
theorem m_CE_add {lo : Int → Int × Int} {I I' : Nat → Int} {A A' : Nat → Int → Int} {c0 n0 R c v n : Int} (g : m_CE lo I A c0 n0 R c) (h0 : 0 ≤ c0) (h1 : c0 ≤ c) (hv : m_kd lo I A n R v t_E) (hcl : m_cl A n) (hn : n = m_pv A c0 n0 c) (hn0 : n0 ≤ n) (e1 : I' 3905 = I 3905) (e53 : A' 53 = A 53) (e61 : A' 61 = A 61) (e92 : ∀ i, 0 ≤ i → i < c → A' 92 i = A 92 i) (ev : A' 92 c = v) : m_CE lo I' A' c0 n0 R (c + 1) := by
  have key : ∀ l w, m_kd lo I A l R w t_E → m_kd lo I' A' l R w t_E := fun l w q => by
    unfold m_kd
    rw [e1, e53]
    exact q
  have keyc : ∀ l, m_cl A l → m_cl A' l := fun l q => by
    unfold m_cl
    rw [e61]
    exact q
  intro k h2 h3
  by_cases e : k = c
  · subst e
    rw [m_pv_eq (c := k) e92 h0 h2 (by omega), ev, ← hn]
    exact ⟨hn0, key _ _ hv, keyc _ hcl⟩
  · obtain ⟨g1, g2, g3⟩ := g k h2 (by omega)
    rw [m_pv_eq (c := c) e92 h0 h2 (by omega), e92 k (by omega) (by omega)]
    exact ⟨g1, key _ _ g2, keyc _ g3⟩
/-- a node more, beyond all that waits -/
theorem m_CE_nd {lo : Int → Int × Int} {I I' : Nat → Int} {A A' : Nat → Int → Int} {c0 n0 R c v kd a b e l r : Int} (g : m_CE lo I A c0 n0 R c) (hn : m_nd I A I' A' v kd a b e) : m_CE (t_up lo v l r) I' A' c0 n0 R c := by
  intro k h1 h2
  obtain ⟨g1, g2, g3⟩ := g k h1 h2
  have e92 : A' 92 = A 92 := hn.2.2.2.1 92 (by decide) (by decide) (by decide) (by decide) (by decide)
  have e1 : m_pv A' c0 n0 k = m_pv A c0 n0 k := by unfold m_pv; rw [e92]
  have g2' := g2.1
  have e0 := hn.1
  rw [e1, e92]
  refine ⟨g1, m_kd_nd hn g2, fun p h3 h4 => ?_⟩
  obtain ⟨-, -, -, -, e5⟩ := hn.2.2.2.2.1 p h3 (by omega)
  rw [e5]
  exact g3 p h3 h4
theorem m_CE_le {lo : Int → Int × Int} {I : Nat → Int} {A : Nat → Int → Int} {c0 n0 R c c' : Int} (g : m_CE lo I A c0 n0 R c) (h : c' ≤ c) : m_CE lo I A c0 n0 R c' := fun k h1 h2 => g k h1 (by omega)
/-! m_exp -/
set_option maxHeartbeats 100000000 in
set_option maxRecDepth 100000 in
theorem m_exp {L : Nat} {xs : Nat → Int32} {d : Nat} {fr : Nat → Bool} {X : Nat → Option (q_C (Nat → Int32))} {u l : Nat} {I : Nat → Int} {A : Nat → Int → Int} {B C : Nat → Nat} {M : w_M} {N : Int} (hA : m_all L xs N) (lo : Int → Int × Int) (hR : w_Rep w_TM fr X u l I A B C M) (hd : 20 * (24 - (I 2775)) + 17 ≤ (d : Int)) (hTK : m_TK I A) (hNU : (0 ≤ (I 2774) ∧ (I 2774) < (I 2754) ∧ (I 2754) ≤ 1501 ∧ 0 ≤ (I 2775) ∧ (I 2775) ≤ 24) ∧ ((I 3393) = (I 3905) ∧ (I 3521) = (I 3905) ∧ (I 3649) = (I 3905) ∧ (I 3777) = (I 3905) ∧ 0 ≤ (I 3905) ∧ (I 3905) ≤ 3 * (I 2774)) ∧ ((I 4161) = (I 4033) ∧ 7 ≤ (I 4289) ∧ (I 4289) ≤ (I 4033) ∧ (I 4033) ≤ 7 + (I 2774)) ∧ 0 ≤ (I 5889) ∧ (I 5889) ≤ (I 2774)) (hSC : m_SC I A) (hTR : m_TR lo I A) (hm : (I 2754) - (I 2774) ≤ N) : w_W (z_P L xs) d 245 (0, [(0, .ref 43)], [], M) (m_exp_Q fr X u l I A B C M lo) := by
  obtain ⟨d, rfl⟩ : ∃ d0, d = d0 + 1 := ⟨d - 1, by omega⟩
  refine w_adv (n := 1) (F' := (1, [(0, .ref 43)], [.ref 43], M)) rfl ?_
  refine w_gf (v := .ref 92) hR rfl rfl rfl rfl ?_
  refine w_gf (v := .int (Int32.ofInt ((I 5889)))) hR rfl rfl rfl rfl ?_
  obtain ⟨r1, r2⟩ : -2147483648 ≤ (I 5889) ∧ (I 5889) ≤ 2147483647 := hR.ri 5889
  obtain ⟨r3a, r3b, r3c⟩ : 0 ≤ (I 5889) ∧ (I 5889) ≤ (C 92 : Int) ∧ (C 92 : Int) ≤ 131072 := hR.sz (show 92 ∈ w_TM.2.2 by decide)
  refine w_adv (n := 2) (F' := (9, [(1, .int (Int32.ofInt ((I 5889)))), (0, .ref 43)], [.ref 43], M)) rfl ?_
  refine w_gf (v := .ref 92) hR rfl rfl rfl rfl ?_
  refine w_adv (n := 1) (F' := (13, [(1, .int (Int32.ofInt ((I 5889)))), (0, .ref 43)], [.ref 43, .ref 92], M)) rfl ?_
  refine w_call (cm := 246) (as := [(0, .ref 43)]) (rest := [.ref 92]) (o := some (9, 43)) rfl (w_fitR hR rfl) (m_compared hA (lo) hR (show 20 * (24 - (I 2775)) + 16 ≤ (d : Int) by omega) (show m_TK I A by exact hTK) (show (0 ≤ (I 2774) ∧ (I 2774) < (I 2754) ∧ (I 2754) ≤ 1501 ∧ 0 ≤ (I 2775) ∧ (I 2775) ≤ 24) ∧ ((I 3393) = (I 3905) ∧ (I 3521) = (I 3905) ∧ (I 3649) = (I 3905) ∧ (I 3777) = (I 3905) ∧ 0 ≤ (I 3905) ∧ (I 3905) ≤ 3 * (I 2774)) ∧ ((I 4161) = (I 4033) ∧ 7 ≤ (I 4289) ∧ (I 4289) ≤ (I 4033) ∧ (I 4033) ≤ 7 + (I 2774)) ∧ 0 ≤ (I 5889) ∧ (I 5889) ≤ (I 2774) by (repeat' apply And.intro) <;> first | assumption | omega) (show m_SC I A by exact hSC) (show m_TR lo I A by exact hTR) (show (I 2754) - (I 2774) ≤ N by first | assumption | omega)) (fun r4 M5 q6 => ?_)
  rcases q6 with ⟨v7, lo8, I6a, A6a, B6a, C6a, e9, ⟨r10, r11⟩, hR6a, f12, f13, f14, f15, f16, f17, f18, f19⟩ | ⟨I6b, A6b, B6b, C6b, e20, hR6b, f21⟩
  · rw [e9]
    replace hR6a : w_Rep w_TM fr X u l I6a A6a B6a C6a M5 := hR6a
    replace f12 : m_fx I A I6a A6a := f12
    replace f13 : ((0 ≤ (I6a 2774) ∧ (I6a 2774) < (I6a 2754) ∧ (I6a 2754) ≤ 1501 ∧ 0 ≤ (I6a 2775) ∧ (I6a 2775) ≤ 24) ∧ ((I6a 3393) = (I6a 3905) ∧ (I6a 3521) = (I6a 3905) ∧ (I6a 3649) = (I6a 3905) ∧ (I6a 3777) = (I6a 3905) ∧ 0 ≤ (I6a 3905) ∧ (I6a 3905) ≤ 3 * (I6a 2774)) ∧ ((I6a 4161) = (I6a 4033) ∧ 7 ≤ (I6a 4289) ∧ (I6a 4289) ≤ (I6a 4033) ∧ (I6a 4033) ≤ 7 + (I6a 2774)) ∧ 0 ≤ (I6a 5889) ∧ (I6a 5889) ≤ (I6a 2774)) ∧ ((I6a 2754) = (I 2754) ∧ (I 2774) + 1 ≤ (I6a 2774) ∧ (I6a 2775) = (I 2775) ∧ (I6a 4289) = (I 4289) + 0 ∧ (I6a 5889) = (I 5889)) ∧ ((I6a 3905) + 2 ≤ (I 3905) + 3 * ((I6a 2774) - (I 2774)) ∧ (I 3905) ≤ v7 ∧ v7 + 1 = (I6a 3905) ∧ (I 4033) ≤ (I6a 4033) ∧ (I6a 4033) ≤ (I 4033) + ((I6a 2774) - (I 2774))) := f13
    obtain ⟨⟨⟨n22, n23, n24, n25, n26⟩, ⟨n27, n28, n29, n30, n31, n32⟩, ⟨n33, n34, n35, n36⟩, n37, n38⟩, ⟨n39, n40, n41, n42, n43⟩, ⟨n44, n45, n46, n47, n48⟩⟩ := id f13
    clear f13
    replace f14 : m_SC I6a A6a := f14
    replace f15 : m_TR lo8 I6a A6a := f15
    replace f16 : m_ST lo I A lo8 I6a A6a := f16
    replace f17 : t_E ((A6a 53) (v7)) := f17
    replace f18 : m_rt lo8 (I6a 3905) v7 := f18
    replace f19 : m_RK lo8 (I 3905) (I6a 3905) (8 * (24 - (I 2775)) + 4) := f19
    have tk49 : m_TK I6a A6a := m_TK_fx f12 hTK
    have nn50 : (I 3905) ≤ (I6a 3905) := by omega
    have nz51 : 0 ≤ (I 3905) := by first | assumption | omega
    have ho52 : (I 2775) = (I 2775) + (0) := by omega
    have rk54 : m_RK lo8 (I 3905) (I6a 3905) (8 * (24 - (I 2775)) + (4)) := m_RK_app (I := I) (I' := I6a) (R := (8 * (24 - (I 2775)) + (4))) (show m_RK lo (I 3905) (I 3905) (8 * (24 - (I 2775)) + (4)) from fun q q1 q2 => by omega) f16 f19 (show 0 ≤ (I 3905) by first | assumption | omega) (m_r8 (by decide)) (m_r8o (k := 0) ho52 (by decide))
    have s53 : m_ST lo I A lo8 I6a A6a := f16
    have k55 : m_kd lo8 I6a A6a (I 3905) (8 * (24 - (I 2775)) + 4) v7 t_E := m_kd_of (I := I) f16 f15 nz51 (show (I 3905) ≤ v7 by first | assumption | omega) (show v7 < (I6a 3905) by omega) f17 f19
    obtain ⟨j56, j57, j58, j59, j60⟩ := k55.1
    have ceA : m_CE lo8 I6a A6a (I 5889) (I 3905) (8 * (24 - (I 2775)) + (4)) (I6a 5889) := by rw [show (I6a 5889) = (I 5889) by omega]; exact m_CE_ST (I := I) m_CE_nil f16 (show 0 ≤ (I 5889) by omega) (show (I 5889) ≤ (I 5889) by omega) (show (I 3905) ≤ (I6a 3905) by omega)
    have clA : m_cl A6a (I 3905) := m_cl_ST f16 hTR (show 0 ≤ (I 3905) by omega)
    have pvA : (I 3905) = m_pv A6a (I 5889) (I 3905) (I6a 5889) := (if_pos (show (I6a 5889) = (I 5889) by omega)).symm
    show w_W _ _ _ (16, [(1, .int (Int32.ofInt ((I 5889)))), (0, .ref 43)], [.int (Int32.ofInt (v7)), .ref 92], M5) _
    obtain ⟨r61a, r61b, r61c⟩ : 0 ≤ (I6a 5889) ∧ (I6a 5889) ≤ (C6a 92 : Int) ∧ (C6a 92 : Int) ≤ 131072 := hR6a.sz (show 92 ∈ w_TM.2.2 by decide)
    refine w_call (cm := 207) (as := [(0, .ref 92), (1, .int (Int32.ofInt (v7)))]) (rest := []) (o := some (10, 92)) rfl (w_fitR hR6a rfl) (m_add (v7) 92 (by decide) rfl hR6a ⟨by omega, by omega⟩ (show (I6a 5889) < 65536 by first | assumption | omega)) (fun r62 M63 q64 => ?_)
    rcases q64 with ⟨g64a, b64a, c64a, e65, hR64a, f66, f67⟩
    rw [e65]
    replace hR64a : w_Rep w_TM fr X u l (w_up I6a 5889 ((I6a 5889) + 1)) (w_upF A6a 92 g64a) (w_upN B6a 92 b64a) (w_upN C6a 92 c64a) M63 := hR64a
    replace f66 : ∀ i, 0 ≤ i → i < (I6a 5889) → g64a i = (A6a 92) i := f66
    replace f67 : g64a ((I6a 5889)) = v7 := f67
    have ceB : m_CE lo8 (w_up I6a 5889 ((I6a 5889) + 1)) (w_upF A6a 92 g64a) (I 5889) (I 3905) (8 * (24 - (I 2775)) + (4)) ((I6a 5889) + 1) := m_CE_add (c := (I6a 5889)) (v := v7) ceA (show 0 ≤ (I 5889) by omega) (show (I 5889) ≤ (I6a 5889) by omega) (m_kd_l k55 (show 0 ≤ (I 3905) by omega) (show (I 3905) ≤ (I 3905) by omega) (show (8 * (24 - (I 2775)) + 4) ≤ (8 * (24 - (I 2775)) + (4)) by omega)) clA pvA (show (I 3905) ≤ (I 3905) by omega) rfl rfl rfl f66 f67
    have stB : m_ST lo I A lo8 (w_up I6a 5889 ((I6a 5889) + 1)) (w_upF A6a 92 g64a) := ⟨fun i h1 h2 => s53.1 i h1 h2, s53.2.1, fun i h1 h2 => s53.2.2.1 i h1 h2, fun i h1 h2 => (f66 i h1 (by omega)).trans (s53.2.2.2 i h1 h2)⟩
    have laB : g64a ((I6a 5889) + 1 - 1) + 1 = (I6a 3905) := by rw [show (I6a 5889) + 1 - 1 = (I6a 5889) by omega, f67]; omega
    show w_W _ _ _ (19, [(1, .int (Int32.ofInt ((I 5889)))), (0, .ref 43)], [.int (Int32.ofInt ((I6a 5889)))], M63) _
    refine w_adv (n := 1) (F' := (20, [(2, .int (Int32.ofInt ((I6a 5889)))), (1, .int (Int32.ofInt ((I 5889)))), (0, .ref 43)], [], M63)) rfl ?_
    have lp20 : ∀ fu : Nat, ∀ (lo_20 : Int → Int × Int) (I_20 : Nat → Int) (A_20 : Nat → Int → Int) (B_20 C_20 : Nat → Nat) (M_20 : w_M) (hR_20 : w_Rep w_TM fr X u l I_20 A_20 B_20 C_20 M_20), (0 ≤ (I_20 2774) ∧ (I_20 2774) < (I_20 2754) ∧ (I_20 2754) ≤ 1501 ∧ 0 ≤ (I_20 2775) ∧ (I_20 2775) ≤ 24) ∧ ((I_20 3393) = (I_20 3905) ∧ (I_20 3521) = (I_20 3905) ∧ (I_20 3649) = (I_20 3905) ∧ (I_20 3777) = (I_20 3905) ∧ 0 ≤ (I_20 3905) ∧ (I_20 3905) ≤ 3 * (I_20 2774)) ∧ ((I_20 4161) = (I_20 4033) ∧ 7 ≤ (I_20 4289) ∧ (I_20 4289) ≤ (I_20 4033) ∧ (I_20 4033) ≤ 7 + (I_20 2774)) ∧ 0 ≤ (I_20 5889) ∧ (I_20 5889) ≤ (I_20 2774) → (((I_20 2754) = (I 2754) ∧ (I 2774) + 1 ≤ (I_20 2774) ∧ (I_20 2775) = (I 2775) ∧ (I_20 4289) = (I 4289)) ∧ ((I 5889) ≤ (I_20 5889) ∧ (I_20 5889) ≤ (I 5889) + ((I_20 2774) - (I 2774))) ∧ ((I 3905) ≤ (I_20 3905) ∧ (I 4033) ≤ (I_20 4033) ∧ (I_20 4033) ≤ (I 4033) + ((I_20 2774) - (I 2774)))) ∧ ((I 5889) + 1 ≤ (I_20 5889) ∧ (I_20 3905) + ((I_20 5889) - (I 5889)) + 1 ≤ (I 3905) + 3 * ((I_20 2774) - (I 2774))) ∧ (A_20 92) ((I_20 5889) - 1) + 1 = (I_20 3905) → m_TK I_20 A_20 → m_SC I_20 A_20 → m_TR lo_20 I_20 A_20 → m_ST lo I A lo_20 I_20 A_20 → m_fx I A I_20 A_20 → m_CE lo_20 I_20 A_20 (I 5889) (I 3905) (8 * (24 - (I 2775)) + (4)) (I_20 5889) → m_RK lo_20 (I 3905) (I_20 3905) (8 * (24 - (I 2775)) + (4)) → (I_20 2754) - (I_20 2774) < (fu : Int) → w_W (z_P L xs) (d + 1) 245 (20, [(0, .ref 43), (1, .int (Int32.ofInt ((I 5889))))], [], M_20) (m_exp_Q fr X u l I A B C M lo) := by
      intro fu
      induction fu with
      | zero =>
        intro lo_20 I_20 A_20 B_20 C_20 M_20 hR_20 hi20_0 hi20_1 hi20_2 hi20_3 hi20_4 hi20_5 hi20_6 hi20_7 hi20_8 hn20
        exfalso
        omega
      | succ fu ih20 =>
        intro lo_20 I_20 A_20 B_20 C_20 M_20 hR_20 hi20_0 hi20_1 hi20_2 hi20_3 hi20_4 hi20_5 hi20_6 hi20_7 hi20_8 hn20
        obtain ⟨⟨n68, n69, n70, n71, n72⟩, ⟨n73, n74, n75, n76, n77, n78⟩, ⟨n79, n80, n81, n82⟩, n83, n84⟩ := hi20_0
        obtain ⟨⟨⟨n85, n86, n87, n88⟩, ⟨n89, n90⟩, ⟨n91, n92, n93⟩⟩, ⟨n94, n95⟩, n96⟩ := hi20_1
        refine w_adv (n := 2) (F' := (23, [(0, .ref 43), (1, .int (Int32.ofInt ((I 5889))))], [.int (Int32.ofInt (124)), .ref 43], M_20)) rfl ?_
        refine w_call (cm := 230) (as := [(0, .ref 43), (1, .int (Int32.ofInt (124)))]) (rest := []) (o := some (9, 43)) rfl (w_fitR hR_20 rfl) (m_isSign (124) hR_20 ⟨by omega, by omega⟩ (show 0 ≤ (I_20 2774) ∧ (I_20 2774) < 1501 by omega)) (fun r97 M98 q99 => ?_)
        rcases q99 with ⟨e100, e101, f102⟩ | ⟨e103, e104, f105⟩
        · rw [e100, e101]
          replace f102 : (A_20 45) ((I_20 2774)) = 6 ∧ (A_20 46) ((I_20 2774)) = 124 := f102
          obtain ⟨n106, n107⟩ := id f102
          clear f102
          have w108 : (I_20 2774) + 1 < (I_20 2754) := m_TK_lt hi20_2 (show (I_20 2774) < (I_20 2754) by omega) (show 1 ≤ (A_20 45) ((I_20 2774)) by omega) (show (A_20 45) ((I_20 2774)) ≤ 6 by omega)
          show w_W _ _ _ (26, [(0, .ref 43), (1, .int (Int32.ofInt ((I 5889))))], [.int (Int32.ofInt (1))], M_20) _
          refine w_adv (n := 3) (F' := (31, [(0, .ref 43), (1, .int (Int32.ofInt ((I 5889))))], [.ref 43, .ref 43], M_20)) rfl ?_
          refine w_gf (v := .int (Int32.ofInt ((I_20 2774)))) hR_20 rfl rfl rfl rfl ?_
          obtain ⟨r109, r110⟩ : -2147483648 ≤ (I_20 2774) ∧ (I_20 2774) ≤ 2147483647 := hR_20.ri 2774
          refine w_adv (n := 1) (F' := (35, [(0, .ref 43), (1, .int (Int32.ofInt ((I 5889))))], [.int (Int32.ofInt (1)), .int (Int32.ofInt ((I_20 2774))), .ref 43], M_20)) rfl ?_
          refine w_add rfl ?_
          refine w_pf hR_20 rfl rfl rfl rfl (show w_in ((I_20 2774) + 1) from ⟨by omega, by omega⟩) (fun h => absurd h (by decide)) (fun M111 hR112 => ?_)
          replace hR112 : w_Rep w_TM fr X u l (w_up I_20 2774 ((I_20 2774) + 1)) A_20 B_20 C_20 M111 := hR112
          refine w_adv (n := 1) (F' := (40, [(0, .ref 43), (1, .int (Int32.ofInt ((I 5889))))], [.ref 43], M111)) rfl ?_
          refine w_gf (v := .ref 92) hR112 rfl rfl rfl rfl ?_
          refine w_adv (n := 1) (F' := (44, [(0, .ref 43), (1, .int (Int32.ofInt ((I 5889))))], [.ref 43, .ref 92], M111)) rfl ?_
          refine w_call (cm := 246) (as := [(0, .ref 43)]) (rest := [.ref 92]) (o := some (9, 43)) rfl (w_fitR hR112 rfl) (m_compared hA (lo_20) hR112 (show 20 * (24 - (I_20 2775)) + 16 ≤ (d : Int) by omega) (show m_TK (w_up I_20 2774 ((I_20 2774) + 1)) A_20 by exact hi20_2) (show (0 ≤ (I_20 2774) + 1 ∧ (I_20 2774) + 1 < (I_20 2754) ∧ (I_20 2754) ≤ 1501 ∧ 0 ≤ (I_20 2775) ∧ (I_20 2775) ≤ 24) ∧ ((I_20 3393) = (I_20 3905) ∧ (I_20 3521) = (I_20 3905) ∧ (I_20 3649) = (I_20 3905) ∧ (I_20 3777) = (I_20 3905) ∧ 0 ≤ (I_20 3905) ∧ (I_20 3905) ≤ 3 * ((I_20 2774) + 1)) ∧ ((I_20 4161) = (I_20 4033) ∧ 7 ≤ (I_20 4289) ∧ (I_20 4289) ≤ (I_20 4033) ∧ (I_20 4033) ≤ 7 + ((I_20 2774) + 1)) ∧ 0 ≤ (I_20 5889) ∧ (I_20 5889) ≤ (I_20 2774) + 1 by (repeat' apply And.intro) <;> first | assumption | omega) (show m_SC (w_up I_20 2774 ((I_20 2774) + 1)) A_20 by exact hi20_3) (show m_TR lo_20 (w_up I_20 2774 ((I_20 2774) + 1)) A_20 by exact hi20_4) (show (I_20 2754) - ((I_20 2774) + 1) ≤ N by first | assumption | omega)) (fun r113 M114 q115 => ?_)
          rcases q115 with ⟨v116, lo117, I115a, A115a, B115a, C115a, e118, ⟨r119, r120⟩, hR115a, f121, f122, f123, f124, f125, f126, f127, f128⟩ | ⟨I115b, A115b, B115b, C115b, e129, hR115b, f130⟩
          · rw [e118]
            replace hR115a : w_Rep w_TM fr X u l I115a A115a B115a C115a M114 := hR115a
            replace f121 : m_fx (w_up I_20 2774 ((I_20 2774) + 1)) A_20 I115a A115a := f121
            replace f122 : ((0 ≤ (I115a 2774) ∧ (I115a 2774) < (I115a 2754) ∧ (I115a 2754) ≤ 1501 ∧ 0 ≤ (I115a 2775) ∧ (I115a 2775) ≤ 24) ∧ ((I115a 3393) = (I115a 3905) ∧ (I115a 3521) = (I115a 3905) ∧ (I115a 3649) = (I115a 3905) ∧ (I115a 3777) = (I115a 3905) ∧ 0 ≤ (I115a 3905) ∧ (I115a 3905) ≤ 3 * (I115a 2774)) ∧ ((I115a 4161) = (I115a 4033) ∧ 7 ≤ (I115a 4289) ∧ (I115a 4289) ≤ (I115a 4033) ∧ (I115a 4033) ≤ 7 + (I115a 2774)) ∧ 0 ≤ (I115a 5889) ∧ (I115a 5889) ≤ (I115a 2774)) ∧ ((I115a 2754) = (I_20 2754) ∧ ((I_20 2774) + 1) + 1 ≤ (I115a 2774) ∧ (I115a 2775) = (I_20 2775) ∧ (I115a 4289) = (I_20 4289) + 0 ∧ (I115a 5889) = (I_20 5889)) ∧ ((I115a 3905) + 2 ≤ (I_20 3905) + 3 * ((I115a 2774) - ((I_20 2774) + 1)) ∧ (I_20 3905) ≤ v116 ∧ v116 + 1 = (I115a 3905) ∧ (I_20 4033) ≤ (I115a 4033) ∧ (I115a 4033) ≤ (I_20 4033) + ((I115a 2774) - ((I_20 2774) + 1))) := f122
            obtain ⟨⟨⟨n131, n132, n133, n134, n135⟩, ⟨n136, n137, n138, n139, n140, n141⟩, ⟨n142, n143, n144, n145⟩, n146, n147⟩, ⟨n148, n149, n150, n151, n152⟩, ⟨n153, n154, n155, n156, n157⟩⟩ := id f122
            clear f122
            replace f123 : m_SC I115a A115a := f123
            replace f124 : m_TR lo117 I115a A115a := f124
            replace f125 : m_ST lo_20 (w_up I_20 2774 ((I_20 2774) + 1)) A_20 lo117 I115a A115a := f125
            replace f126 : t_E ((A115a 53) (v116)) := f126
            replace f127 : m_rt lo117 (I115a 3905) v116 := f127
            replace f128 : m_RK lo117 (I_20 3905) (I115a 3905) (8 * (24 - (I_20 2775)) + 4) := f128
            have tk158 : m_TK I115a A115a := m_TK_fx f121 hi20_2
            have nn159 : (I_20 3905) ≤ (I115a 3905) := by omega
            have nz160 : 0 ≤ (I_20 3905) := by first | assumption | omega
            have ho161 : (I_20 2775) = (I 2775) + (0) := by omega
            have rk163 : m_RK lo117 (I 3905) (I115a 3905) (8 * (24 - (I 2775)) + (4)) := m_RK_app (I := (w_up I_20 2774 ((I_20 2774) + 1))) (I' := I115a) (R := (8 * (24 - (I 2775)) + (4))) (show m_RK lo_20 (I 3905) (I_20 3905) (8 * (24 - (I 2775)) + (4)) from hi20_8) f125 f128 (show 0 ≤ (I 3905) by first | assumption | omega) (m_r8 (by decide)) (m_r8o (k := 0) ho161 (by decide))
            have s162 : m_ST lo I A lo117 I115a A115a := m_ST_trans (show m_ST lo I A lo_20 (w_up I_20 2774 ((I_20 2774) + 1)) A_20 from hi20_5) f125 (show 0 ≤ (I 3905) by first | assumption | omega) (show (I 3905) ≤ (I_20 3905) by first | assumption | omega) (show (I 4289) ≤ (I_20 4289) by first | assumption | omega) (show (I 5889) ≤ (I_20 5889) by first | assumption | omega)
            have k164 : m_kd lo117 I115a A115a (I_20 3905) (8 * (24 - (I_20 2775)) + 4) v116 t_E := m_kd_of (I := (w_up I_20 2774 ((I_20 2774) + 1))) f125 f124 nz160 (show (I_20 3905) ≤ v116 by first | assumption | omega) (show v116 < (I115a 3905) by omega) f126 f128
            obtain ⟨j165, j166, j167, j168, j169⟩ := k164.1
            have ceA : m_CE lo117 I115a A115a (I 5889) (I 3905) (8 * (24 - (I 2775)) + (4)) (I115a 5889) := by rw [show (I115a 5889) = (I_20 5889) by omega]; exact m_CE_ST (I := (w_up I_20 2774 ((I_20 2774) + 1))) hi20_7 f125 (show 0 ≤ (I 5889) by omega) (show (I_20 5889) ≤ (I_20 5889) by omega) (show (I_20 3905) ≤ (I115a 3905) by omega)
            have clA : m_cl A115a (I_20 3905) := m_cl_ST f125 hi20_4 (show 0 ≤ (I_20 3905) by omega)
            have pvA : (I_20 3905) = m_pv A115a (I 5889) (I 3905) (I115a 5889) := by unfold m_pv; rw [if_neg (show ¬ (I115a 5889) = (I 5889) by omega)]; have qe : (A115a 92) ((I_20 5889) - 1) = (A_20 92) ((I_20 5889) - 1) := f125.2.2.2 _ (show 0 ≤ (I_20 5889) - 1 by omega) (show (I_20 5889) - 1 < (I_20 5889) by omega); have qf : (I115a 5889) = (I_20 5889) := (by omega); show (I_20 3905) = (A115a 92) ((I115a 5889) - 1) + 1; rw [qf, qe]; omega
            show w_W _ _ _ (47, [(0, .ref 43), (1, .int (Int32.ofInt ((I 5889))))], [.int (Int32.ofInt (v116)), .ref 92], M114) _
            obtain ⟨r170a, r170b, r170c⟩ : 0 ≤ (I115a 5889) ∧ (I115a 5889) ≤ (C115a 92 : Int) ∧ (C115a 92 : Int) ≤ 131072 := hR115a.sz (show 92 ∈ w_TM.2.2 by decide)
            refine w_call (cm := 207) (as := [(0, .ref 92), (1, .int (Int32.ofInt (v116)))]) (rest := []) (o := some (10, 92)) rfl (w_fitR hR115a rfl) (m_add (v116) 92 (by decide) rfl hR115a ⟨by omega, by omega⟩ (show (I115a 5889) < 65536 by first | assumption | omega)) (fun r171 M172 q173 => ?_)
            rcases q173 with ⟨g173a, b173a, c173a, e174, hR173a, f175, f176⟩
            rw [e174]
            replace hR173a : w_Rep w_TM fr X u l (w_up I115a 5889 ((I115a 5889) + 1)) (w_upF A115a 92 g173a) (w_upN B115a 92 b173a) (w_upN C115a 92 c173a) M172 := hR173a
            replace f175 : ∀ i, 0 ≤ i → i < (I115a 5889) → g173a i = (A115a 92) i := f175
            replace f176 : g173a ((I115a 5889)) = v116 := f176
            have ceB : m_CE lo117 (w_up I115a 5889 ((I115a 5889) + 1)) (w_upF A115a 92 g173a) (I 5889) (I 3905) (8 * (24 - (I 2775)) + (4)) ((I115a 5889) + 1) := m_CE_add (c := (I115a 5889)) (v := v116) ceA (show 0 ≤ (I 5889) by omega) (show (I 5889) ≤ (I115a 5889) by omega) (m_kd_l k164 (show 0 ≤ (I_20 3905) by omega) (show (I_20 3905) ≤ (I_20 3905) by omega) (show (8 * (24 - (I_20 2775)) + 4) ≤ (8 * (24 - (I 2775)) + (4)) by omega)) clA pvA (show (I 3905) ≤ (I_20 3905) by omega) rfl rfl rfl f175 f176
            have stB : m_ST lo I A lo117 (w_up I115a 5889 ((I115a 5889) + 1)) (w_upF A115a 92 g173a) := ⟨fun i h1 h2 => s162.1 i h1 h2, s162.2.1, fun i h1 h2 => s162.2.2.1 i h1 h2, fun i h1 h2 => (f175 i h1 (by omega)).trans (s162.2.2.2 i h1 h2)⟩
            have laB : g173a ((I115a 5889) + 1 - 1) + 1 = (I115a 3905) := by rw [show (I115a 5889) + 1 - 1 = (I115a 5889) by omega, f176]; omega
            show w_W _ _ _ (50, [(0, .ref 43), (1, .int (Int32.ofInt ((I 5889))))], [.int (Int32.ofInt ((I115a 5889)))], M172) _
            refine w_adv (n := 2) (F' := (20, [(2, .int (Int32.ofInt ((I115a 5889)))), (0, .ref 43), (1, .int (Int32.ofInt ((I 5889))))], [], M172)) rfl ?_
            refine w_ls (ls := [(0, .ref 43), (1, .int (Int32.ofInt ((I 5889))))]) (show List.Nodup [0, 1] by decide) (show List.Nodup [2, 0, 1] by decide) (List.forall_mem_cons.mpr ⟨(List.Mem.tail _ (List.Mem.head _)), (List.forall_mem_cons.mpr ⟨(List.Mem.tail _ (List.Mem.tail _ (List.Mem.head _))), (fun _ h => by cases h)⟩)⟩) ?_
            exact ih20 lo117  (w_up I115a 5889 ((I115a 5889) + 1)) (w_upF A115a 92 g173a) (w_upN B115a 92 b173a) (w_upN C115a 92 c173a) M172 hR173a  (show (0 ≤ (I115a 2774) ∧ (I115a 2774) < (I115a 2754) ∧ (I115a 2754) ≤ 1501 ∧ 0 ≤ (I115a 2775) ∧ (I115a 2775) ≤ 24) ∧ ((I115a 3393) = (I115a 3905) ∧ (I115a 3521) = (I115a 3905) ∧ (I115a 3649) = (I115a 3905) ∧ (I115a 3777) = (I115a 3905) ∧ 0 ≤ (I115a 3905) ∧ (I115a 3905) ≤ 3 * (I115a 2774)) ∧ ((I115a 4161) = (I115a 4033) ∧ 7 ≤ (I115a 4289) ∧ (I115a 4289) ≤ (I115a 4033) ∧ (I115a 4033) ≤ 7 + (I115a 2774)) ∧ 0 ≤ (I115a 5889) + 1 ∧ (I115a 5889) + 1 ≤ (I115a 2774) by (repeat' apply And.intro) <;> first | assumption | omega) (show (((I115a 2754) = (I 2754) ∧ (I 2774) + 1 ≤ (I115a 2774) ∧ (I115a 2775) = (I 2775) ∧ (I115a 4289) = (I 4289)) ∧ ((I 5889) ≤ (I115a 5889) + 1 ∧ (I115a 5889) + 1 ≤ (I 5889) + ((I115a 2774) - (I 2774))) ∧ ((I 3905) ≤ (I115a 3905) ∧ (I 4033) ≤ (I115a 4033) ∧ (I115a 4033) ≤ (I 4033) + ((I115a 2774) - (I 2774)))) ∧ ((I 5889) + 1 ≤ (I115a 5889) + 1 ∧ (I115a 3905) + (((I115a 5889) + 1) - (I 5889)) + 1 ≤ (I 3905) + 3 * ((I115a 2774) - (I 2774))) ∧ g173a (((I115a 5889) + 1) - 1) + 1 = (I115a 3905) by (repeat' apply And.intro) <;> first | exact laB | omega) (show m_TK (w_up I115a 5889 ((I115a 5889) + 1)) (w_upF A115a 92 g173a) by exact (show m_TK (w_up I115a 5889 ((I115a 5889) + 1)) (w_upF A115a 92 g173a) from tk158)) (show m_SC (w_up I115a 5889 ((I115a 5889) + 1)) (w_upF A115a 92 g173a) by exact (show m_SC (w_up I115a 5889 ((I115a 5889) + 1)) (w_upF A115a 92 g173a) from f123)) (show m_TR lo117 (w_up I115a 5889 ((I115a 5889) + 1)) (w_upF A115a 92 g173a) by exact (show m_TR lo117 (w_up I115a 5889 ((I115a 5889) + 1)) (w_upF A115a 92 g173a) from f124)) (show m_ST lo I A lo117 (w_up I115a 5889 ((I115a 5889) + 1)) (w_upF A115a 92 g173a) by exact stB) (show m_fx I A (w_up I115a 5889 ((I115a 5889) + 1)) (w_upF A115a 92 g173a) by exact (show m_fx I A (w_up I115a 5889 ((I115a 5889) + 1)) (w_upF A115a 92 g173a) from (m_fx_trans hi20_6 f121))) (show m_CE lo117 (w_up I115a 5889 ((I115a 5889) + 1)) (w_upF A115a 92 g173a) (I 5889) (I 3905) (8 * (24 - (I 2775)) + (4)) ((I115a 5889) + 1) by exact ceB) (show m_RK lo117 (I 3905) (I115a 3905) (8 * (24 - (I 2775)) + (4)) by exact m_RK_le (show m_RK lo117 (I 3905) (I115a 3905) (8 * (24 - (I 2775)) + (4)) from rk163) (show (8 * (24 - (I 2775)) + (4)) ≤ (8 * (24 - (I 2775)) + (4)) by omega)) (show (I115a 2754) - (I115a 2774) < (fu : Int) by omega)
          · rw [e129]
            replace hR115b : w_Rep w_TM fr X u l I115b A115b B115b C115b M114 := hR115b
            replace f130 : m_fx (w_up I_20 2774 ((I_20 2774) + 1)) A_20 I115b A115b := f130
            skip
            exact Or.inr (⟨I115b, A115b, B115b, C115b, rfl, hR115b, (show m_fx I A I115b A115b by exact (m_fx_trans hi20_6 f130))⟩)
        · rw [e103, e104]
          replace f105 : ¬ ((A_20 45) ((I_20 2774)) = 6 ∧ (A_20 46) ((I_20 2774)) = 124) := f105
          show w_W _ _ _ (26, [(0, .ref 43), (1, .int (Int32.ofInt ((I 5889))))], [.int (Int32.ofInt (0))], M_20) _
          refine w_adv (n := 2) (F' := (55, [(0, .ref 43), (1, .int (Int32.ofInt ((I 5889))))], [.ref 43], M_20)) rfl ?_
          refine w_gf (v := .ref 92) hR_20 rfl rfl rfl rfl ?_
          obtain ⟨r177a, r177b, r177c⟩ : 0 ≤ (I_20 5889) ∧ (I_20 5889) ≤ (C_20 92 : Int) ∧ (C_20 92 : Int) ≤ 131072 := hR_20.sz (show 92 ∈ w_TM.2.2 by decide)
          refine w_call (cm := 274) (as := [(0, .ref 92)]) (rest := []) (o := some (10, 92)) rfl (w_fitR hR_20 rfl) (m_take 92 (by decide) rfl hR_20 (show 0 < (I_20 5889) by first | assumption | omega)) (fun r178 M179 q180 => ?_)
          rcases q180 with ⟨e181, hR180a⟩
          rw [e181]
          replace hR180a : w_Rep w_TM fr X u l (w_up I_20 5889 ((I_20 5889) - 1)) A_20 B_20 C_20 M179 := hR180a
          have ceG := hi20_7 ((I_20 5889) - 1) (show (I 5889) ≤ (I_20 5889) - 1 by omega) (show (I_20 5889) - 1 < (I_20 5889) by omega)
          have ceH := ceG.2.1.1
          have ceT : m_CE lo_20 (w_up I_20 5889 ((I_20 5889) - 1)) A_20 (I 5889) (I 3905) (8 * (24 - (I 2775)) + (4)) ((I_20 5889) - 1) := m_CE_le hi20_7 (by omega)
          show w_W _ _ _ (61, [(0, .ref 43), (1, .int (Int32.ofInt ((I 5889))))], [.int (Int32.ofInt ((A_20 92) ((I_20 5889) - 1)))], M179) _
          refine w_adv (n := 1) (F' := (62, [(3, .int (Int32.ofInt ((A_20 92) ((I_20 5889) - 1)))), (0, .ref 43), (1, .int (Int32.ofInt ((I 5889))))], [], M179)) rfl ?_
          have lp62 : ∀ fu : Nat, ∀ (lo_62 : Int → Int × Int) (y62_3 : Int) (I_62 : Nat → Int) (A_62 : Nat → Int → Int) (B_62 C_62 : Nat → Nat) (M_62 : w_M) (hR_62 : w_Rep w_TM fr X u l I_62 A_62 B_62 C_62 M_62), w_in y62_3 → (0 ≤ (I_62 2774) ∧ (I_62 2774) < (I_62 2754) ∧ (I_62 2754) ≤ 1501 ∧ 0 ≤ (I_62 2775) ∧ (I_62 2775) ≤ 24) ∧ ((I_62 3393) = (I_62 3905) ∧ (I_62 3521) = (I_62 3905) ∧ (I_62 3649) = (I_62 3905) ∧ (I_62 3777) = (I_62 3905) ∧ 0 ≤ (I_62 3905) ∧ (I_62 3905) ≤ 3 * (I_62 2774)) ∧ ((I_62 4161) = (I_62 4033) ∧ 7 ≤ (I_62 4289) ∧ (I_62 4289) ≤ (I_62 4033) ∧ (I_62 4033) ≤ 7 + (I_62 2774)) ∧ 0 ≤ (I_62 5889) ∧ (I_62 5889) ≤ (I_62 2774) → (((I_62 2754) = (I 2754) ∧ (I 2774) + 1 ≤ (I_62 2774) ∧ (I_62 2775) = (I 2775) ∧ (I_62 4289) = (I 4289)) ∧ ((I 5889) ≤ (I_62 5889) ∧ (I_62 5889) ≤ (I 5889) + ((I_62 2774) - (I 2774))) ∧ ((I 3905) ≤ (I_62 3905) ∧ (I 4033) ≤ (I_62 4033) ∧ (I_62 4033) ≤ (I 4033) + ((I_62 2774) - (I 2774)))) ∧ ((I_62 3905) + ((I_62 5889) - (I 5889)) + 2 ≤ (I 3905) + 3 * ((I_62 2774) - (I 2774))) ∧ y62_3 + 1 = (I_62 3905) → m_TK I_62 A_62 → m_SC I_62 A_62 → m_TR lo_62 I_62 A_62 → m_ST lo I A lo_62 I_62 A_62 → m_fx I A I_62 A_62 → m_CE lo_62 I_62 A_62 (I 5889) (I 3905) (8 * (24 - (I 2775)) + (4)) (I_62 5889) → m_RK lo_62 (I 3905) (I_62 3905) (8 * (24 - (I 2775)) + (5)) → m_kd lo_62 I_62 A_62 (m_pv A_62 (I 5889) (I 3905) ((I_62 5889))) (8 * (24 - (I 2775)) + (5)) y62_3 t_E → m_cl A_62 (m_pv A_62 (I 5889) (I 3905) ((I_62 5889))) → (fun k => k = 7) ((A_62 53) (y62_3)) ∨ (lo_62 y62_3).2 < (8 * (24 - (I 2775)) + (5)) → (I_62 5889) - (I 5889) < (fu : Int) → w_W (z_P L xs) (d + 1) 245 (62, [(0, .ref 43), (1, .int (Int32.ofInt ((I 5889)))), (3, .int (Int32.ofInt (y62_3)))], [], M_62) (m_exp_Q fr X u l I A B C M lo) := by
            intro fu
            induction fu with
            | zero =>
              intro lo_62 y62_3 I_62 A_62 B_62 C_62 M_62 hR_62 ⟨ra_y62_3, rb_y62_3⟩ hi62_0 hi62_1 hi62_2 hi62_3 hi62_4 hi62_5 hi62_6 hi62_7 hi62_8 hi62_9 hi62_10 hi62_11 hn62
              exfalso
              omega
            | succ fu ih62 =>
              intro lo_62 y62_3 I_62 A_62 B_62 C_62 M_62 hR_62 ⟨ra_y62_3, rb_y62_3⟩ hi62_0 hi62_1 hi62_2 hi62_3 hi62_4 hi62_5 hi62_6 hi62_7 hi62_8 hi62_9 hi62_10 hi62_11 hn62
              obtain ⟨⟨n182, n183, n184, n185, n186⟩, ⟨n187, n188, n189, n190, n191, n192⟩, ⟨n193, n194, n195, n196⟩, n197, n198⟩ := hi62_0
              obtain ⟨⟨⟨n199, n200, n201, n202⟩, ⟨n203, n204⟩, ⟨n205, n206, n207⟩⟩, n208, n209⟩ := hi62_1
              have j210 := hi62_9.1
              refine w_adv (n := 1) (F' := (63, [(0, .ref 43), (1, .int (Int32.ofInt ((I 5889)))), (3, .int (Int32.ofInt (y62_3)))], [.ref 43], M_62)) rfl ?_
              refine w_gf (v := .ref 92) hR_62 rfl rfl rfl rfl ?_
              refine w_gf (v := .int (Int32.ofInt ((I_62 5889)))) hR_62 rfl rfl rfl rfl ?_
              obtain ⟨r211, r212⟩ : -2147483648 ≤ (I_62 5889) ∧ (I_62 5889) ≤ 2147483647 := hR_62.ri 5889
              obtain ⟨r213a, r213b, r213c⟩ : 0 ≤ (I_62 5889) ∧ (I_62 5889) ≤ (C_62 92 : Int) ∧ (C_62 92 : Int) ≤ 131072 := hR_62.sz (show 92 ∈ w_TM.2.2 by decide)
              refine w_adv (n := 1) (F' := (70, [(0, .ref 43), (1, .int (Int32.ofInt ((I 5889)))), (3, .int (Int32.ofInt (y62_3)))], [.int (Int32.ofInt ((I 5889))), .int (Int32.ofInt ((I_62 5889)))], M_62)) rfl ?_
              refine w_br2 (a := (I_62 5889)) (b := (I 5889)) rfl rfl ⟨by omega, by omega⟩ ⟨by omega, by omega⟩ (fun h214 => ?_) (fun h214 => ?_)
              · have h214 : (I_62 5889) ≤ (I 5889) := h214
                show w_W _ _ _ (92, [(0, .ref 43), (1, .int (Int32.ofInt ((I 5889)))), (3, .int (Int32.ofInt (y62_3)))], [], M_62) _
                have pvE : m_pv A_62 (I 5889) (I 3905) (I_62 5889) = (I 3905) := if_pos (by omega)
                refine w_adv (n := 1) (F' := (93, [(0, .ref 43), (1, .int (Int32.ofInt ((I 5889)))), (3, .int (Int32.ofInt (y62_3)))], [.int (Int32.ofInt (y62_3))], M_62)) rfl ?_
                refine w_fin (r := .inl (some (y62_3))) (M' := M_62) rfl ?_
                exact Or.inl ⟨y62_3, lo_62, I_62, A_62, B_62, C_62, rfl, ⟨by omega, by omega⟩, hR_62, (show m_fx I A I_62 A_62 by exact hi62_6), (show ((0 ≤ (I_62 2774) ∧ (I_62 2774) < (I_62 2754) ∧ (I_62 2754) ≤ 1501 ∧ 0 ≤ (I_62 2775) ∧ (I_62 2775) ≤ 24) ∧ ((I_62 3393) = (I_62 3905) ∧ (I_62 3521) = (I_62 3905) ∧ (I_62 3649) = (I_62 3905) ∧ (I_62 3777) = (I_62 3905) ∧ 0 ≤ (I_62 3905) ∧ (I_62 3905) ≤ 3 * (I_62 2774)) ∧ ((I_62 4161) = (I_62 4033) ∧ 7 ≤ (I_62 4289) ∧ (I_62 4289) ≤ (I_62 4033) ∧ (I_62 4033) ≤ 7 + (I_62 2774)) ∧ 0 ≤ (I_62 5889) ∧ (I_62 5889) ≤ (I_62 2774)) ∧ ((I_62 2754) = (I 2754) ∧ (I 2774) + 1 ≤ (I_62 2774) ∧ (I_62 2775) = (I 2775) ∧ (I_62 4289) = (I 4289) + 0 ∧ (I_62 5889) = (I 5889)) ∧ ((I_62 3905) + 2 ≤ (I 3905) + 3 * ((I_62 2774) - (I 2774)) ∧ (I 3905) ≤ y62_3 ∧ y62_3 + 1 = (I_62 3905) ∧ (I 4033) ≤ (I_62 4033) ∧ (I_62 4033) ≤ (I 4033) + ((I_62 2774) - (I 2774))) by (repeat' apply And.intro) <;> first | assumption | omega), (show m_SC I_62 A_62 by exact hi62_3), (show m_TR lo_62 I_62 A_62 by exact hi62_4), (show m_ST lo I A lo_62 I_62 A_62 by exact hi62_5), (show t_E ((A_62 53) (y62_3)) by exact (hi62_9).2), (show m_rt lo_62 (I_62 3905) y62_3 by exact (fun q h1 h2 => by omega)), (show m_RK lo_62 (I 3905) (I_62 3905) (8 * (24 - (I 2775)) + 5) by exact m_RK_le (show m_RK lo_62 (I 3905) (I_62 3905) (8 * (24 - (I 2775)) + (5)) from hi62_8) (show (8 * (24 - (I 2775)) + (5)) ≤ 8 * (24 - (I 2775)) + 5 by omega))⟩
              · have h214 : ¬ ((I_62 5889) ≤ (I 5889)) := h214
                show w_W _ _ _ (73, [(0, .ref 43), (1, .int (Int32.ofInt ((I 5889)))), (3, .int (Int32.ofInt (y62_3)))], [], M_62) _
                refine w_adv (n := 3) (F' := (77, [(0, .ref 43), (1, .int (Int32.ofInt ((I 5889)))), (3, .int (Int32.ofInt (y62_3)))], [.ref 43, .int (Int32.ofInt (7)), .ref 43], M_62)) rfl ?_
                refine w_gf (v := .ref 92) hR_62 rfl rfl rfl rfl ?_
                refine w_call (cm := 274) (as := [(0, .ref 92)]) (rest := [.int (Int32.ofInt (7)), .ref 43]) (o := some (10, 92)) rfl (w_fitR hR_62 rfl) (m_take 92 (by decide) rfl hR_62 (show 0 < (I_62 5889) by first | assumption | omega)) (fun r215 M216 q217 => ?_)
                rcases q217 with ⟨e218, hR217a⟩
                rw [e218]
                replace hR217a : w_Rep w_TM fr X u l (w_up I_62 5889 ((I_62 5889) - 1)) A_62 B_62 C_62 M216 := hR217a
                have ceG := hi62_7 ((I_62 5889) - 1) (show (I 5889) ≤ (I_62 5889) - 1 by omega) (show (I_62 5889) - 1 < (I_62 5889) by omega)
                have ceH := ceG.2.1.1
                have ceI := ceG.1
                have ceT : m_CE lo_62 (w_up I_62 5889 ((I_62 5889) - 1)) A_62 (I 5889) (I 3905) (8 * (24 - (I 2775)) + (4)) ((I_62 5889) - 1) := m_CE_le hi62_7 (by omega)
                have pvY : (m_pv A_62 (I 5889) (I 3905) ((I_62 5889))) = ((A_62 92) ((I_62 5889) - 1)) + 1 := if_neg (show ¬ (I_62 5889) = (I 5889) by omega)
                have kdY : m_kd lo_62 (w_up I_62 5889 ((I_62 5889) - 1)) A_62 (((A_62 92) ((I_62 5889) - 1)) + 1) (8 * (24 - (I 2775)) + (5)) y62_3 t_E := pvY ▸ hi62_9
                show w_W _ _ _ (83, [(0, .ref 43), (1, .int (Int32.ofInt ((I 5889)))), (3, .int (Int32.ofInt (y62_3)))], [.int (Int32.ofInt ((A_62 92) ((I_62 5889) - 1))), .int (Int32.ofInt (7)), .ref 43], M216) _
                refine w_adv (n := 2) (F' := (85, [(0, .ref 43), (1, .int (Int32.ofInt ((I 5889)))), (3, .int (Int32.ofInt (y62_3)))], [.int (Int32.ofInt (0)), .int (Int32.ofInt (y62_3)), .int (Int32.ofInt ((A_62 92) ((I_62 5889) - 1))), .int (Int32.ofInt (7)), .ref 43], M216)) rfl ?_
                refine w_call (cm := 239) (as := [(0, .ref 43), (1, .int (Int32.ofInt (7))), (2, .int (Int32.ofInt ((A_62 92) ((I_62 5889) - 1)))), (3, .int (Int32.ofInt (y62_3))), (4, .int (Int32.ofInt (0)))]) (rest := []) (o := some (9, 43)) rfl (w_fitR hR217a rfl) (m_node (7) ((A_62 92) ((I_62 5889) - 1)) (y62_3) (0) hR217a (show 2 ≤ d by omega) ⟨by omega, by omega⟩ ⟨by omega, by omega⟩ ⟨by omega, by omega⟩ ⟨by omega, by omega⟩ (show (I_62 3393) = (I_62 3905) by first | assumption | omega) (show (I_62 3521) = (I_62 3905) by first | assumption | omega) (show (I_62 3649) = (I_62 3905) by first | assumption | omega) (show (I_62 3777) = (I_62 3905) by first | assumption | omega) (show (I_62 3905) < 65536 by first | assumption | omega)) (fun r219 M220 q221 => ?_)
                rcases q221 with ⟨v222, I221a, A221a, B221a, C221a, e223, ⟨r224, r225⟩, hR221a, f226, f227⟩
                rw [e223]
                replace hR221a : w_Rep w_TM fr X u l I221a A221a B221a C221a M220 := hR221a
                replace f226 : m_fx (w_up I_62 5889 ((I_62 5889) - 1)) A_62 I221a A221a := f226
                replace f227 : m_nd (w_up I_62 5889 ((I_62 5889) - 1)) A_62 I221a A221a v222 7 ((A_62 92) ((I_62 5889) - 1)) y62_3 0 := f227
                obtain ⟨⟨n228, n229, n230, n231, n232, n233⟩, ⟨n234, n235, n236, n237, n238, n239, n240⟩⟩ : (v222 = (I_62 3905) ∧ (I221a 3905) = (I_62 3905) + 1 ∧ (I221a 3393) = (I_62 3393) + 1 ∧ (I221a 3521) = (I_62 3521) + 1 ∧ (I221a 3649) = (I_62 3649) + 1 ∧ (I221a 3777) = (I_62 3777) + 1) ∧ ((I221a 2774) = (I_62 2774) ∧ (I221a 2754) = (I_62 2754) ∧ (I221a 2775) = (I_62 2775) ∧ (I221a 4289) = (I_62 4289) ∧ (I221a 4033) = (I_62 4033) ∧ (I221a 4161) = (I_62 4161) ∧ (I221a 5889) = (I_62 5889) - 1) := m_nd_num f227
                have tk241 : m_TK I221a A221a := m_TK_fx f226 (show m_TK (w_up I_62 5889 ((I_62 5889) - 1)) A_62 from hi62_2)
                have sc242 : m_SC I221a A221a := m_SC_nd f227 (show m_SC (w_up I_62 5889 ((I_62 5889) - 1)) A_62 from hi62_3)
                have tr243 : m_TR (t_up lo_62 v222 ((m_pv A_62 (I 5889) (I 3905) ((I_62 5889) - 1))) (8 * (24 - (I 2775)) + (5))) I221a A221a := m_TR_nd (show m_TR lo_62 (w_up I_62 5889 ((I_62 5889) - 1)) A_62 from (show m_TR lo_62 (w_up I_62 5889 ((I_62 5889) - 1)) A_62 from hi62_4)) f227 (show 0 ≤ (m_pv A_62 (I 5889) (I 3905) ((I_62 5889) - 1)) by omega) (show (m_pv A_62 (I 5889) (I 3905) ((I_62 5889) - 1)) ≤ v222 by omega) (ceG.2.2) (t_N_mk7 t_up_same (show 0 ≤ (m_pv A_62 (I 5889) (I 3905) ((I_62 5889) - 1)) by omega) (show (m_pv A_62 (I 5889) (I 3905) ((I_62 5889) - 1)) ≤ v222 by omega) (show 0 ≤ (8 * (24 - (I 2775)) + (5)) by omega) (m_hw2 (show m_RK lo_62 ((m_pv A_62 (I 5889) (I 3905) ((I_62 5889) - 1))) v222 (8 * (24 - (I 2775)) + (5)) from fun q q1 q2 => (show m_RK lo_62 (I 3905) (I_62 3905) (8 * (24 - (I 2775)) + (5)) from hi62_8) q (show (I 3905) ≤ q by omega) (show q < (I_62 3905) by omega)) (m_r8 (by decide))) ⟨m_ch f227 (show (m_pv A_62 (I 5889) (I 3905) ((I_62 5889) - 1)) ≤ (m_pv A_62 (I 5889) (I 3905) ((I_62 5889) - 1)) by omega) (show m_kd lo_62 (w_up I_62 5889 ((I_62 5889) - 1)) A_62 ((m_pv A_62 (I 5889) (I 3905) ((I_62 5889) - 1))) (8 * (24 - (I 2775)) + (4)) ((A_62 92) ((I_62 5889) - 1)) t_E from ceG.2.1), m_ch f227 (show (m_pv A_62 (I 5889) (I 3905) ((I_62 5889) - 1)) ≤ (((A_62 92) ((I_62 5889) - 1)) + 1) by omega) (show m_kd lo_62 (w_up I_62 5889 ((I_62 5889) - 1)) A_62 ((((A_62 92) ((I_62 5889) - 1)) + 1)) (8 * (24 - (I 2775)) + (5)) y62_3 t_E from kdY), m_od f227 (show m_kd lo_62 (w_up I_62 5889 ((I_62 5889) - 1)) A_62 ((((A_62 92) ((I_62 5889) - 1)) + 1)) (8 * (24 - (I 2775)) + (5)) y62_3 t_E from kdY) (show (A_62 92) ((I_62 5889) - 1) < (((A_62 92) ((I_62 5889) - 1)) + 1) by omega), (m_ork f227 (show m_kd lo_62 (w_up I_62 5889 ((I_62 5889) - 1)) A_62 ((m_pv A_62 (I 5889) (I 3905) ((I_62 5889) - 1))) (8 * (24 - (I 2775)) + (4)) ((A_62 92) ((I_62 5889) - 1)) t_E from ceG.2.1) (show (8 * (24 - (I 2775)) + (4)) < (8 * (24 - (I 2775)) + (5)) by omega)), (m_ork2 (p := (fun k => k = 7)) f227 (show m_kd lo_62 (w_up I_62 5889 ((I_62 5889) - 1)) A_62 ((((A_62 92) ((I_62 5889) - 1)) + 1)) (8 * (24 - (I 2775)) + (5)) y62_3 t_E from kdY) hi62_11)⟩)
                have s244 : m_ST lo I A (t_up lo_62 v222 ((m_pv A_62 (I 5889) (I 3905) ((I_62 5889) - 1))) (8 * (24 - (I 2775)) + (5))) I221a A221a := m_ST_nd (l := (m_pv A_62 (I 5889) (I 3905) ((I_62 5889) - 1))) (show m_ST lo I A lo_62 (w_up I_62 5889 ((I_62 5889) - 1)) A_62 from (show m_ST lo I A lo_62 (w_up I_62 5889 ((I_62 5889) - 1)) A_62 from hi62_5)) f227 (show (I 3905) ≤ (m_pv A_62 (I 5889) (I 3905) ((I_62 5889) - 1)) by omega) (show (I 3905) ≤ (I_62 3905) by omega)
                have rk245 : m_RK (t_up lo_62 v222 ((m_pv A_62 (I 5889) (I 3905) ((I_62 5889) - 1))) (8 * (24 - (I 2775)) + (5))) (I 3905) (I221a 3905) (8 * (24 - (I 2775)) + (5)) := fun q q1 q2 => m_RK_nd (show m_RK lo_62 (I 3905) v222 (8 * (24 - (I 2775)) + (5)) from fun q q1 q2 => (show m_RK lo_62 (I 3905) (I_62 3905) (8 * (24 - (I 2775)) + (5)) from hi62_8) q q1 (show q < (I_62 3905) by omega)) (m_r8 (by decide)) (m_r8 (by decide)) q q1 (show q < v222 + 1 by omega)
                have k246 : m_kd (t_up lo_62 v222 ((m_pv A_62 (I 5889) (I 3905) ((I_62 5889) - 1))) (8 * (24 - (I 2775)) + (5))) I221a A221a ((m_pv A_62 (I 5889) (I 3905) ((I_62 5889) - 1))) (8 * (24 - (I 2775)) + (5)) v222 (fun k => k = 7) := m_kd_new f227 (show 0 ≤ (m_pv A_62 (I 5889) (I 3905) ((I_62 5889) - 1)) by omega) (show (m_pv A_62 (I 5889) (I 3905) ((I_62 5889) - 1)) ≤ v222 by omega) rfl
                have rt247 : m_rt (t_up lo_62 v222 ((m_pv A_62 (I 5889) (I 3905) ((I_62 5889) - 1))) (8 * (24 - (I 2775)) + (5))) (I221a 3905) v222 := m_rt_new f227
                have e92N : (A221a 92) = (A_62 92) := f227.2.2.2.1 92 (by decide) (by decide) (by decide) (by decide) (by decide)
                have chN : (I221a 5889) = (I_62 5889) - 1 := by omega
                have ceN : m_CE (t_up lo_62 v222 ((m_pv A_62 (I 5889) (I 3905) ((I_62 5889) - 1))) (8 * (24 - (I 2775)) + (5))) I221a A221a (I 5889) (I 3905) (8 * (24 - (I 2775)) + (4)) (I221a 5889) := by rw [chN]; exact m_CE_nd (show m_CE lo_62 (w_up I_62 5889 ((I_62 5889) - 1)) A_62 (I 5889) (I 3905) (8 * (24 - (I 2775)) + (4)) ((I_62 5889) - 1) from ceT) f227
                have pvN : (m_pv A221a (I 5889) (I 3905) ((I221a 5889))) = (m_pv A_62 (I 5889) (I 3905) ((I_62 5889) - 1)) := by unfold m_pv; rw [e92N, chN]
                have kdN : m_kd (t_up lo_62 v222 ((m_pv A_62 (I 5889) (I 3905) ((I_62 5889) - 1))) (8 * (24 - (I 2775)) + (5))) I221a A221a (m_pv A221a (I 5889) (I 3905) ((I221a 5889))) (8 * (24 - (I 2775)) + (5)) v222 t_E := by rw [pvN]; exact (m_kd_K k246 (fun k h => by have h : k = 7 := h; unfold t_E; omega))
                have opN : (fun k => k = 7) ((A221a 53) (v222)) ∨ ((t_up lo_62 v222 ((m_pv A_62 (I 5889) (I 3905) ((I_62 5889) - 1))) (8 * (24 - (I 2775)) + (5))) v222).2 < (8 * (24 - (I 2775)) + (5)) := Or.inl k246.2
                have clN : m_cl A221a (m_pv A221a (I 5889) (I 3905) ((I221a 5889))) := by intro p h3 h4; obtain ⟨-, -, -, -, e5⟩ := f227.2.2.2.2.1 p h3 (by omega); show (A221a 61) p < _; rw [e5, pvN]; exact ceG.2.2 p h3 (by omega)
                show w_W _ _ _ (88, [(0, .ref 43), (1, .int (Int32.ofInt ((I 5889)))), (3, .int (Int32.ofInt (y62_3)))], [.int (Int32.ofInt (v222))], M220) _
                refine w_adv (n := 2) (F' := (62, [(3, .int (Int32.ofInt (v222))), (0, .ref 43), (1, .int (Int32.ofInt ((I 5889))))], [], M220)) rfl ?_
                refine w_ls (ls := [(0, .ref 43), (1, .int (Int32.ofInt ((I 5889)))), (3, .int (Int32.ofInt (v222)))]) (show List.Nodup [0, 1, 3] by decide) (show List.Nodup [3, 0, 1] by decide) (List.forall_mem_cons.mpr ⟨(List.Mem.tail _ (List.Mem.head _)), (List.forall_mem_cons.mpr ⟨(List.Mem.tail _ (List.Mem.tail _ (List.Mem.head _))), (List.forall_mem_cons.mpr ⟨(List.Mem.head _), (fun _ h => by cases h)⟩)⟩)⟩) ?_
                exact ih62 (t_up lo_62 v222 ((m_pv A_62 (I 5889) (I 3905) ((I_62 5889) - 1))) (8 * (24 - (I 2775)) + (5))) (v222) I221a A221a B221a C221a M220 hR221a ⟨by omega, by omega⟩ (show (0 ≤ (I221a 2774) ∧ (I221a 2774) < (I221a 2754) ∧ (I221a 2754) ≤ 1501 ∧ 0 ≤ (I221a 2775) ∧ (I221a 2775) ≤ 24) ∧ ((I221a 3393) = (I221a 3905) ∧ (I221a 3521) = (I221a 3905) ∧ (I221a 3649) = (I221a 3905) ∧ (I221a 3777) = (I221a 3905) ∧ 0 ≤ (I221a 3905) ∧ (I221a 3905) ≤ 3 * (I221a 2774)) ∧ ((I221a 4161) = (I221a 4033) ∧ 7 ≤ (I221a 4289) ∧ (I221a 4289) ≤ (I221a 4033) ∧ (I221a 4033) ≤ 7 + (I221a 2774)) ∧ 0 ≤ (I221a 5889) ∧ (I221a 5889) ≤ (I221a 2774) by (repeat' apply And.intro) <;> first | assumption | omega) (show (((I221a 2754) = (I 2754) ∧ (I 2774) + 1 ≤ (I221a 2774) ∧ (I221a 2775) = (I 2775) ∧ (I221a 4289) = (I 4289)) ∧ ((I 5889) ≤ (I221a 5889) ∧ (I221a 5889) ≤ (I 5889) + ((I221a 2774) - (I 2774))) ∧ ((I 3905) ≤ (I221a 3905) ∧ (I 4033) ≤ (I221a 4033) ∧ (I221a 4033) ≤ (I 4033) + ((I221a 2774) - (I 2774)))) ∧ ((I221a 3905) + ((I221a 5889) - (I 5889)) + 2 ≤ (I 3905) + 3 * ((I221a 2774) - (I 2774))) ∧ v222 + 1 = (I221a 3905) by (repeat' apply And.intro) <;> first | assumption | omega) (show m_TK I221a A221a by exact tk241) (show m_SC I221a A221a by exact sc242) (show m_TR (t_up lo_62 v222 ((m_pv A_62 (I 5889) (I 3905) ((I_62 5889) - 1))) (8 * (24 - (I 2775)) + (5))) I221a A221a by exact tr243) (show m_ST lo I A (t_up lo_62 v222 ((m_pv A_62 (I 5889) (I 3905) ((I_62 5889) - 1))) (8 * (24 - (I 2775)) + (5))) I221a A221a by exact s244) (show m_fx I A I221a A221a by exact (m_fx_trans (show m_fx I A (w_up I_62 5889 ((I_62 5889) - 1)) A_62 from hi62_6) f226)) (show m_CE (t_up lo_62 v222 ((m_pv A_62 (I 5889) (I 3905) ((I_62 5889) - 1))) (8 * (24 - (I 2775)) + (5))) I221a A221a (I 5889) (I 3905) (8 * (24 - (I 2775)) + (4)) (I221a 5889) by exact ceN) (show m_RK (t_up lo_62 v222 ((m_pv A_62 (I 5889) (I 3905) ((I_62 5889) - 1))) (8 * (24 - (I 2775)) + (5))) (I 3905) (I221a 3905) (8 * (24 - (I 2775)) + (5)) by exact m_RK_le (show m_RK (t_up lo_62 v222 ((m_pv A_62 (I 5889) (I 3905) ((I_62 5889) - 1))) (8 * (24 - (I 2775)) + (5))) (I 3905) (I221a 3905) (8 * (24 - (I 2775)) + (5)) from rk245) (show (8 * (24 - (I 2775)) + (5)) ≤ (8 * (24 - (I 2775)) + (5)) by omega)) (show m_kd (t_up lo_62 v222 ((m_pv A_62 (I 5889) (I 3905) ((I_62 5889) - 1))) (8 * (24 - (I 2775)) + (5))) I221a A221a (m_pv A221a (I 5889) (I 3905) ((I221a 5889))) (8 * (24 - (I 2775)) + (5)) v222 t_E by exact m_kd_l kdN (by omega) (by omega) (by omega)) (show m_cl A221a (m_pv A221a (I 5889) (I 3905) ((I221a 5889))) by exact clN) (show (fun k => k = 7) ((A221a 53) (v222)) ∨ ((t_up lo_62 v222 ((m_pv A_62 (I 5889) (I 3905) ((I_62 5889) - 1))) (8 * (24 - (I 2775)) + (5))) v222).2 < (8 * (24 - (I 2775)) + (5)) by exact opN) (show (I221a 5889) - (I 5889) < (fu : Int) by omega)
          refine w_ls (ls := [(0, .ref 43), (1, .int (Int32.ofInt ((I 5889)))), (3, .int (Int32.ofInt ((A_20 92) ((I_20 5889) - 1))))]) (show List.Nodup [0, 1, 3] by decide) (show List.Nodup [3, 0, 1] by decide) (List.forall_mem_cons.mpr ⟨(List.Mem.tail _ (List.Mem.head _)), (List.forall_mem_cons.mpr ⟨(List.Mem.tail _ (List.Mem.tail _ (List.Mem.head _))), (List.forall_mem_cons.mpr ⟨(List.Mem.head _), (fun _ h => by cases h)⟩)⟩)⟩) ?_
          exact lp62 (((I_20 5889) - 1 - (I 5889)).toNat + 1) lo_20 ((A_20 92) ((I_20 5889) - 1)) (w_up I_20 5889 ((I_20 5889) - 1)) A_20 B_20 C_20 M179 hR180a ⟨by omega, by omega⟩ (show (0 ≤ (I_20 2774) ∧ (I_20 2774) < (I_20 2754) ∧ (I_20 2754) ≤ 1501 ∧ 0 ≤ (I_20 2775) ∧ (I_20 2775) ≤ 24) ∧ ((I_20 3393) = (I_20 3905) ∧ (I_20 3521) = (I_20 3905) ∧ (I_20 3649) = (I_20 3905) ∧ (I_20 3777) = (I_20 3905) ∧ 0 ≤ (I_20 3905) ∧ (I_20 3905) ≤ 3 * (I_20 2774)) ∧ ((I_20 4161) = (I_20 4033) ∧ 7 ≤ (I_20 4289) ∧ (I_20 4289) ≤ (I_20 4033) ∧ (I_20 4033) ≤ 7 + (I_20 2774)) ∧ 0 ≤ (I_20 5889) - 1 ∧ (I_20 5889) - 1 ≤ (I_20 2774) by (repeat' apply And.intro) <;> first | assumption | omega) (show (((I_20 2754) = (I 2754) ∧ (I 2774) + 1 ≤ (I_20 2774) ∧ (I_20 2775) = (I 2775) ∧ (I_20 4289) = (I 4289)) ∧ ((I 5889) ≤ (I_20 5889) - 1 ∧ (I_20 5889) - 1 ≤ (I 5889) + ((I_20 2774) - (I 2774))) ∧ ((I 3905) ≤ (I_20 3905) ∧ (I 4033) ≤ (I_20 4033) ∧ (I_20 4033) ≤ (I 4033) + ((I_20 2774) - (I 2774)))) ∧ ((I_20 3905) + (((I_20 5889) - 1) - (I 5889)) + 2 ≤ (I 3905) + 3 * ((I_20 2774) - (I 2774))) ∧ ((A_20 92) ((I_20 5889) - 1)) + 1 = (I_20 3905) by (repeat' apply And.intro) <;> first | assumption | omega) (show m_TK (w_up I_20 5889 ((I_20 5889) - 1)) A_20 by exact (show m_TK (w_up I_20 5889 ((I_20 5889) - 1)) A_20 from hi20_2)) (show m_SC (w_up I_20 5889 ((I_20 5889) - 1)) A_20 by exact (show m_SC (w_up I_20 5889 ((I_20 5889) - 1)) A_20 from hi20_3)) (show m_TR lo_20 (w_up I_20 5889 ((I_20 5889) - 1)) A_20 by exact (show m_TR lo_20 (w_up I_20 5889 ((I_20 5889) - 1)) A_20 from hi20_4)) (show m_ST lo I A lo_20 (w_up I_20 5889 ((I_20 5889) - 1)) A_20 by exact (show m_ST lo I A lo_20 (w_up I_20 5889 ((I_20 5889) - 1)) A_20 from hi20_5)) (show m_fx I A (w_up I_20 5889 ((I_20 5889) - 1)) A_20 by exact (show m_fx I A (w_up I_20 5889 ((I_20 5889) - 1)) A_20 from hi20_6)) (show m_CE lo_20 (w_up I_20 5889 ((I_20 5889) - 1)) A_20 (I 5889) (I 3905) (8 * (24 - (I 2775)) + (4)) ((I_20 5889) - 1) by exact ceT) (show m_RK lo_20 (I 3905) (I_20 3905) (8 * (24 - (I 2775)) + (5)) by exact m_RK_le (show m_RK lo_20 (I 3905) (I_20 3905) (8 * (24 - (I 2775)) + (4)) from hi20_8) (show (8 * (24 - (I 2775)) + (4)) ≤ (8 * (24 - (I 2775)) + (5)) by omega)) (show m_kd lo_20 (w_up I_20 5889 ((I_20 5889) - 1)) A_20 (m_pv A_20 (I 5889) (I 3905) ((I_20 5889) - 1)) (8 * (24 - (I 2775)) + (5)) ((A_20 92) ((I_20 5889) - 1)) t_E by exact m_kd_l ceG.2.1 (by omega) (by omega) (by omega)) (show m_cl A_20 (m_pv A_20 (I 5889) (I 3905) ((I_20 5889) - 1)) by exact ceG.2.2) (show (fun k => k = 7) ((A_20 53) ((A_20 92) ((I_20 5889) - 1))) ∨ (lo_20 ((A_20 92) ((I_20 5889) - 1))).2 < (8 * (24 - (I 2775)) + (5)) by exact Or.inr (by have q := ceG.2.1.1; omega)) (show (I_20 5889) - 1 - (I 5889) < ((((I_20 5889) - 1 - (I 5889)).toNat + 1 : Nat) : Int) by omega)
    refine w_ls (ls := [(0, .ref 43), (1, .int (Int32.ofInt ((I 5889))))]) (show List.Nodup [0, 1] by decide) (show List.Nodup [2, 1, 0] by decide) (List.forall_mem_cons.mpr ⟨(List.Mem.tail _ (List.Mem.tail _ (List.Mem.head _))), (List.forall_mem_cons.mpr ⟨(List.Mem.tail _ (List.Mem.head _)), (fun _ h => by cases h)⟩)⟩) ?_
    exact lp20 (((I6a 2754) - (I6a 2774)).toNat + 1) lo8  (w_up I6a 5889 ((I6a 5889) + 1)) (w_upF A6a 92 g64a) (w_upN B6a 92 b64a) (w_upN C6a 92 c64a) M63 hR64a  (show (0 ≤ (I6a 2774) ∧ (I6a 2774) < (I6a 2754) ∧ (I6a 2754) ≤ 1501 ∧ 0 ≤ (I6a 2775) ∧ (I6a 2775) ≤ 24) ∧ ((I6a 3393) = (I6a 3905) ∧ (I6a 3521) = (I6a 3905) ∧ (I6a 3649) = (I6a 3905) ∧ (I6a 3777) = (I6a 3905) ∧ 0 ≤ (I6a 3905) ∧ (I6a 3905) ≤ 3 * (I6a 2774)) ∧ ((I6a 4161) = (I6a 4033) ∧ 7 ≤ (I6a 4289) ∧ (I6a 4289) ≤ (I6a 4033) ∧ (I6a 4033) ≤ 7 + (I6a 2774)) ∧ 0 ≤ (I6a 5889) + 1 ∧ (I6a 5889) + 1 ≤ (I6a 2774) by (repeat' apply And.intro) <;> first | assumption | omega) (show (((I6a 2754) = (I 2754) ∧ (I 2774) + 1 ≤ (I6a 2774) ∧ (I6a 2775) = (I 2775) ∧ (I6a 4289) = (I 4289)) ∧ ((I 5889) ≤ (I6a 5889) + 1 ∧ (I6a 5889) + 1 ≤ (I 5889) + ((I6a 2774) - (I 2774))) ∧ ((I 3905) ≤ (I6a 3905) ∧ (I 4033) ≤ (I6a 4033) ∧ (I6a 4033) ≤ (I 4033) + ((I6a 2774) - (I 2774)))) ∧ ((I 5889) + 1 ≤ (I6a 5889) + 1 ∧ (I6a 3905) + (((I6a 5889) + 1) - (I 5889)) + 1 ≤ (I 3905) + 3 * ((I6a 2774) - (I 2774))) ∧ g64a (((I6a 5889) + 1) - 1) + 1 = (I6a 3905) by (repeat' apply And.intro) <;> first | exact laB | omega) (show m_TK (w_up I6a 5889 ((I6a 5889) + 1)) (w_upF A6a 92 g64a) by exact (show m_TK (w_up I6a 5889 ((I6a 5889) + 1)) (w_upF A6a 92 g64a) from tk49)) (show m_SC (w_up I6a 5889 ((I6a 5889) + 1)) (w_upF A6a 92 g64a) by exact (show m_SC (w_up I6a 5889 ((I6a 5889) + 1)) (w_upF A6a 92 g64a) from f14)) (show m_TR lo8 (w_up I6a 5889 ((I6a 5889) + 1)) (w_upF A6a 92 g64a) by exact (show m_TR lo8 (w_up I6a 5889 ((I6a 5889) + 1)) (w_upF A6a 92 g64a) from f15)) (show m_ST lo I A lo8 (w_up I6a 5889 ((I6a 5889) + 1)) (w_upF A6a 92 g64a) by exact stB) (show m_fx I A (w_up I6a 5889 ((I6a 5889) + 1)) (w_upF A6a 92 g64a) by exact (show m_fx I A (w_up I6a 5889 ((I6a 5889) + 1)) (w_upF A6a 92 g64a) from f12)) (show m_CE lo8 (w_up I6a 5889 ((I6a 5889) + 1)) (w_upF A6a 92 g64a) (I 5889) (I 3905) (8 * (24 - (I 2775)) + (4)) ((I6a 5889) + 1) by exact ceB) (show m_RK lo8 (I 3905) (I6a 3905) (8 * (24 - (I 2775)) + (4)) by exact m_RK_le (show m_RK lo8 (I 3905) (I6a 3905) (8 * (24 - (I 2775)) + (4)) from rk54) (show (8 * (24 - (I 2775)) + (4)) ≤ (8 * (24 - (I 2775)) + (4)) by omega)) (show (I6a 2754) - (I6a 2774) < ((((I6a 2754) - (I6a 2774)).toNat + 1 : Nat) : Int) by omega)
  · rw [e20]
    replace hR6b : w_Rep w_TM fr X u l I6b A6b B6b C6b M5 := hR6b
    replace f21 : m_fx I A I6b A6b := f21
    skip
    exact Or.inr (⟨I6b, A6b, B6b, C6b, rfl, hR6b, (show m_fx I A I6b A6b by exact f21)⟩)
