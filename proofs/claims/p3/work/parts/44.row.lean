/-! ROW: the rows of the reference. -/
def m_get_Q (fr : Nat → Bool) (X : Nat → Option (q_C (Nat → Int32))) (u l : Nat) (I : Nat → Int) (A : Nat → Int → Int) (B C : Nat → Nat) (M : w_M) (i : Int) (k : Nat) : w_X → w_M → Prop := fun r M' => r = .inl (some (A k i)) ∧ M' = M
theorem m_get {L : Nat} {xs : Nat → Int32} {d : Nat} {fr : Nat → Bool} {X : Nat → Option (q_C (Nat → Int32))} {u l : Nat} {I : Nat → Int} {A : Nat → Int → Int} {B C : Nat → Nat} {M : w_M} (i : Int) (k : Nat) (hk : k ∈ w_TM.2.2) (hT : w_TM.1 k = some (10, [.inr true, .inr false])) (hR : w_Rep w_TM fr X u l I A B C M) (r_i : w_in i) (h0 : 0 ≤ i) (h1 : i < (C k : Int)) : w_W (z_P L xs) d 238 (0, [(0, .ref k), (1, .int (Int32.ofInt i))], [], M) (m_get_Q fr X u l I A B C M i k) := by
  refine w_adv (n := 1) (F' := (1, [(0, .ref k), (1, .int (Int32.ofInt i))], [.ref k], M)) rfl ?_
  refine w_gf (v := .ref (B k)) hR rfl rfl hT rfl ?_
  refine w_adv (n := 1) (F' := (5, [(0, .ref k), (1, .int (Int32.ofInt i))], [.int (Int32.ofInt i), .ref (B k)], M)) rfl ?_
  refine w_lr hR rfl hk h0 h1 ?_
  refine w_fin (r := .inl (some (A k i))) (M' := M) rfl ?_
  exact ⟨rfl, rfl⟩
def m_take_Q (fr : Nat → Bool) (X : Nat → Option (q_C (Nat → Int32))) (u l : Nat) (I : Nat → Int) (A : Nat → Int → Int) (B C : Nat → Nat) (M : w_M) (k : Nat) : w_X → w_M → Prop := fun r M' => r = .inl (some (A k (I (64 * k + 1) - 1))) ∧ w_Rep w_TM fr X u l (w_up I (64 * k + 1) (I (64 * k + 1) - 1)) A B C M'
theorem m_take {L : Nat} {xs : Nat → Int32} {d : Nat} {fr : Nat → Bool} {X : Nat → Option (q_C (Nat → Int32))} {u l : Nat} {I : Nat → Int} {A : Nat → Int → Int} {B C : Nat → Nat} {M : w_M} (k : Nat) (hk : k ∈ w_TM.2.2) (hT : w_TM.1 k = some (10, [.inr true, .inr false])) (hR : w_Rep w_TM fr X u l I A B C M) (h0 : 0 < I (64 * k + 1)) : w_W (z_P L xs) d 274 (0, [(0, .ref k)], [], M) (m_take_Q fr X u l I A B C M k) := by
  obtain ⟨z1, z2, z3⟩ := hR.sz hk
  refine w_adv (n := 2) (F' := (2, [(0, .ref k)], [.ref k, .ref k], M)) rfl ?_
  refine w_gf (v := .int (Int32.ofInt (I (64 * k + 1)))) hR rfl rfl hT rfl ?_
  refine w_adv (n := 1) (F' := (6, [(0, .ref k)], [.int (Int32.ofInt 1), .int (Int32.ofInt (I (64 * k + 1))), .ref k], M)) rfl ?_
  refine w_sub rfl ?_
  refine w_pf hR rfl rfl hT rfl (show w_in (I (64 * k + 1) - 1) from ⟨by omega, by omega⟩) (fun _ _ => ⟨by omega, by omega⟩) (fun M1 h1 => ?_)
  refine w_adv (n := 1) (F' := (11, [(0, .ref k)], [.ref k], M1)) rfl ?_
  refine w_gf (v := .ref (B k)) h1 rfl rfl hT rfl ?_
  refine w_adv (n := 1) (F' := (15, [(0, .ref k)], [.ref k, .ref (B k)], M1)) rfl ?_
  refine w_gf (v := .int (Int32.ofInt (I (64 * k + 1) - 1))) h1 rfl rfl hT (by show some (Value.int (Int32.ofInt (w_up I (64 * k + 1) (I (64 * k + 1) - 1) (64 * k + 1)))) = _; rw [w_up_same]) ?_
  refine w_lr h1 rfl hk (by omega) (by omega) ?_
  refine w_fin (r := .inl (some (A k (I (64 * k + 1) - 1)))) (M' := M1) rfl ?_
  exact ⟨rfl, h1⟩
def m_add_Q (fr : Nat → Bool) (X : Nat → Option (q_C (Nat → Int32))) (u l : Nat) (I : Nat → Int) (A : Nat → Int → Int) (B C : Nat → Nat) (M : w_M) (v : Int) (k : Nat) : w_X → w_M → Prop := fun r M' => ∃ (g : Int → Int) (b c : Nat), r = .inl (some (I (64 * k + 1))) ∧ w_Rep w_TM fr X u l (w_up I (64 * k + 1) (I (64 * k + 1) + 1)) (w_upF A k g) (w_upN B k b) (w_upN C k c) M' ∧ (∀ i, 0 ≤ i → i < I (64 * k + 1) → g i = A k i) ∧ g (I (64 * k + 1)) = v
theorem w_upN_self {B : Nat → Nat} {k : Nat} : w_upN B k (B k) = B := by
  funext j
  by_cases e : j = k
  · rw [e, w_upN_same]
  · rw [w_upN_ne e]
theorem w_upN_upN {B : Nat → Nat} {k v w : Nat} : w_upN (w_upN B k v) k w = w_upN B k w := by
  funext j
  by_cases e : j = k
  · rw [e, w_upN_same, w_upN_same]
  · rw [w_upN_ne e, w_upN_ne e, w_upN_ne e]
theorem w_upF_upF {A : Nat → Int → Int} {k : Nat} {g g' : Int → Int} : w_upF (w_upF A k g) k g' = w_upF A k g' := by
  funext j
  by_cases e : j = k
  · rw [e, w_upF_same, w_upF_same]
  · rw [w_upF_ne e, w_upF_ne e, w_upF_ne e]
theorem m_add2 {L : Nat} {xs : Nat → Int32} {d : Nat} {fr : Nat → Bool} {X : Nat → Option (q_C (Nat → Int32))} {u l : Nat} {I : Nat → Int} {A : Nat → Int → Int} {B C : Nat → Nat} {M : w_M} (v : Int) (k : Nat) (hk : k ∈ w_TM.2.2) (hT : w_TM.1 k = some (10, [.inr true, .inr false])) (hR : w_Rep w_TM fr X u l I A B C M) (ls : y_L) (hl0 : y_get ls 0 = some (.ref k)) (hl1 : y_get ls 1 = some (.int (Int32.ofInt v))) (r_v : w_in v) (h1 : I (64 * k + 1) < (C k : Int)) {Q : w_X → w_M → Prop} (hQ : ∀ M', w_Rep w_TM fr X u l (w_up I (64 * k + 1) (I (64 * k + 1) + 1)) (w_upF A k (w_upA (A k) (I (64 * k + 1)) v)) B C M' → Q (.inl (some (I (64 * k + 1)))) M') : w_W (z_P L xs) d 207 (40, ls, [], M) Q := by
  obtain ⟨z1, z2, z3⟩ := hR.sz hk
  have ld0 : ∀ (pc : Nat) (st : List Value) (M : w_M), y_loadA 0 1 pc ls st q_D0 = some (pc + 1, ls, .ref k :: st, q_D0) := fun pc st M => by unfold y_loadA; rw [hl0]
  have ld1 : ∀ (pc : Nat) (st : List Value) (M : w_M), y_loadI 1 1 pc ls st q_D0 = some (pc + 1, ls, .int (Int32.ofInt v) :: st, q_D0) := fun pc st M => by unfold y_loadI; rw [hl1]
  refine w_oth (F' := (41, ls, [.ref k], M)) rfl rfl (by show q_lift M (y_loadA 0 1 40 ls [] q_D0) = _; rw [ld0 _ _ M]; rfl) ?_
  refine w_gf (v := .ref (B k)) hR rfl rfl hT rfl ?_
  refine w_oth (F' := (45, ls, [.ref k, .ref (B k)], M)) rfl rfl (by show q_lift M (y_loadA 0 1 44 ls _ q_D0) = _; rw [ld0 _ _ M]; rfl) ?_
  refine w_gf (v := .int (Int32.ofInt (I (64 * k + 1)))) hR rfl rfl hT rfl ?_
  refine w_oth (F' := (49, ls, [.int (Int32.ofInt v), .int (Int32.ofInt (I (64 * k + 1))), .ref (B k)], M)) rfl rfl (by show q_lift M (y_loadI 1 1 48 ls _ q_D0) = _; rw [ld1 _ _ M]; rfl) ?_
  refine w_sr hR rfl hk z1 h1 r_v (fun M1 h2 => ?_)
  refine w_oth (F' := (51, ls, [.ref k], M1)) rfl rfl (by show q_lift M1 (y_loadA 0 1 50 ls [] q_D0) = _; rw [ld0 _ _ M]; rfl) ?_
  refine w_adv (n := 1) (F' := (52, ls, [.ref k, .ref k], M1)) rfl ?_
  refine w_gf (v := .int (Int32.ofInt (I (64 * k + 1)))) h2 rfl rfl hT rfl ?_
  refine w_adv (n := 1) (F' := (56, ls, [.int (Int32.ofInt 1), .int (Int32.ofInt (I (64 * k + 1))), .ref k], M1)) rfl ?_
  refine w_add rfl ?_
  refine w_pf h2 rfl rfl hT rfl (show w_in (I (64 * k + 1) + 1) from ⟨by omega, by omega⟩) (fun _ _ => ⟨by omega, by omega⟩) (fun M2 h3 => ?_)
  refine w_oth (F' := (61, ls, [.ref k], M2)) rfl rfl (by show q_lift M2 (y_loadA 0 1 60 ls [] q_D0) = _; rw [ld0 _ _ M]; rfl) ?_
  refine w_gf (v := .int (Int32.ofInt (I (64 * k + 1) + 1))) h3 rfl rfl hT (by show some (Value.int (Int32.ofInt (w_up I (64 * k + 1) (I (64 * k + 1) + 1) (64 * k + 1)))) = _; rw [w_up_same]) ?_
  refine w_adv (n := 1) (F' := (65, ls, [.int (Int32.ofInt 1), .int (Int32.ofInt (I (64 * k + 1) + 1))], M2)) rfl ?_
  refine w_sub rfl ?_
  rw [show I (64 * k + 1) + 1 - 1 = I (64 * k + 1) by omega]
  refine w_fin (r := .inl (some (I (64 * k + 1)))) (M' := M2) rfl ?_
  exact hQ M2 h3
theorem m_add {L : Nat} {xs : Nat → Int32} {d : Nat} {fr : Nat → Bool} {X : Nat → Option (q_C (Nat → Int32))} {u l : Nat} {I : Nat → Int} {A : Nat → Int → Int} {B C : Nat → Nat} {M : w_M} (v : Int) (k : Nat) (hk : k ∈ w_TM.2.2) (hT : w_TM.1 k = some (10, [.inr true, .inr false])) (hR : w_Rep w_TM fr X u l I A B C M) (r_v : w_in v) (h1 : I (64 * k + 1) < 65536) : w_W (z_P L xs) d 207 (0, [(0, .ref k), (1, .int (Int32.ofInt v))], [], M) (m_add_Q fr X u l I A B C M v k) := by
  obtain ⟨z1, z2, z3⟩ := hR.sz hk
  refine w_adv (n := 1) (F' := (1, [(0, .ref k), (1, .int (Int32.ofInt v))], [.ref k], M)) rfl ?_
  refine w_gf (v := .int (Int32.ofInt (I (64 * k + 1)))) hR rfl rfl hT rfl ?_
  refine w_adv (n := 1) (F' := (5, [(0, .ref k), (1, .int (Int32.ofInt v))], [.ref k, .int (Int32.ofInt (I (64 * k + 1)))], M)) rfl ?_
  refine w_gf (v := .ref (B k)) hR rfl rfl hT rfl ?_
  refine w_lenr hR rfl hk ?_
  refine w_br2 (a := I (64 * k + 1)) (b := (C k : Int)) rfl rfl ⟨by omega, by omega⟩ ⟨by omega, by omega⟩ (fun h => ?_) (fun h => ?_)
  · have h : ¬ I (64 * k + 1) = (C k : Int) := h
    refine m_add2 v k hk hT hR _ rfl rfl r_v (by omega) (fun M1 h2 => ?_)
    refine ⟨w_upA (A k) (I (64 * k + 1)) v, B k, C k, rfl, by rw [w_upN_self, w_upN_self]; exact h2, fun i h3 h4 => ?_, ?_⟩
    · unfold w_upA
      rw [if_neg (by omega)]
    · unfold w_upA
      rw [if_pos rfl]
  · have h : ¬ ¬ I (64 * k + 1) = (C k : Int) := h
    have hc : C k ≤ 65536 := by omega
    have hl := hR.len
    let g : Int → Int := fun j => if 0 ≤ j ∧ j < I (64 * k + 1) then A k j else 0
    have hg : ∀ i, w_in (g i) := fun i => by
      show w_in (if 0 ≤ i ∧ i < I (64 * k + 1) then A k i else 0)
      split
      · exact hR.ra k i
      · exact ⟨by decide, by decide⟩
    have e1 : (Int32.ofInt (2 * I (64 * k + 1))).toNatClampNeg = 2 * C k := by
      show (Int32.ofInt (2 * I (64 * k + 1))).toInt.toNat = _
      rw [w_toI ⟨by omega, by omega⟩]
      omega
    have e2 : ¬ (Int32.ofInt (2 * I (64 * k + 1))) < 0 := by
      intro h'
      have := Int32.lt_iff_toInt_lt.mp h'
      rw [w_toI ⟨by omega, by omega⟩] at this
      have e0 : (0 : Int32).toInt = 0 := by decide
      omega
    have e3 : (Int32.ofInt (I (64 * k + 1))).toNatClampNeg = C k := by
      show (Int32.ofInt (I (64 * k + 1))).toInt.toNat = _
      rw [w_toI ⟨by omega, by omega⟩]
      omega
    have e4 : ¬ (Int32.ofInt (I (64 * k + 1))) < 0 := by
      intro h'
      have := Int32.lt_iff_toInt_lt.mp h'
      rw [w_toI ⟨by omega, by omega⟩] at this
      have e0 : (0 : Int32).toInt = 0 := by decide
      omega
    refine w_adv (n := 2) (F' := (14, [(0, .ref k), (1, .int (Int32.ofInt v))], [.ref k, .int (Int32.ofInt 2)], M)) rfl ?_
    refine w_gf (v := .int (Int32.ofInt (I (64 * k + 1)))) hR rfl rfl hT rfl ?_
    refine w_mul rfl ?_
    let M1 : w_M := (M.1 ++ [.inl (.int, 2 * C k, fun _ => 0)], M.2.1 + 1, M.2.2 + 2 * C k)
    refine w_oth (F' := (20, [(0, .ref k), (1, .int (Int32.ofInt v))], [.ref M.1.length], M1)) rfl rfl ?_ ?_
    · show q_newa q_KF .int 18 _ (.int (Int32.ofInt (2 * I (64 * k + 1))) :: []) M = _
      unfold q_newa
      dsimp only
      rw [e1, decide_eq_false e2, Nat.ble_eq.mpr (show 2 * C k ≤ 134217728 by omega), Nat.blt_eq.mpr (show M.1.length + 1 < 1000000 by omega)]
      rfl
    have hk0 := hR.o hT
    have hB := hR.r hk
    have hN : M1.1[M.1.length]? = some (.inl (.int, 2 * C k, fun _ => 0)) := by
      show (M.1 ++ _)[M.1.length]? = _
      rw [List.getElem?_append_right (Nat.le_refl _), Nat.sub_self]
      rfl
    have hl1 : M1.1.length ≤ 1000000 := by
      show (M.1 ++ _).length ≤ _
      rw [List.length_append]
      show M.1.length + 1 ≤ _
      omega
    refine w_adv (n := 2) (F' := (22, [(2, .ref M.1.length), (0, .ref k), (1, .int (Int32.ofInt v))], [.ref k], M1)) rfl ?_
    refine w_getf (v := .ref (B k)) rfl rfl hl1 (w_app_lt hk0) rfl ?_
    refine w_adv (n := 4) (F' := (29, [(2, .ref M.1.length), (0, .ref k), (1, .int (Int32.ofInt v))], [.ref k, .int (Int32.ofInt 0), .ref M.1.length, .int (Int32.ofInt 0), .ref (B k)], M1)) rfl ?_
    refine w_getf (v := .int (Int32.ofInt (I (64 * k + 1)))) rfl rfl hl1 (w_app_lt hk0) rfl ?_
    let M2 : w_M := (M.1 ++ [.inl (.int, 2 * C k, w_arr g)], M.2.1 + 1, M.2.2 + 2 * C k)
    have hcp : q_copy q_KF [.int (Int32.ofInt (I (64 * k + 1))), .int (Int32.ofInt 0), .ref M.1.length, .int (Int32.ofInt 0), .ref (B k)] M1 = some ([], M2) := by
      unfold q_copy
      dsimp only
      rw [w_app_lt hB, hN]
      dsimp only
      rw [e3, decide_eq_false e4]
      have e0 : (Int32.ofInt 0).toNatClampNeg = 0 := by decide
      rw [e0, Nat.zero_add, Nat.ble_eq.mpr (Nat.le_refl (C k)), Nat.ble_eq.mpr (show C k ≤ 2 * C k by omega)]
      show some ([], ((M.1 ++ _).set M.1.length _, _)) = some ([], ((M.1 ++ [_]), _))
      have ec : va_cpy (w_arr (A k)) (fun _ => (0 : Int32)) 0 0 (C k) = w_arr g := by
        funext j
        unfold va_cpy w_arr
        show _ = Int32.ofInt (if 0 ≤ (j : Int) ∧ (j : Int) < I (64 * k + 1) then A k j else 0)
        by_cases hj : j < C k
        · rw [if_pos ⟨Nat.zero_le _, by omega⟩, if_pos ⟨by omega, by omega⟩, Nat.sub_zero, Nat.zero_add]
        · rw [if_neg (fun q => hj (by omega)), if_neg (fun q => hj (by omega))]
          rfl
      rw [List.set_append_right _ _ (Nat.le_refl _), Nat.sub_self]
      show some ([], (M.1 ++ [.inl (.int, 2 * C k, va_cpy (w_arr (A k)) (fun _ => (0 : Int32)) 0 0 (C k))], _)) = _
      rw [ec]
    refine w_copy (M' := M2) rfl rfl hcp rfl ?_
    refine w_adv (n := 2) (F' := (37, [(2, .ref M.1.length), (0, .ref k), (1, .int (Int32.ofInt v))], [.ref M.1.length, .ref k], M2)) rfl ?_
    refine w_putf rfl rfl (w_app_lt hk0) rfl rfl (by show 0 < (w_fs I B k 0 _).length; rw [w_fs_len]; decide) ?_
    have h3 := hR.grow hk hT hc hg
    have hcap : (w_upN C k (2 * C k)) k = 2 * C k := w_upN_same
    have hlt : I (64 * k + 1) < ((w_upN C k (2 * C k) k : Nat) : Int) := by
      have hq := hR.cap hk
      rw [hcap]
      omega
    refine m_add2 v k hk hT h3 _ rfl rfl r_v hlt (fun M3 h4 => ?_)
    rw [w_upF_same, w_upF_upF] at h4
    refine ⟨w_upA g (I (64 * k + 1)) v, _, _, rfl, h4, fun i h5 h6 => ?_, ?_⟩
    · unfold w_upA
      rw [if_neg (by omega)]
      show (if 0 ≤ i ∧ i < I (64 * k + 1) then A k i else 0) = _
      rw [if_pos ⟨h5, h6⟩]
    · unfold w_upA
      rw [if_pos rfl]
