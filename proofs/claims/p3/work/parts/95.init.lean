/-! INIT: the memory behind the constructors, told by the tables. -/
def z_cF : q_C (List (Nat × Int32)) → q_C (Nat → Int32)
  | .inl (ty, n, l) => .inl (ty, n, q_fn l)
  | .inr o => .inr o
noncomputable def z_M0 : w_M := (z_m_c95.1.map z_cF, z_m_c95.2)
theorem z_M0_aM : q_aM q_KF z_M0 = q_aM q_KL z_m_c95 := by
  unfold q_aM z_M0
  rw [List.map_map]
  congr 1
noncomputable def z_I0 (s : Nat) : Int := match z_m_c95.1[s / 64]? with
  | some (.inr (_, fs)) => (match fs[s % 64]? with
    | some (.int v) => v.toInt
    | _ => 0)
  | _ => 0
noncomputable def z_arr (k : Nat) (i : Int) : Int := match z_m_c95.1[k]? with
  | some (.inl (_, _, l)) => (q_fn l i.toNat).toInt
  | _ => 0
theorem z_arr_ok {k n : Nat} {ty : FieldType} {l : List (Nat × Int32)} (h : z_m_c95.1[k]? = some (.inl (ty, n, l))) : w_arr (z_arr k) = q_fn l := by
  funext j
  unfold w_arr z_arr
  rw [h]
  show Int32.ofInt (q_fn l ((j : Int).toNat)).toInt = _
  rw [Int.toNat_natCast, w_ofI]
theorem z_I0_in (s : Nat) : w_in (z_I0 s) := by
  unfold z_I0
  split
  · split
    · exact w_inI _
    · exact ⟨by decide, by decide⟩
  · exact ⟨by decide, by decide⟩
theorem z_arr_in (k : Nat) (i : Int) : w_in (z_arr k i) := by
  unfold z_arr
  split
  · exact w_inI _
  · exact ⟨by decide, by decide⟩
def z_B0 (_ : Nat) : Nat := 0
def z_F0 (k : Nat) : Nat := k + 1
def z_G0 (_ : Nat) : Nat := 64
noncomputable def z_E0 (k : Nat) : Int → Int := bif w_TM.2.2.any (fun j => Nat.beq j k) then z_arr (k + 1) else z_arr k
theorem z_E0_in (k : Nat) (i : Int) : w_in (z_E0 k i) := by
  unfold z_E0
  cases w_TM.2.2.any (fun j => Nat.beq j k) with
  | true => exact z_arr_in _ _
  | false => exact z_arr_in _ _
theorem z_M0_arr {k n : Nat} {ty : FieldType} {l : List (Nat × Int32)} (h : z_m_c95.1[k]? = some (.inl (ty, n, l))) : z_M0.1[k]? = some (.inl (ty, n, w_arr (z_arr k))) := by
  rw [z_arr_ok h]
  unfold z_M0
  rw [List.getElem?_map, h]
  rfl
theorem z_getD {α : Type} (l : List (Option α)) (k : Nat) (h : l.length ≤ k) : l.getD k none = none := by
  rw [List.getD_eq_getElem?_getD, List.getElem?_eq_none h]
  rfl
set_option maxRecDepth 1000000 in
theorem z_ic_o (k ci : Nat) (ds : List (Value ⊕ Bool)) (h : w_TC.1 k = some (ci, ds)) : z_M0.1[k]? = some (.inr (ci, w_fs z_I0 z_B0 k 0 ds)) ∧ (w_dom w_TM z_F0) k = false := by
  rcases (show k = 0 ∨ k = 1 ∨ k = 2 ∨ k = 3 ∨ k = 4 ∨ k = 5 ∨ k = 6 ∨ k = 7 ∨ k = 8 ∨ k = 9 ∨ k = 10 ∨ k = 11 ∨ k = 12 ∨ k = 13 ∨ k = 14 ∨ k = 15 ∨ k = 16 ∨ k = 17 ∨ k = 18 ∨ k = 19 ∨ k = 20 ∨ k = 21 ∨ k = 22 ∨ k = 23 ∨ k = 24 ∨ k = 25 ∨ k = 26 ∨ k = 27 ∨ k = 28 ∨ k = 29 ∨ k = 30 ∨ k = 31 ∨ k = 32 ∨ k = 33 ∨ k = 34 ∨ k = 35 ∨ k = 36 ∨ k = 37 ∨ k = 38 ∨ k = 39 ∨ k = 40 ∨ k = 41 ∨ k = 42 ∨ 43 ≤ k by omega) with rfl | rfl | rfl | rfl | rfl | rfl | rfl | rfl | rfl | rfl | rfl | rfl | rfl | rfl | rfl | rfl | rfl | rfl | rfl | rfl | rfl | rfl | rfl | rfl | rfl | rfl | rfl | rfl | rfl | rfl | rfl | rfl | rfl | rfl | rfl | rfl | rfl | rfl | rfl | rfl | rfl | rfl | rfl | hhi
  · cases Option.some.inj (show some (0, [.inl (.ref 1), .inl (.ref 3), .inl (.ref 12), .inl (.ref 38), .inl (.ref 16), .inl (.ref 39), .inr false, .inr false, .inr false, .inr false, .inr false]) = some (ci, ds) from h); exact ⟨rfl, rfl⟩
  · cases Option.some.inj (show some (6, [.inl (.ref 2), .inr false]) = some (ci, ds) from h); exact ⟨rfl, rfl⟩
  · cases (show (none : Option (Nat × List (Value ⊕ Bool))) = some (ci, ds) from h)
  · cases Option.some.inj (show some (3, [.inl (.ref 4), .inl (.ref 5), .inl (.ref 6), .inl (.ref 7), .inl (.ref 8), .inl (.ref 9), .inl (.ref 10), .inl (.ref 11), .inr false, .inr false, .inr false]) = some (ci, ds) from h); exact ⟨rfl, rfl⟩
  · cases (show (none : Option (Nat × List (Value ⊕ Bool))) = some (ci, ds) from h)
  · cases (show (none : Option (Nat × List (Value ⊕ Bool))) = some (ci, ds) from h)
  · cases (show (none : Option (Nat × List (Value ⊕ Bool))) = some (ci, ds) from h)
  · cases (show (none : Option (Nat × List (Value ⊕ Bool))) = some (ci, ds) from h)
  · cases (show (none : Option (Nat × List (Value ⊕ Bool))) = some (ci, ds) from h)
  · cases (show (none : Option (Nat × List (Value ⊕ Bool))) = some (ci, ds) from h)
  · cases (show (none : Option (Nat × List (Value ⊕ Bool))) = some (ci, ds) from h)
  · cases (show (none : Option (Nat × List (Value ⊕ Bool))) = some (ci, ds) from h)
  · cases Option.some.inj (show some (7, [.inl (.ref 1), .inl (.ref 3), .inl (.ref 13), .inl (.ref 14), .inl (.ref 15), .inr false, .inr false, .inr false, .inr false]) = some (ci, ds) from h); exact ⟨rfl, rfl⟩
  · cases (show (none : Option (Nat × List (Value ⊕ Bool))) = some (ci, ds) from h)
  · cases (show (none : Option (Nat × List (Value ⊕ Bool))) = some (ci, ds) from h)
  · cases (show (none : Option (Nat × List (Value ⊕ Bool))) = some (ci, ds) from h)
  · cases Option.some.inj (show some (2, [.inl (.ref 3), .inl (.ref 17), .inl (.ref 18), .inl (.ref 19), .inl (.ref 20), .inl (.ref 21), .inl (.ref 22), .inl (.ref 23), .inl (.ref 24), .inl (.ref 25), .inr false, .inr false, .inr false]) = some (ci, ds) from h); exact ⟨rfl, rfl⟩
  · cases (show (none : Option (Nat × List (Value ⊕ Bool))) = some (ci, ds) from h)
  · cases (show (none : Option (Nat × List (Value ⊕ Bool))) = some (ci, ds) from h)
  · cases (show (none : Option (Nat × List (Value ⊕ Bool))) = some (ci, ds) from h)
  · cases (show (none : Option (Nat × List (Value ⊕ Bool))) = some (ci, ds) from h)
  · cases (show (none : Option (Nat × List (Value ⊕ Bool))) = some (ci, ds) from h)
  · cases (show (none : Option (Nat × List (Value ⊕ Bool))) = some (ci, ds) from h)
  · cases (show (none : Option (Nat × List (Value ⊕ Bool))) = some (ci, ds) from h)
  · cases (show (none : Option (Nat × List (Value ⊕ Bool))) = some (ci, ds) from h)
  · cases (show (none : Option (Nat × List (Value ⊕ Bool))) = some (ci, ds) from h)
  · cases Option.some.inj (show some (8, [.inl (.ref 27), .inl (.ref 28), .inl (.ref 29), .inl (.ref 30), .inl (.ref 31), .inl (.ref 32), .inr false]) = some (ci, ds) from h); exact ⟨rfl, rfl⟩
  · cases (show (none : Option (Nat × List (Value ⊕ Bool))) = some (ci, ds) from h)
  · cases (show (none : Option (Nat × List (Value ⊕ Bool))) = some (ci, ds) from h)
  · cases (show (none : Option (Nat × List (Value ⊕ Bool))) = some (ci, ds) from h)
  · cases (show (none : Option (Nat × List (Value ⊕ Bool))) = some (ci, ds) from h)
  · cases (show (none : Option (Nat × List (Value ⊕ Bool))) = some (ci, ds) from h)
  · cases (show (none : Option (Nat × List (Value ⊕ Bool))) = some (ci, ds) from h)
  · cases Option.some.inj (show some (5, [.inl (.ref 3), .inl (.ref 34), .inl (.ref 35), .inl (.ref 36), .inl (.ref 37), .inr false]) = some (ci, ds) from h); exact ⟨rfl, rfl⟩
  · cases (show (none : Option (Nat × List (Value ⊕ Bool))) = some (ci, ds) from h)
  · cases (show (none : Option (Nat × List (Value ⊕ Bool))) = some (ci, ds) from h)
  · cases (show (none : Option (Nat × List (Value ⊕ Bool))) = some (ci, ds) from h)
  · cases (show (none : Option (Nat × List (Value ⊕ Bool))) = some (ci, ds) from h)
  · cases Option.some.inj (show some (4, [.inl (.ref 12), .inl (.ref 3), .inl (.ref 26), .inl (.ref 33), .inr false, .inr false, .inr false, .inr false, .inr false, .inr false]) = some (ci, ds) from h); exact ⟨rfl, rfl⟩
  · cases Option.some.inj (show some (1, [.inl (.ref 26), .inl (.ref 33), .inl (.ref 16), .inl (.ref 40), .inl (.ref 41), .inl (.ref 42), .inr false, .inr false, .inr false, .inr false]) = some (ci, ds) from h); exact ⟨rfl, rfl⟩
  · cases (show (none : Option (Nat × List (Value ⊕ Bool))) = some (ci, ds) from h)
  · cases (show (none : Option (Nat × List (Value ⊕ Bool))) = some (ci, ds) from h)
  · cases (show (none : Option (Nat × List (Value ⊕ Bool))) = some (ci, ds) from h)
  · exfalso
    have e : w_oC k = none := by
      unfold w_oC
      exact z_getD _ _ (show 43 ≤ _ by omega)
    rw [show w_TC.1 k = none from e] at h
    cases h
set_option maxRecDepth 1000000 in
theorem z_ic_a (k : Nat) (ty : FieldType) (n : Nat) (h : w_TC.2.1 k = some (ty, n)) : z_M0.1[k]? = some (.inl (ty, n, w_arr (z_arr k))) ∧ (w_dom w_TM z_F0) k = false ∧ w_TC.1 k = none := by
  rcases (show k = 0 ∨ k = 1 ∨ k = 2 ∨ k = 3 ∨ k = 4 ∨ k = 5 ∨ k = 6 ∨ k = 7 ∨ k = 8 ∨ k = 9 ∨ k = 10 ∨ k = 11 ∨ k = 12 ∨ k = 13 ∨ k = 14 ∨ k = 15 ∨ k = 16 ∨ k = 17 ∨ k = 18 ∨ k = 19 ∨ k = 20 ∨ k = 21 ∨ k = 22 ∨ k = 23 ∨ k = 24 ∨ k = 25 ∨ k = 26 ∨ k = 27 ∨ k = 28 ∨ k = 29 ∨ k = 30 ∨ k = 31 ∨ k = 32 ∨ k = 33 ∨ k = 34 ∨ k = 35 ∨ k = 36 ∨ k = 37 ∨ k = 38 ∨ k = 39 ∨ k = 40 ∨ k = 41 ∨ k = 42 ∨ 43 ≤ k by omega) with rfl | rfl | rfl | rfl | rfl | rfl | rfl | rfl | rfl | rfl | rfl | rfl | rfl | rfl | rfl | rfl | rfl | rfl | rfl | rfl | rfl | rfl | rfl | rfl | rfl | rfl | rfl | rfl | rfl | rfl | rfl | rfl | rfl | rfl | rfl | rfl | rfl | rfl | rfl | rfl | rfl | rfl | rfl | hhi
  · cases (show (none : Option (FieldType × Nat)) = some (ty, n) from h)
  · cases (show (none : Option (FieldType × Nat)) = some (ty, n) from h)
  · cases Option.some.inj (show some (FieldType.byte, 8192) = some (ty, n) from h); exact ⟨z_M0_arr (k := 2) rfl, rfl, rfl⟩
  · cases (show (none : Option (FieldType × Nat)) = some (ty, n) from h)
  · cases Option.some.inj (show some (FieldType.byte, 10080) = some (ty, n) from h); exact ⟨z_M0_arr (k := 4) rfl, rfl, rfl⟩
  · cases Option.some.inj (show some (FieldType.int, 420) = some (ty, n) from h); exact ⟨z_M0_arr (k := 5) rfl, rfl, rfl⟩
  · cases Option.some.inj (show some (FieldType.int, 420) = some (ty, n) from h); exact ⟨z_M0_arr (k := 6) rfl, rfl, rfl⟩
  · cases Option.some.inj (show some (FieldType.int, 420) = some (ty, n) from h); exact ⟨z_M0_arr (k := 7) rfl, rfl, rfl⟩
  · cases Option.some.inj (show some (FieldType.int, 420) = some (ty, n) from h); exact ⟨z_M0_arr (k := 8) rfl, rfl, rfl⟩
  · cases Option.some.inj (show some (FieldType.int, 420) = some (ty, n) from h); exact ⟨z_M0_arr (k := 9) rfl, rfl, rfl⟩
  · cases Option.some.inj (show some (FieldType.int, 256) = some (ty, n) from h); exact ⟨z_M0_arr (k := 10) rfl, rfl, rfl⟩
  · cases Option.some.inj (show some (FieldType.int, 400) = some (ty, n) from h); exact ⟨z_M0_arr (k := 11) rfl, rfl, rfl⟩
  · cases (show (none : Option (FieldType × Nat)) = some (ty, n) from h)
  · cases Option.some.inj (show some (FieldType.int, 1502) = some (ty, n) from h); exact ⟨z_M0_arr (k := 13) rfl, rfl, rfl⟩
  · cases Option.some.inj (show some (FieldType.int, 1502) = some (ty, n) from h); exact ⟨z_M0_arr (k := 14) rfl, rfl, rfl⟩
  · cases Option.some.inj (show some (FieldType.int, 1502) = some (ty, n) from h); exact ⟨z_M0_arr (k := 15) rfl, rfl, rfl⟩
  · cases (show (none : Option (FieldType × Nat)) = some (ty, n) from h)
  · cases Option.some.inj (show some (FieldType.int, 3200) = some (ty, n) from h); exact ⟨z_M0_arr (k := 17) rfl, rfl, rfl⟩
  · cases Option.some.inj (show some (FieldType.int, 3200) = some (ty, n) from h); exact ⟨z_M0_arr (k := 18) rfl, rfl, rfl⟩
  · cases Option.some.inj (show some (FieldType.int, 3200) = some (ty, n) from h); exact ⟨z_M0_arr (k := 19) rfl, rfl, rfl⟩
  · cases Option.some.inj (show some (FieldType.int, 3200) = some (ty, n) from h); exact ⟨z_M0_arr (k := 20) rfl, rfl, rfl⟩
  · cases Option.some.inj (show some (FieldType.int, 3200) = some (ty, n) from h); exact ⟨z_M0_arr (k := 21) rfl, rfl, rfl⟩
  · cases Option.some.inj (show some (FieldType.int, 3200) = some (ty, n) from h); exact ⟨z_M0_arr (k := 22) rfl, rfl, rfl⟩
  · cases Option.some.inj (show some (FieldType.int, 3200) = some (ty, n) from h); exact ⟨z_M0_arr (k := 23) rfl, rfl, rfl⟩
  · cases Option.some.inj (show some (FieldType.int, 10000) = some (ty, n) from h); exact ⟨z_M0_arr (k := 24) rfl, rfl, rfl⟩
  · cases Option.some.inj (show some (FieldType.int, 3107) = some (ty, n) from h); exact ⟨z_M0_arr (k := 25) rfl, rfl, rfl⟩
  · cases (show (none : Option (FieldType × Nat)) = some (ty, n) from h)
  · cases Option.some.inj (show some (FieldType.int, 3016) = some (ty, n) from h); exact ⟨z_M0_arr (k := 27) rfl, rfl, rfl⟩
  · cases Option.some.inj (show some (FieldType.int, 3016) = some (ty, n) from h); exact ⟨z_M0_arr (k := 28) rfl, rfl, rfl⟩
  · cases Option.some.inj (show some (FieldType.int, 3016) = some (ty, n) from h); exact ⟨z_M0_arr (k := 29) rfl, rfl, rfl⟩
  · cases Option.some.inj (show some (FieldType.int, 3016) = some (ty, n) from h); exact ⟨z_M0_arr (k := 30) rfl, rfl, rfl⟩
  · cases Option.some.inj (show some (FieldType.int, 3016) = some (ty, n) from h); exact ⟨z_M0_arr (k := 31) rfl, rfl, rfl⟩
  · cases Option.some.inj (show some (FieldType.int, 3016) = some (ty, n) from h); exact ⟨z_M0_arr (k := 32) rfl, rfl, rfl⟩
  · cases (show (none : Option (FieldType × Nat)) = some (ty, n) from h)
  · cases Option.some.inj (show some (FieldType.int, 1508) = some (ty, n) from h); exact ⟨z_M0_arr (k := 34) rfl, rfl, rfl⟩
  · cases Option.some.inj (show some (FieldType.int, 1508) = some (ty, n) from h); exact ⟨z_M0_arr (k := 35) rfl, rfl, rfl⟩
  · cases Option.some.inj (show some (FieldType.int, 1508) = some (ty, n) from h); exact ⟨z_M0_arr (k := 36) rfl, rfl, rfl⟩
  · cases Option.some.inj (show some (FieldType.int, 420) = some (ty, n) from h); exact ⟨z_M0_arr (k := 37) rfl, rfl, rfl⟩
  · cases (show (none : Option (FieldType × Nat)) = some (ty, n) from h)
  · cases (show (none : Option (FieldType × Nat)) = some (ty, n) from h)
  · cases Option.some.inj (show some (FieldType.int, 3107) = some (ty, n) from h); exact ⟨z_M0_arr (k := 40) rfl, rfl, rfl⟩
  · cases Option.some.inj (show some (FieldType.int, 1500) = some (ty, n) from h); exact ⟨z_M0_arr (k := 41) rfl, rfl, rfl⟩
  · cases Option.some.inj (show some (FieldType.int, 1500) = some (ty, n) from h); exact ⟨z_M0_arr (k := 42) rfl, rfl, rfl⟩
  · exfalso
    have e : w_aC k = none := by
      unfold w_aC
      exact z_getD _ _ (show 43 ≤ _ by omega)
    rw [show w_TC.2.1 k = none from e] at h
    cases h
set_option maxRecDepth 1000000 in
theorem z_im_o (k ci : Nat) (ds : List (Value ⊕ Bool)) (h : w_TM.1 k = some (ci, ds)) : z_M0.1[k]? = some (.inr (ci, w_fs z_I0 z_F0 k 0 ds)) ∧ (w_dom w_TC z_B0) k = false := by
  rcases (show k < 43 ∨ k = 43 ∨ k = 44 ∨ k = 45 ∨ k = 46 ∨ k = 47 ∨ k = 48 ∨ k = 49 ∨ k = 50 ∨ k = 51 ∨ k = 52 ∨ k = 53 ∨ k = 54 ∨ k = 55 ∨ k = 56 ∨ k = 57 ∨ k = 58 ∨ k = 59 ∨ k = 60 ∨ k = 61 ∨ k = 62 ∨ k = 63 ∨ k = 64 ∨ k = 65 ∨ k = 66 ∨ k = 67 ∨ k = 68 ∨ k = 69 ∨ k = 70 ∨ k = 71 ∨ k = 72 ∨ k = 73 ∨ k = 74 ∨ k = 75 ∨ k = 76 ∨ k = 77 ∨ k = 78 ∨ k = 79 ∨ k = 80 ∨ k = 81 ∨ k = 82 ∨ k = 83 ∨ k = 84 ∨ k = 85 ∨ k = 86 ∨ k = 87 ∨ k = 88 ∨ k = 89 ∨ k = 90 ∨ k = 91 ∨ k = 92 ∨ k = 93 ∨ k = 94 ∨ k = 95 ∨ 96 ≤ k by omega) with hlo | rfl | rfl | rfl | rfl | rfl | rfl | rfl | rfl | rfl | rfl | rfl | rfl | rfl | rfl | rfl | rfl | rfl | rfl | rfl | rfl | rfl | rfl | rfl | rfl | rfl | rfl | rfl | rfl | rfl | rfl | rfl | rfl | rfl | rfl | rfl | rfl | rfl | rfl | rfl | rfl | rfl | rfl | rfl | rfl | rfl | rfl | rfl | rfl | rfl | rfl | rfl | rfl | rfl | hhi
  · exfalso
    have e : w_oM k = none := by
      unfold w_oM
      rw [show Nat.blt k 43 = true from Nat.ble_eq_true_of_le (by omega)]
      rfl
    rw [show w_TM.1 k = none from e] at h
    cases h
  · cases Option.some.inj (show some (9, [.inl (.ref 44), .inr false, .inr false, .inl (.ref 45), .inl (.ref 46), .inl (.ref 47), .inl (.ref 48), .inr false, .inr false, .inl (.ref 49), .inl (.ref 50), .inr false, .inl (.ref 51), .inl (.ref 52), .inl (.ref 53), .inl (.ref 55), .inl (.ref 57), .inl (.ref 59), .inl (.ref 61), .inl (.ref 63), .inl (.ref 65), .inl (.ref 67), .inr false, .inr false, .inr false, .inl (.ref 69), .inr false, .inr false, .inr false, .inr false, .inl (.ref 70), .inl (.ref 72), .inl (.ref 74), .inl (.ref 76), .inl (.ref 78), .inl (.ref 80), .inl (.ref 82), .inl (.ref 84), .inl (.ref 86), .inl (.ref 88), .inl (.ref 90), .inl (.ref 92), .inl (.ref 94)]) = some (ci, ds) from h); exact ⟨rfl, rfl⟩
  · cases (show (none : Option (Nat × List (Value ⊕ Bool))) = some (ci, ds) from h)
  · cases (show (none : Option (Nat × List (Value ⊕ Bool))) = some (ci, ds) from h)
  · cases (show (none : Option (Nat × List (Value ⊕ Bool))) = some (ci, ds) from h)
  · cases (show (none : Option (Nat × List (Value ⊕ Bool))) = some (ci, ds) from h)
  · cases (show (none : Option (Nat × List (Value ⊕ Bool))) = some (ci, ds) from h)
  · cases (show (none : Option (Nat × List (Value ⊕ Bool))) = some (ci, ds) from h)
  · cases (show (none : Option (Nat × List (Value ⊕ Bool))) = some (ci, ds) from h)
  · cases (show (none : Option (Nat × List (Value ⊕ Bool))) = some (ci, ds) from h)
  · cases (show (none : Option (Nat × List (Value ⊕ Bool))) = some (ci, ds) from h)
  · cases Option.some.inj (show some (10, [.inr true, .inr false]) = some (ci, ds) from h); exact ⟨rfl, rfl⟩
  · cases (show (none : Option (Nat × List (Value ⊕ Bool))) = some (ci, ds) from h)
  · cases Option.some.inj (show some (10, [.inr true, .inr false]) = some (ci, ds) from h); exact ⟨rfl, rfl⟩
  · cases (show (none : Option (Nat × List (Value ⊕ Bool))) = some (ci, ds) from h)
  · cases Option.some.inj (show some (10, [.inr true, .inr false]) = some (ci, ds) from h); exact ⟨rfl, rfl⟩
  · cases (show (none : Option (Nat × List (Value ⊕ Bool))) = some (ci, ds) from h)
  · cases Option.some.inj (show some (10, [.inr true, .inr false]) = some (ci, ds) from h); exact ⟨rfl, rfl⟩
  · cases (show (none : Option (Nat × List (Value ⊕ Bool))) = some (ci, ds) from h)
  · cases Option.some.inj (show some (10, [.inr true, .inr false]) = some (ci, ds) from h); exact ⟨rfl, rfl⟩
  · cases (show (none : Option (Nat × List (Value ⊕ Bool))) = some (ci, ds) from h)
  · cases Option.some.inj (show some (10, [.inr true, .inr false]) = some (ci, ds) from h); exact ⟨rfl, rfl⟩
  · cases (show (none : Option (Nat × List (Value ⊕ Bool))) = some (ci, ds) from h)
  · cases Option.some.inj (show some (10, [.inr true, .inr false]) = some (ci, ds) from h); exact ⟨rfl, rfl⟩
  · cases (show (none : Option (Nat × List (Value ⊕ Bool))) = some (ci, ds) from h)
  · cases Option.some.inj (show some (10, [.inr true, .inr false]) = some (ci, ds) from h); exact ⟨rfl, rfl⟩
  · cases (show (none : Option (Nat × List (Value ⊕ Bool))) = some (ci, ds) from h)
  · cases Option.some.inj (show some (11, []) = some (ci, ds) from h); exact ⟨rfl, rfl⟩
  · cases Option.some.inj (show some (10, [.inr true, .inr false]) = some (ci, ds) from h); exact ⟨rfl, rfl⟩
  · cases (show (none : Option (Nat × List (Value ⊕ Bool))) = some (ci, ds) from h)
  · cases Option.some.inj (show some (10, [.inr true, .inr false]) = some (ci, ds) from h); exact ⟨rfl, rfl⟩
  · cases (show (none : Option (Nat × List (Value ⊕ Bool))) = some (ci, ds) from h)
  · cases Option.some.inj (show some (10, [.inr true, .inr false]) = some (ci, ds) from h); exact ⟨rfl, rfl⟩
  · cases (show (none : Option (Nat × List (Value ⊕ Bool))) = some (ci, ds) from h)
  · cases Option.some.inj (show some (10, [.inr true, .inr false]) = some (ci, ds) from h); exact ⟨rfl, rfl⟩
  · cases (show (none : Option (Nat × List (Value ⊕ Bool))) = some (ci, ds) from h)
  · cases Option.some.inj (show some (10, [.inr true, .inr false]) = some (ci, ds) from h); exact ⟨rfl, rfl⟩
  · cases (show (none : Option (Nat × List (Value ⊕ Bool))) = some (ci, ds) from h)
  · cases Option.some.inj (show some (10, [.inr true, .inr false]) = some (ci, ds) from h); exact ⟨rfl, rfl⟩
  · cases (show (none : Option (Nat × List (Value ⊕ Bool))) = some (ci, ds) from h)
  · cases Option.some.inj (show some (10, [.inr true, .inr false]) = some (ci, ds) from h); exact ⟨rfl, rfl⟩
  · cases (show (none : Option (Nat × List (Value ⊕ Bool))) = some (ci, ds) from h)
  · cases Option.some.inj (show some (10, [.inr true, .inr false]) = some (ci, ds) from h); exact ⟨rfl, rfl⟩
  · cases (show (none : Option (Nat × List (Value ⊕ Bool))) = some (ci, ds) from h)
  · cases Option.some.inj (show some (10, [.inr true, .inr false]) = some (ci, ds) from h); exact ⟨rfl, rfl⟩
  · cases (show (none : Option (Nat × List (Value ⊕ Bool))) = some (ci, ds) from h)
  · cases Option.some.inj (show some (10, [.inr true, .inr false]) = some (ci, ds) from h); exact ⟨rfl, rfl⟩
  · cases (show (none : Option (Nat × List (Value ⊕ Bool))) = some (ci, ds) from h)
  · cases Option.some.inj (show some (10, [.inr true, .inr false]) = some (ci, ds) from h); exact ⟨rfl, rfl⟩
  · cases (show (none : Option (Nat × List (Value ⊕ Bool))) = some (ci, ds) from h)
  · cases Option.some.inj (show some (10, [.inr true, .inr false]) = some (ci, ds) from h); exact ⟨rfl, rfl⟩
  · cases (show (none : Option (Nat × List (Value ⊕ Bool))) = some (ci, ds) from h)
  · cases Option.some.inj (show some (10, [.inr true, .inr false]) = some (ci, ds) from h); exact ⟨rfl, rfl⟩
  · cases (show (none : Option (Nat × List (Value ⊕ Bool))) = some (ci, ds) from h)
  · exfalso
    have e : w_oM k = none := by
      unfold w_oM
      rw [show Nat.blt k 43 = false from by cases hb : Nat.blt k 43 with | false => rfl | true => have := Nat.le_of_ble_eq_true hb; omega]
      show w_oMl.getD (k - 43) none = none
      exact z_getD _ _ (show 53 ≤ _ by omega)
    rw [show w_TM.1 k = none from e] at h
    cases h
set_option maxRecDepth 1000000 in
theorem z_im_a (k : Nat) (ty : FieldType) (n : Nat) (h : w_TM.2.1 k = some (ty, n)) : z_M0.1[k]? = some (.inl (ty, n, w_arr (z_E0 k))) ∧ (w_dom w_TC z_B0) k = false ∧ w_TM.1 k = none := by
  rcases (show k < 43 ∨ k = 43 ∨ k = 44 ∨ k = 45 ∨ k = 46 ∨ k = 47 ∨ k = 48 ∨ k = 49 ∨ k = 50 ∨ k = 51 ∨ k = 52 ∨ k = 53 ∨ k = 54 ∨ k = 55 ∨ k = 56 ∨ k = 57 ∨ k = 58 ∨ k = 59 ∨ k = 60 ∨ k = 61 ∨ k = 62 ∨ k = 63 ∨ k = 64 ∨ k = 65 ∨ k = 66 ∨ k = 67 ∨ k = 68 ∨ k = 69 ∨ k = 70 ∨ k = 71 ∨ k = 72 ∨ k = 73 ∨ k = 74 ∨ k = 75 ∨ k = 76 ∨ k = 77 ∨ k = 78 ∨ k = 79 ∨ k = 80 ∨ k = 81 ∨ k = 82 ∨ k = 83 ∨ k = 84 ∨ k = 85 ∨ k = 86 ∨ k = 87 ∨ k = 88 ∨ k = 89 ∨ k = 90 ∨ k = 91 ∨ k = 92 ∨ k = 93 ∨ k = 94 ∨ k = 95 ∨ 96 ≤ k by omega) with hlo | rfl | rfl | rfl | rfl | rfl | rfl | rfl | rfl | rfl | rfl | rfl | rfl | rfl | rfl | rfl | rfl | rfl | rfl | rfl | rfl | rfl | rfl | rfl | rfl | rfl | rfl | rfl | rfl | rfl | rfl | rfl | rfl | rfl | rfl | rfl | rfl | rfl | rfl | rfl | rfl | rfl | rfl | rfl | rfl | rfl | rfl | rfl | rfl | rfl | rfl | rfl | rfl | rfl | hhi
  · exfalso
    have e : w_aM k = none := by
      unfold w_aM
      rw [show Nat.blt k 43 = true from Nat.ble_eq_true_of_le (by omega)]
      rfl
    rw [show w_TM.2.1 k = none from e] at h
    cases h
  · cases (show (none : Option (FieldType × Nat)) = some (ty, n) from h)
  · cases Option.some.inj (show some (FieldType.byte, 8192) = some (ty, n) from h); exact ⟨z_M0_arr (k := 44) rfl, rfl, rfl⟩
  · cases Option.some.inj (show some (FieldType.int, 1502) = some (ty, n) from h); exact ⟨z_M0_arr (k := 45) rfl, rfl, rfl⟩
  · cases Option.some.inj (show some (FieldType.int, 1502) = some (ty, n) from h); exact ⟨z_M0_arr (k := 46) rfl, rfl, rfl⟩
  · cases Option.some.inj (show some (FieldType.int, 1502) = some (ty, n) from h); exact ⟨z_M0_arr (k := 47) rfl, rfl, rfl⟩
  · cases Option.some.inj (show some (FieldType.int, 1502) = some (ty, n) from h); exact ⟨z_M0_arr (k := 48) rfl, rfl, rfl⟩
  · cases Option.some.inj (show some (FieldType.int, 402) = some (ty, n) from h); exact ⟨z_M0_arr (k := 49) rfl, rfl, rfl⟩
  · cases Option.some.inj (show some (FieldType.byte, 9648) = some (ty, n) from h); exact ⟨z_M0_arr (k := 50) rfl, rfl, rfl⟩
  · cases Option.some.inj (show some (FieldType.int, 402) = some (ty, n) from h); exact ⟨z_M0_arr (k := 51) rfl, rfl, rfl⟩
  · cases Option.some.inj (show some (FieldType.byte, 9648) = some (ty, n) from h); exact ⟨z_M0_arr (k := 52) rfl, rfl, rfl⟩
  · cases (show (none : Option (FieldType × Nat)) = some (ty, n) from h)
  · cases (show (none : Option (FieldType × Nat)) = some (ty, n) from h)
  · cases (show (none : Option (FieldType × Nat)) = some (ty, n) from h)
  · cases (show (none : Option (FieldType × Nat)) = some (ty, n) from h)
  · cases (show (none : Option (FieldType × Nat)) = some (ty, n) from h)
  · cases (show (none : Option (FieldType × Nat)) = some (ty, n) from h)
  · cases (show (none : Option (FieldType × Nat)) = some (ty, n) from h)
  · cases (show (none : Option (FieldType × Nat)) = some (ty, n) from h)
  · cases (show (none : Option (FieldType × Nat)) = some (ty, n) from h)
  · cases (show (none : Option (FieldType × Nat)) = some (ty, n) from h)
  · cases (show (none : Option (FieldType × Nat)) = some (ty, n) from h)
  · cases (show (none : Option (FieldType × Nat)) = some (ty, n) from h)
  · cases (show (none : Option (FieldType × Nat)) = some (ty, n) from h)
  · cases (show (none : Option (FieldType × Nat)) = some (ty, n) from h)
  · cases (show (none : Option (FieldType × Nat)) = some (ty, n) from h)
  · cases (show (none : Option (FieldType × Nat)) = some (ty, n) from h)
  · cases (show (none : Option (FieldType × Nat)) = some (ty, n) from h)
  · cases (show (none : Option (FieldType × Nat)) = some (ty, n) from h)
  · cases (show (none : Option (FieldType × Nat)) = some (ty, n) from h)
  · cases (show (none : Option (FieldType × Nat)) = some (ty, n) from h)
  · cases (show (none : Option (FieldType × Nat)) = some (ty, n) from h)
  · cases (show (none : Option (FieldType × Nat)) = some (ty, n) from h)
  · cases (show (none : Option (FieldType × Nat)) = some (ty, n) from h)
  · cases (show (none : Option (FieldType × Nat)) = some (ty, n) from h)
  · cases (show (none : Option (FieldType × Nat)) = some (ty, n) from h)
  · cases (show (none : Option (FieldType × Nat)) = some (ty, n) from h)
  · cases (show (none : Option (FieldType × Nat)) = some (ty, n) from h)
  · cases (show (none : Option (FieldType × Nat)) = some (ty, n) from h)
  · cases (show (none : Option (FieldType × Nat)) = some (ty, n) from h)
  · cases (show (none : Option (FieldType × Nat)) = some (ty, n) from h)
  · cases (show (none : Option (FieldType × Nat)) = some (ty, n) from h)
  · cases (show (none : Option (FieldType × Nat)) = some (ty, n) from h)
  · cases (show (none : Option (FieldType × Nat)) = some (ty, n) from h)
  · cases (show (none : Option (FieldType × Nat)) = some (ty, n) from h)
  · cases (show (none : Option (FieldType × Nat)) = some (ty, n) from h)
  · cases (show (none : Option (FieldType × Nat)) = some (ty, n) from h)
  · cases (show (none : Option (FieldType × Nat)) = some (ty, n) from h)
  · cases (show (none : Option (FieldType × Nat)) = some (ty, n) from h)
  · cases (show (none : Option (FieldType × Nat)) = some (ty, n) from h)
  · cases (show (none : Option (FieldType × Nat)) = some (ty, n) from h)
  · cases (show (none : Option (FieldType × Nat)) = some (ty, n) from h)
  · cases (show (none : Option (FieldType × Nat)) = some (ty, n) from h)
  · cases (show (none : Option (FieldType × Nat)) = some (ty, n) from h)
  · exfalso
    have e : w_aM k = none := by
      unfold w_aM
      rw [show Nat.blt k 43 = false from by cases hb : Nat.blt k 43 with | false => rfl | true => have := Nat.le_of_ble_eq_true hb; omega]
      show w_aMl.getD (k - 43) none = none
      exact z_getD _ _ (show 53 ≤ _ by omega)
    rw [show w_TM.2.1 k = none from e] at h
    cases h
set_option maxRecDepth 1000000 in
theorem z_im_r (k : Nat) (h : k ∈ w_TM.2.2) : z_M0.1[z_F0 k]? = some (.inl (.int, z_G0 k, w_arr (z_E0 k))) ∧ w_dom w_TC z_B0 (z_F0 k) = false ∧ w_TM.1 (z_F0 k) = none ∧ w_TM.2.1 (z_F0 k) = none ∧ 64 ≤ z_G0 k ∧ z_G0 k ≤ 131072 ∧ w_TM.2.1 k = none ∧ 0 ≤ z_I0 (64 * k + 1) ∧ z_I0 (64 * k + 1) ≤ z_G0 k := by
  have h2 : k = 53 ∨ k = 55 ∨ k = 57 ∨ k = 59 ∨ k = 61 ∨ k = 63 ∨ k = 65 ∨ k = 67 ∨ k = 70 ∨ k = 72 ∨ k = 74 ∨ k = 76 ∨ k = 78 ∨ k = 80 ∨ k = 82 ∨ k = 84 ∨ k = 86 ∨ k = 88 ∨ k = 90 ∨ k = 92 ∨ k = 94 := by
    have h : k ∈ [53, 55, 57, 59, 61, 63, 65, 67, 70, 72, 74, 76, 78, 80, 82, 84, 86, 88, 90, 92, 94] := h
    simp only [List.mem_cons, List.not_mem_nil, or_false] at h
    exact h
  rcases h2 with rfl | rfl | rfl | rfl | rfl | rfl | rfl | rfl | rfl | rfl | rfl | rfl | rfl | rfl | rfl | rfl | rfl | rfl | rfl | rfl | rfl
  · exact ⟨z_M0_arr (k := 54) rfl, rfl, rfl, rfl, by decide, by decide, rfl, (show (0 : Int) ≤ 0 by decide), (show (0 : Int) ≤ 64 by decide)⟩
  · exact ⟨z_M0_arr (k := 56) rfl, rfl, rfl, rfl, by decide, by decide, rfl, (show (0 : Int) ≤ 0 by decide), (show (0 : Int) ≤ 64 by decide)⟩
  · exact ⟨z_M0_arr (k := 58) rfl, rfl, rfl, rfl, by decide, by decide, rfl, (show (0 : Int) ≤ 0 by decide), (show (0 : Int) ≤ 64 by decide)⟩
  · exact ⟨z_M0_arr (k := 60) rfl, rfl, rfl, rfl, by decide, by decide, rfl, (show (0 : Int) ≤ 0 by decide), (show (0 : Int) ≤ 64 by decide)⟩
  · exact ⟨z_M0_arr (k := 62) rfl, rfl, rfl, rfl, by decide, by decide, rfl, (show (0 : Int) ≤ 0 by decide), (show (0 : Int) ≤ 64 by decide)⟩
  · exact ⟨z_M0_arr (k := 64) rfl, rfl, rfl, rfl, by decide, by decide, rfl, (show (0 : Int) ≤ 7 by decide), (show (7 : Int) ≤ 64 by decide)⟩
  · exact ⟨z_M0_arr (k := 66) rfl, rfl, rfl, rfl, by decide, by decide, rfl, (show (0 : Int) ≤ 7 by decide), (show (7 : Int) ≤ 64 by decide)⟩
  · exact ⟨z_M0_arr (k := 68) rfl, rfl, rfl, rfl, by decide, by decide, rfl, (show (0 : Int) ≤ 7 by decide), (show (7 : Int) ≤ 64 by decide)⟩
  · exact ⟨z_M0_arr (k := 71) rfl, rfl, rfl, rfl, by decide, by decide, rfl, (show (0 : Int) ≤ 7 by decide), (show (7 : Int) ≤ 64 by decide)⟩
  · exact ⟨z_M0_arr (k := 73) rfl, rfl, rfl, rfl, by decide, by decide, rfl, (show (0 : Int) ≤ 0 by decide), (show (0 : Int) ≤ 64 by decide)⟩
  · exact ⟨z_M0_arr (k := 75) rfl, rfl, rfl, rfl, by decide, by decide, rfl, (show (0 : Int) ≤ 0 by decide), (show (0 : Int) ≤ 64 by decide)⟩
  · exact ⟨z_M0_arr (k := 77) rfl, rfl, rfl, rfl, by decide, by decide, rfl, (show (0 : Int) ≤ 0 by decide), (show (0 : Int) ≤ 64 by decide)⟩
  · exact ⟨z_M0_arr (k := 79) rfl, rfl, rfl, rfl, by decide, by decide, rfl, (show (0 : Int) ≤ 0 by decide), (show (0 : Int) ≤ 64 by decide)⟩
  · exact ⟨z_M0_arr (k := 81) rfl, rfl, rfl, rfl, by decide, by decide, rfl, (show (0 : Int) ≤ 0 by decide), (show (0 : Int) ≤ 64 by decide)⟩
  · exact ⟨z_M0_arr (k := 83) rfl, rfl, rfl, rfl, by decide, by decide, rfl, (show (0 : Int) ≤ 0 by decide), (show (0 : Int) ≤ 64 by decide)⟩
  · exact ⟨z_M0_arr (k := 85) rfl, rfl, rfl, rfl, by decide, by decide, rfl, (show (0 : Int) ≤ 0 by decide), (show (0 : Int) ≤ 64 by decide)⟩
  · exact ⟨z_M0_arr (k := 87) rfl, rfl, rfl, rfl, by decide, by decide, rfl, (show (0 : Int) ≤ 0 by decide), (show (0 : Int) ≤ 64 by decide)⟩
  · exact ⟨z_M0_arr (k := 89) rfl, rfl, rfl, rfl, by decide, by decide, rfl, (show (0 : Int) ≤ 0 by decide), (show (0 : Int) ≤ 64 by decide)⟩
  · exact ⟨z_M0_arr (k := 91) rfl, rfl, rfl, rfl, by decide, by decide, rfl, (show (0 : Int) ≤ 0 by decide), (show (0 : Int) ≤ 64 by decide)⟩
  · exact ⟨z_M0_arr (k := 93) rfl, rfl, rfl, rfl, by decide, by decide, rfl, (show (0 : Int) ≤ 0 by decide), (show (0 : Int) ≤ 64 by decide)⟩
  · exact ⟨z_M0_arr (k := 95) rfl, rfl, rfl, rfl, by decide, by decide, rfl, (show (0 : Int) ≤ 0 by decide), (show (0 : Int) ≤ 64 by decide)⟩
theorem z_lenD {l : List (Option (Nat × List (Value ⊕ Bool)))} (h : l.all (fun o => match o with | some (_, ds) => Nat.ble ds.length 64 | none => true) = true) {k ci : Nat} {ds : List (Value ⊕ Bool)} (e : l.getD k none = some (ci, ds)) : ds.length ≤ 64 := by
  have hm : some (ci, ds) ∈ l := by
    rw [List.getD_eq_getElem?_getD] at e
    cases hq : l[k]? with
    | none => rw [hq] at e; cases e
    | some o => rw [hq] at e; cases e; exact List.mem_of_getElem? hq
  exact Nat.le_of_ble_eq_true (List.all_eq_true.mp h _ hm)
theorem z_TokC : w_Tok w_TC := ⟨fun _ _ _ e => z_lenD (l := w_oCl) rfl e, by decide, by decide⟩
theorem z_TokM : w_Tok w_TM := ⟨fun k ci ds e => by
  have e : w_oM k = some (ci, ds) := e
  unfold w_oM at e
  cases hb : Nat.blt k 43 with
  | true => rw [hb] at e; cases e
  | false => rw [hb] at e; exact z_lenD (l := w_oMl) rfl e, by decide, by decide⟩
theorem z_dom0 {T : w_T} {fr : Nat → Bool} {M : w_M} {I : Nat → Int} {A : Nat → Int → Int} {B C : Nat → Nat} (h1 : ∀ k ci ds, T.1 k = some (ci, ds) → M.1[k]? = some (.inr (ci, w_fs I B k 0 ds)) ∧ fr k = false) (h2 : ∀ k ty n, T.2.1 k = some (ty, n) → M.1[k]? = some (.inl (ty, n, w_arr (A k))) ∧ fr k = false ∧ T.1 k = none) (h3 : ∀ k, k ∈ T.2.2 → M.1[B k]? = some (.inl (.int, C k, w_arr (A k)))) {k : Nat} (hk : w_dom T B k = true) : k < M.1.length := by
  unfold w_dom at hk
  rw [Bool.or_eq_true, Bool.or_eq_true] at hk
  rcases hk with (hk | hk) | hk
  · obtain ⟨⟨ci, ds⟩, hq⟩ := Option.isSome_iff_exists.mp hk
    exact (List.getElem?_eq_some_iff.mp (h1 k ci ds hq).1).1
  · obtain ⟨⟨ty, n⟩, hq⟩ := Option.isSome_iff_exists.mp hk
    exact (List.getElem?_eq_some_iff.mp (h2 k ty n hq).1).1
  · obtain ⟨j, hj, e⟩ := List.any_eq_true.mp hk
    have e2 : B j = k := Nat.eq_of_beq_eq_true e
    have g1 := h3 j hj
    rw [e2] at g1
    exact (List.getElem?_eq_some_iff.mp g1).1
theorem z_M0_n : z_M0.1.length = 96 := by
  unfold z_M0
  rw [List.length_map]
  rfl
theorem z_M0_1 : z_M0.2.1 = 96 := rfl
theorem z_M0_2 : z_M0.2.2 = 126002 := rfl
/-- the two objects behind the constructors -/
theorem z_two0 : w_Two 123314 4800 z_I0 z_arr z_B0 z_B0 z_I0 z_E0 z_F0 z_G0 z_M0 := by
  refine ⟨⟨z_ic_o, z_ic_a, fun k h => (by cases h), fun j k h => (by cases h), fun k h => ⟨rfl, z_dom0 (fr := w_dom w_TC z_B0) z_im_o z_im_a (fun k h => (z_im_r k h).1) h⟩, z_I0_in, z_arr_in, ⟨?_, ?_, ?_, ?_⟩, z_TokC⟩, ⟨z_im_o, z_im_a, z_im_r, fun j k _ _ e => Nat.succ.inj e, fun k h => ⟨rfl, z_dom0 (C := z_B0) (fr := w_dom w_TM z_F0) z_ic_o z_ic_a (fun k h => by cases h) h⟩, z_I0_in, z_E0_in, ⟨?_, ?_, ?_, ?_⟩, z_TokM⟩, by decide⟩
  · rw [z_M0_1, z_M0_n]
  · rfl
  · exact Nat.le_refl _
  · rw [z_M0_n]; decide
  · rw [z_M0_1, z_M0_n]
  · rw [z_M0_2]; rfl
  · rw [z_M0_n]; decide
  · decide
