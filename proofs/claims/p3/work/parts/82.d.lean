/-! TOKENS of the class. -/
set_option maxRecDepth 100000 in
theorem c_cE {L : Nat} {xs : Nat → Int32} {d : Nat} {M : w_M} (x : Int) (rx : w_in x) : w_W (z_P L xs) d 61 (0, [(0, .int (Int32.ofInt x))], [], M) (fun r M' => (r = .inl (some 1) ∨ r = .inl (some 0)) ∧ M' = M) := by
  refine w_adv (n := 1) (F' := (1, [(0, .int (Int32.ofInt x))], [.int (Int32.ofInt x)], M)) rfl ?_
  refine w_br1 (a := x) rfl rfl rx (fun _ => ?_) (fun _ => ?_)
  · refine w_adv (n := 1) (F' := (16, [(0, .int (Int32.ofInt x))], [.int (Int32.ofInt 0)], M)) rfl ?_
    exact w_fin (r := .inl (some 0)) rfl ⟨Or.inr rfl, rfl⟩
  · refine w_adv (n := 2) (F' := (8, [(0, .int (Int32.ofInt x))], [.int (Int32.ofInt 255), .int (Int32.ofInt x)], M)) rfl ?_
    refine w_br2 (a := x) (b := 255) rfl rfl rx ⟨by decide, by decide⟩ (fun _ => ?_) (fun _ => ?_)
    · refine w_adv (n := 1) (F' := (16, [(0, .int (Int32.ofInt x))], [.int (Int32.ofInt 0)], M)) rfl ?_
      exact w_fin (r := .inl (some 0)) rfl ⟨Or.inr rfl, rfl⟩
    · refine w_adv (n := 2) (F' := (16, [(0, .int (Int32.ofInt x))], [.int (Int32.ofInt 1)], M)) rfl ?_
      exact w_fin (r := .inl (some 1)) rfl ⟨Or.inl rfl, rfl⟩
set_option maxRecDepth 100000 in
theorem c_ioc {L : Nat} {xs : Nat → Int32} {d : Nat} {M : w_M} (x : Int) : w_W (z_P L xs) d 64 (0, [(0, .ref 1000007), (1, .int (Int32.ofInt x)), (2, .int (Int32.ofInt 0)), (3, .int (Int32.ofInt 14))], [], M) (fun r M' => ∃ v : Int, r = .inl (some v) ∧ M' = M ∧ w_in v ∧ (-1 ≤ v ∧ v ≤ 13)) := by
  refine w_adv (n := 2) (F' := (2, [(0, .ref 1000007), (1, .int (Int32.ofInt x)), (2, .int (Int32.ofInt 0)), (3, .int (Int32.ofInt 14))], [.int ((Int32.ofInt x).toInt8.toInt32)], M)) rfl ?_
  refine w_int (fun y hy _ => ?_)
  refine w_adv (n := 10) (F' := (19, [(5, .int (Int32.ofInt 0)), (4, .int (Int32.ofInt y)), (0, .ref 1000007), (1, .int (Int32.ofInt x)), (2, .int (Int32.ofInt 0)), (3, .int (Int32.ofInt 14))], [.int (Int32.ofInt y), .int (Int32.ofInt 40)], M)) rfl ?_
  refine w_br2 (a := 40) (b := y) rfl rfl ⟨by decide, by decide⟩ hy (fun _ => ?_) (fun _ => ?_)
  rotate_left
  · refine w_adv (n := 1) (F' := (24, [(5, .int (Int32.ofInt 0)), (4, .int (Int32.ofInt y)), (0, .ref 1000007), (1, .int (Int32.ofInt x)), (2, .int (Int32.ofInt 0)), (3, .int (Int32.ofInt 14))], [.int (Int32.ofInt 0)], M)) rfl ?_
    exact w_fin (r := .inl (some 0)) rfl ⟨0, rfl, rfl, ⟨by decide, by decide⟩, by decide, by decide⟩
  refine w_adv (n := 9) (F' := (19, [(5, .int (Int32.ofInt 1)), (4, .int (Int32.ofInt y)), (0, .ref 1000007), (1, .int (Int32.ofInt x)), (2, .int (Int32.ofInt 0)), (3, .int (Int32.ofInt 14))], [.int (Int32.ofInt y), .int (Int32.ofInt 41)], M)) rfl ?_
  refine w_br2 (a := 41) (b := y) rfl rfl ⟨by decide, by decide⟩ hy (fun _ => ?_) (fun _ => ?_)
  rotate_left
  · refine w_adv (n := 1) (F' := (24, [(5, .int (Int32.ofInt 1)), (4, .int (Int32.ofInt y)), (0, .ref 1000007), (1, .int (Int32.ofInt x)), (2, .int (Int32.ofInt 0)), (3, .int (Int32.ofInt 14))], [.int (Int32.ofInt 1)], M)) rfl ?_
    exact w_fin (r := .inl (some 1)) rfl ⟨1, rfl, rfl, ⟨by decide, by decide⟩, by decide, by decide⟩
  refine w_adv (n := 9) (F' := (19, [(5, .int (Int32.ofInt 2)), (4, .int (Int32.ofInt y)), (0, .ref 1000007), (1, .int (Int32.ofInt x)), (2, .int (Int32.ofInt 0)), (3, .int (Int32.ofInt 14))], [.int (Int32.ofInt y), .int (Int32.ofInt 123)], M)) rfl ?_
  refine w_br2 (a := 123) (b := y) rfl rfl ⟨by decide, by decide⟩ hy (fun _ => ?_) (fun _ => ?_)
  rotate_left
  · refine w_adv (n := 1) (F' := (24, [(5, .int (Int32.ofInt 2)), (4, .int (Int32.ofInt y)), (0, .ref 1000007), (1, .int (Int32.ofInt x)), (2, .int (Int32.ofInt 0)), (3, .int (Int32.ofInt 14))], [.int (Int32.ofInt 2)], M)) rfl ?_
    exact w_fin (r := .inl (some 2)) rfl ⟨2, rfl, rfl, ⟨by decide, by decide⟩, by decide, by decide⟩
  refine w_adv (n := 9) (F' := (19, [(5, .int (Int32.ofInt 3)), (4, .int (Int32.ofInt y)), (0, .ref 1000007), (1, .int (Int32.ofInt x)), (2, .int (Int32.ofInt 0)), (3, .int (Int32.ofInt 14))], [.int (Int32.ofInt y), .int (Int32.ofInt 125)], M)) rfl ?_
  refine w_br2 (a := 125) (b := y) rfl rfl ⟨by decide, by decide⟩ hy (fun _ => ?_) (fun _ => ?_)
  rotate_left
  · refine w_adv (n := 1) (F' := (24, [(5, .int (Int32.ofInt 3)), (4, .int (Int32.ofInt y)), (0, .ref 1000007), (1, .int (Int32.ofInt x)), (2, .int (Int32.ofInt 0)), (3, .int (Int32.ofInt 14))], [.int (Int32.ofInt 3)], M)) rfl ?_
    exact w_fin (r := .inl (some 3)) rfl ⟨3, rfl, rfl, ⟨by decide, by decide⟩, by decide, by decide⟩
  refine w_adv (n := 9) (F' := (19, [(5, .int (Int32.ofInt 4)), (4, .int (Int32.ofInt y)), (0, .ref 1000007), (1, .int (Int32.ofInt x)), (2, .int (Int32.ofInt 0)), (3, .int (Int32.ofInt 14))], [.int (Int32.ofInt y), .int (Int32.ofInt 91)], M)) rfl ?_
  refine w_br2 (a := 91) (b := y) rfl rfl ⟨by decide, by decide⟩ hy (fun _ => ?_) (fun _ => ?_)
  rotate_left
  · refine w_adv (n := 1) (F' := (24, [(5, .int (Int32.ofInt 4)), (4, .int (Int32.ofInt y)), (0, .ref 1000007), (1, .int (Int32.ofInt x)), (2, .int (Int32.ofInt 0)), (3, .int (Int32.ofInt 14))], [.int (Int32.ofInt 4)], M)) rfl ?_
    exact w_fin (r := .inl (some 4)) rfl ⟨4, rfl, rfl, ⟨by decide, by decide⟩, by decide, by decide⟩
  refine w_adv (n := 9) (F' := (19, [(5, .int (Int32.ofInt 5)), (4, .int (Int32.ofInt y)), (0, .ref 1000007), (1, .int (Int32.ofInt x)), (2, .int (Int32.ofInt 0)), (3, .int (Int32.ofInt 14))], [.int (Int32.ofInt y), .int (Int32.ofInt 93)], M)) rfl ?_
  refine w_br2 (a := 93) (b := y) rfl rfl ⟨by decide, by decide⟩ hy (fun _ => ?_) (fun _ => ?_)
  rotate_left
  · refine w_adv (n := 1) (F' := (24, [(5, .int (Int32.ofInt 5)), (4, .int (Int32.ofInt y)), (0, .ref 1000007), (1, .int (Int32.ofInt x)), (2, .int (Int32.ofInt 0)), (3, .int (Int32.ofInt 14))], [.int (Int32.ofInt 5)], M)) rfl ?_
    exact w_fin (r := .inl (some 5)) rfl ⟨5, rfl, rfl, ⟨by decide, by decide⟩, by decide, by decide⟩
  refine w_adv (n := 9) (F' := (19, [(5, .int (Int32.ofInt 6)), (4, .int (Int32.ofInt y)), (0, .ref 1000007), (1, .int (Int32.ofInt x)), (2, .int (Int32.ofInt 0)), (3, .int (Int32.ofInt 14))], [.int (Int32.ofInt y), .int (Int32.ofInt 58)], M)) rfl ?_
  refine w_br2 (a := 58) (b := y) rfl rfl ⟨by decide, by decide⟩ hy (fun _ => ?_) (fun _ => ?_)
  rotate_left
  · refine w_adv (n := 1) (F' := (24, [(5, .int (Int32.ofInt 6)), (4, .int (Int32.ofInt y)), (0, .ref 1000007), (1, .int (Int32.ofInt x)), (2, .int (Int32.ofInt 0)), (3, .int (Int32.ofInt 14))], [.int (Int32.ofInt 6)], M)) rfl ?_
    exact w_fin (r := .inl (some 6)) rfl ⟨6, rfl, rfl, ⟨by decide, by decide⟩, by decide, by decide⟩
  refine w_adv (n := 9) (F' := (19, [(5, .int (Int32.ofInt 7)), (4, .int (Int32.ofInt y)), (0, .ref 1000007), (1, .int (Int32.ofInt x)), (2, .int (Int32.ofInt 0)), (3, .int (Int32.ofInt 14))], [.int (Int32.ofInt y), .int (Int32.ofInt 61)], M)) rfl ?_
  refine w_br2 (a := 61) (b := y) rfl rfl ⟨by decide, by decide⟩ hy (fun _ => ?_) (fun _ => ?_)
  rotate_left
  · refine w_adv (n := 1) (F' := (24, [(5, .int (Int32.ofInt 7)), (4, .int (Int32.ofInt y)), (0, .ref 1000007), (1, .int (Int32.ofInt x)), (2, .int (Int32.ofInt 0)), (3, .int (Int32.ofInt 14))], [.int (Int32.ofInt 7)], M)) rfl ?_
    exact w_fin (r := .inl (some 7)) rfl ⟨7, rfl, rfl, ⟨by decide, by decide⟩, by decide, by decide⟩
  refine w_adv (n := 9) (F' := (19, [(5, .int (Int32.ofInt 8)), (4, .int (Int32.ofInt y)), (0, .ref 1000007), (1, .int (Int32.ofInt x)), (2, .int (Int32.ofInt 0)), (3, .int (Int32.ofInt 14))], [.int (Int32.ofInt y), .int (Int32.ofInt 60)], M)) rfl ?_
  refine w_br2 (a := 60) (b := y) rfl rfl ⟨by decide, by decide⟩ hy (fun _ => ?_) (fun _ => ?_)
  rotate_left
  · refine w_adv (n := 1) (F' := (24, [(5, .int (Int32.ofInt 8)), (4, .int (Int32.ofInt y)), (0, .ref 1000007), (1, .int (Int32.ofInt x)), (2, .int (Int32.ofInt 0)), (3, .int (Int32.ofInt 14))], [.int (Int32.ofInt 8)], M)) rfl ?_
    exact w_fin (r := .inl (some 8)) rfl ⟨8, rfl, rfl, ⟨by decide, by decide⟩, by decide, by decide⟩
  refine w_adv (n := 9) (F' := (19, [(5, .int (Int32.ofInt 9)), (4, .int (Int32.ofInt y)), (0, .ref 1000007), (1, .int (Int32.ofInt x)), (2, .int (Int32.ofInt 0)), (3, .int (Int32.ofInt 14))], [.int (Int32.ofInt y), .int (Int32.ofInt 43)], M)) rfl ?_
  refine w_br2 (a := 43) (b := y) rfl rfl ⟨by decide, by decide⟩ hy (fun _ => ?_) (fun _ => ?_)
  rotate_left
  · refine w_adv (n := 1) (F' := (24, [(5, .int (Int32.ofInt 9)), (4, .int (Int32.ofInt y)), (0, .ref 1000007), (1, .int (Int32.ofInt x)), (2, .int (Int32.ofInt 0)), (3, .int (Int32.ofInt 14))], [.int (Int32.ofInt 9)], M)) rfl ?_
    exact w_fin (r := .inl (some 9)) rfl ⟨9, rfl, rfl, ⟨by decide, by decide⟩, by decide, by decide⟩
  refine w_adv (n := 9) (F' := (19, [(5, .int (Int32.ofInt 10)), (4, .int (Int32.ofInt y)), (0, .ref 1000007), (1, .int (Int32.ofInt x)), (2, .int (Int32.ofInt 0)), (3, .int (Int32.ofInt 14))], [.int (Int32.ofInt y), .int (Int32.ofInt 45)], M)) rfl ?_
  refine w_br2 (a := 45) (b := y) rfl rfl ⟨by decide, by decide⟩ hy (fun _ => ?_) (fun _ => ?_)
  rotate_left
  · refine w_adv (n := 1) (F' := (24, [(5, .int (Int32.ofInt 10)), (4, .int (Int32.ofInt y)), (0, .ref 1000007), (1, .int (Int32.ofInt x)), (2, .int (Int32.ofInt 0)), (3, .int (Int32.ofInt 14))], [.int (Int32.ofInt 10)], M)) rfl ?_
    exact w_fin (r := .inl (some 10)) rfl ⟨10, rfl, rfl, ⟨by decide, by decide⟩, by decide, by decide⟩
  refine w_adv (n := 9) (F' := (19, [(5, .int (Int32.ofInt 11)), (4, .int (Int32.ofInt y)), (0, .ref 1000007), (1, .int (Int32.ofInt x)), (2, .int (Int32.ofInt 0)), (3, .int (Int32.ofInt 14))], [.int (Int32.ofInt y), .int (Int32.ofInt 42)], M)) rfl ?_
  refine w_br2 (a := 42) (b := y) rfl rfl ⟨by decide, by decide⟩ hy (fun _ => ?_) (fun _ => ?_)
  rotate_left
  · refine w_adv (n := 1) (F' := (24, [(5, .int (Int32.ofInt 11)), (4, .int (Int32.ofInt y)), (0, .ref 1000007), (1, .int (Int32.ofInt x)), (2, .int (Int32.ofInt 0)), (3, .int (Int32.ofInt 14))], [.int (Int32.ofInt 11)], M)) rfl ?_
    exact w_fin (r := .inl (some 11)) rfl ⟨11, rfl, rfl, ⟨by decide, by decide⟩, by decide, by decide⟩
  refine w_adv (n := 9) (F' := (19, [(5, .int (Int32.ofInt 12)), (4, .int (Int32.ofInt y)), (0, .ref 1000007), (1, .int (Int32.ofInt x)), (2, .int (Int32.ofInt 0)), (3, .int (Int32.ofInt 14))], [.int (Int32.ofInt y), .int (Int32.ofInt 46)], M)) rfl ?_
  refine w_br2 (a := 46) (b := y) rfl rfl ⟨by decide, by decide⟩ hy (fun _ => ?_) (fun _ => ?_)
  rotate_left
  · refine w_adv (n := 1) (F' := (24, [(5, .int (Int32.ofInt 12)), (4, .int (Int32.ofInt y)), (0, .ref 1000007), (1, .int (Int32.ofInt x)), (2, .int (Int32.ofInt 0)), (3, .int (Int32.ofInt 14))], [.int (Int32.ofInt 12)], M)) rfl ?_
    exact w_fin (r := .inl (some 12)) rfl ⟨12, rfl, rfl, ⟨by decide, by decide⟩, by decide, by decide⟩
  refine w_adv (n := 9) (F' := (19, [(5, .int (Int32.ofInt 13)), (4, .int (Int32.ofInt y)), (0, .ref 1000007), (1, .int (Int32.ofInt x)), (2, .int (Int32.ofInt 0)), (3, .int (Int32.ofInt 14))], [.int (Int32.ofInt y), .int (Int32.ofInt 124)], M)) rfl ?_
  refine w_br2 (a := 124) (b := y) rfl rfl ⟨by decide, by decide⟩ hy (fun _ => ?_) (fun _ => ?_)
  rotate_left
  · refine w_adv (n := 1) (F' := (24, [(5, .int (Int32.ofInt 13)), (4, .int (Int32.ofInt y)), (0, .ref 1000007), (1, .int (Int32.ofInt x)), (2, .int (Int32.ofInt 0)), (3, .int (Int32.ofInt 14))], [.int (Int32.ofInt 13)], M)) rfl ?_
    exact w_fin (r := .inl (some 13)) rfl ⟨13, rfl, rfl, ⟨by decide, by decide⟩, by decide, by decide⟩
  refine w_adv (n := 6) (F' := (32, [(5, .int (Int32.ofInt 14)), (4, .int (Int32.ofInt y)), (0, .ref 1000007), (1, .int (Int32.ofInt x)), (2, .int (Int32.ofInt 0)), (3, .int (Int32.ofInt 14))], [.int (Int32.ofInt (-1))], M)) rfl ?_
  exact w_fin (r := .inl (some (-1))) rfl ⟨-1, rfl, rfl, ⟨by decide, by decide⟩, by decide, by decide⟩
set_option maxRecDepth 100000 in
theorem c_io1 {L : Nat} {xs : Nat → Int32} {d : Nat} {M : w_M} (hd : 1 ≤ d) (x : Int) (rx : w_in x) : w_W (z_P L xs) d 60 (0, [(0, .ref 1000007), (1, .int (Int32.ofInt x)), (2, .int (Int32.ofInt 0)), (3, .int (Int32.ofInt 14))], [], M) (fun r M' => ∃ v : Int, r = .inl (some v) ∧ M' = M ∧ w_in v ∧ (-1 ≤ v ∧ v ≤ 13)) := by
  obtain ⟨d, rfl⟩ : ∃ d0, d = d0 + 1 := ⟨d - 1, by omega⟩
  refine w_adv (n := 1) (F' := (1, [(0, .ref 1000007), (1, .int (Int32.ofInt x)), (2, .int (Int32.ofInt 0)), (3, .int (Int32.ofInt 14))], [.int (Int32.ofInt x)], M)) rfl ?_
  refine w_call (cm := 61) (as := [(0, .int (Int32.ofInt x))]) (rest := []) (o := none) rfl trivial (c_cE x rx) (fun r1 M1 q1 => ?_)
  obtain ⟨q2, q3⟩ := q1
  rw [q3]
  rcases q2 with q2 | q2
  · rw [q2]
    show w_W _ _ _ (4, [(0, .ref 1000007), (1, .int (Int32.ofInt x)), (2, .int (Int32.ofInt 0)), (3, .int (Int32.ofInt 14))], [.int (Int32.ofInt 1)], M) _
    refine w_adv (n := 3) (F' := (11, [(0, .ref 1000007), (1, .int (Int32.ofInt x)), (2, .int (Int32.ofInt 0)), (3, .int (Int32.ofInt 14))], [.int (Int32.ofInt 0), .int (Int32.ofInt 0)], M)) rfl ?_
    refine w_math (cm := 1) (v := .int (Int32.ofInt 0)) (t := []) rfl rfl rfl rfl ?_
    refine w_adv (n := 4) (F' := (18, [(2, .int (Int32.ofInt 0)), (0, .ref 1000007), (1, .int (Int32.ofInt x)), (3, .int (Int32.ofInt 14))], [.int (Int32.ofInt 14), .int (Int32.ofInt 14)], M)) rfl ?_
    refine w_math (cm := 2) (v := .int (Int32.ofInt 14)) (t := []) rfl rfl rfl rfl ?_
    refine w_adv (n := 8) (F' := (33, [(3, .int (Int32.ofInt 14)), (2, .int (Int32.ofInt 0)), (0, .ref 1000007), (1, .int (Int32.ofInt x))], [.int (Int32.ofInt 14), .int (Int32.ofInt 0), .int (Int32.ofInt x), .ref 1000007], M)) rfl ?_
    refine w_call (cm := 64) (as := [(0, .ref 1000007), (1, .int (Int32.ofInt x)), (2, .int (Int32.ofInt 0)), (3, .int (Int32.ofInt 14))]) (rest := []) (o := none) rfl trivial (c_ioc x) (fun r1 M2 q4 => ?_)
    obtain ⟨v, e1, e2, e3, e4⟩ := q4
    rw [e1, e2]
    show w_W _ _ _ (36, [(3, .int (Int32.ofInt 14)), (2, .int (Int32.ofInt 0)), (0, .ref 1000007), (1, .int (Int32.ofInt x))], [.int (Int32.ofInt v)], M) _
    exact w_fin (r := .inl (some v)) rfl ⟨v, rfl, rfl, e3, e4⟩
  · rw [q2]
    show w_W _ _ _ (4, [(0, .ref 1000007), (1, .int (Int32.ofInt x)), (2, .int (Int32.ofInt 0)), (3, .int (Int32.ofInt 14))], [.int (Int32.ofInt 0)], M) _
    refine w_adv (n := 2) (F' := (8, [(0, .ref 1000007), (1, .int (Int32.ofInt x)), (2, .int (Int32.ofInt 0)), (3, .int (Int32.ofInt 14))], [.int (Int32.ofInt (-1))], M)) rfl ?_
    exact w_fin (r := .inl (some (-1))) rfl ⟨-1, rfl, rfl, ⟨by decide, by decide⟩, by decide, by decide⟩
set_option maxRecDepth 100000 in
theorem c_io2 {L : Nat} {xs : Nat → Int32} {d : Nat} {M : w_M} (hd : 4 ≤ d) (x : Int) (rx : w_in x) : w_W (z_P L xs) d 59 (0, [(0, .ref 1000006), (1, .int (Int32.ofInt x)), (2, .int (Int32.ofInt 0))], [], M) (fun r M' => ∃ v : Int, r = .inl (some v) ∧ M' = M ∧ w_in v ∧ (-1 ≤ v ∧ v ≤ 13)) := by
  obtain ⟨d, rfl⟩ : ∃ d0, d = d0 + 4 := ⟨d - 4, by omega⟩
  refine w_adv (n := 1) (F' := (1, [(0, .ref 1000006), (1, .int (Int32.ofInt x)), (2, .int (Int32.ofInt 0))], [.ref 1000006], M)) rfl ?_
  refine w_callT (cm := 11) (as := [(0, .ref 1000006)]) (rest := []) (Q1 := fun r M' => r = .inl (some 1) ∧ M' = M) rfl ⟨.inl (some 1), M, ⟨60, rfl⟩, rfl, rfl⟩ (fun r1 M1 q1 => ?_)
  obtain ⟨q2, q3⟩ := q1
  rw [q2, q3]
  show w_W _ _ _ (4, [(0, .ref 1000006), (1, .int (Int32.ofInt x)), (2, .int (Int32.ofInt 0))], [.int (Int32.ofInt 1)], M) _
  refine w_adv (n := 6) (F' := (14, [(0, .ref 1000006), (1, .int (Int32.ofInt x)), (2, .int (Int32.ofInt 0))], [.ref 1000006, .int (Int32.ofInt 0), .int (Int32.ofInt x), .ref 1000007], M)) rfl ?_
  refine w_callT (cm := 8) (as := [(0, .ref 1000006)]) (rest := [.int (Int32.ofInt 0), .int (Int32.ofInt x), .ref 1000007]) (Q1 := fun r M' => r = .inl (some 14) ∧ M' = M) rfl ⟨.inl (some 14), M, ⟨60, rfl⟩, rfl, rfl⟩ (fun r1 M1 q1 => ?_)
  obtain ⟨q2, q3⟩ := q1
  rw [q2, q3]
  show w_W _ _ _ (17, [(0, .ref 1000006), (1, .int (Int32.ofInt x)), (2, .int (Int32.ofInt 0))], [.int (Int32.ofInt 14), .int (Int32.ofInt 0), .int (Int32.ofInt x), .ref 1000007], M) _
  refine w_call (cm := 60) (as := [(0, .ref 1000007), (1, .int (Int32.ofInt x)), (2, .int (Int32.ofInt 0)), (3, .int (Int32.ofInt 14))]) (rest := []) (o := none) rfl trivial (c_io1 (by omega) x rx) (fun r1 M2 q4 => ?_)
  obtain ⟨v, e1, e2, e3, e4⟩ := q4
  rw [e1, e2]
  show w_W _ _ _ (20, [(0, .ref 1000006), (1, .int (Int32.ofInt x)), (2, .int (Int32.ofInt 0))], [.int (Int32.ofInt v)], M) _
  refine w_adv (n := 1) (F' := (36, [(0, .ref 1000006), (1, .int (Int32.ofInt x)), (2, .int (Int32.ofInt 0))], [.int (Int32.ofInt v)], M)) rfl ?_
  exact w_fin (r := .inl (some v)) rfl ⟨v, rfl, rfl, e3, e4⟩
set_option maxRecDepth 100000 in
theorem c_idx {L : Nat} {xs : Nat → Int32} {d : Nat} {M : w_M} (hd : 5 ≤ d) (x : Int) (rx : w_in x) : w_W (z_P L xs) d 58 (0, [(0, .ref 1000006), (1, .int (Int32.ofInt x))], [], M) (fun r M' => ∃ v : Int, r = .inl (some v) ∧ M' = M ∧ w_in v ∧ (-1 ≤ v ∧ v ≤ 13)) := by
  obtain ⟨d, rfl⟩ : ∃ d0, d = d0 + 1 := ⟨d - 1, by omega⟩
  refine w_adv (n := 3) (F' := (3, [(0, .ref 1000006), (1, .int (Int32.ofInt x))], [.int (Int32.ofInt 0), .int (Int32.ofInt x), .ref 1000006], M)) rfl ?_
  refine w_callT (cm := 59) (as := [(0, .ref 1000006), (1, .int (Int32.ofInt x)), (2, .int (Int32.ofInt 0))]) (rest := []) rfl (c_io2 (by omega) x rx) (fun r1 M2 q4 => ?_)
  obtain ⟨v, e1, e2, e3, e4⟩ := q4
  rw [e1, e2]
  show w_W _ _ _ (6, [(0, .ref 1000006), (1, .int (Int32.ofInt x))], [.int (Int32.ofInt v)], M) _
  exact w_fin (r := .inl (some v)) rfl ⟨v, rfl, rfl, e3, e4⟩
def c_isDigit_Q (fr : Nat → Bool) (X : Nat → Option (q_C (Nat → Int32))) (u l : Nat) (I : Nat → Int) (A : Nat → Int → Int) (B C : Nat → Nat) (M : w_M) (b : Int) : w_X → w_M → Prop := fun r M' => ((r = .inl (some 1)) ∧ (M' = M)) ∨ ((r = .inl (some 0)) ∧ (M' = M))
set_option maxHeartbeats 100000000 in
set_option maxRecDepth 100000 in
theorem c_isDigit {L : Nat} {xs : Nat → Int32} {d : Nat} {fr : Nat → Bool} {X : Nat → Option (q_C (Nat → Int32))} {u l : Nat} {I : Nat → Int} {A : Nat → Int → Int} {B C : Nat → Nat} {M : w_M} (b : Int) (hR : w_Rep w_TC fr X u l I A B C M) (r_b : w_in b) : w_W (z_P L xs) d 51 (0, [(0, .int (Int32.ofInt (b)))], [], M) (c_isDigit_Q fr X u l I A B C M b) := by
  obtain ⟨ra_b, rb_b⟩ := r_b
  refine w_adv (n := 2) (F' := (3, [(0, .int (Int32.ofInt (b)))], [.int (Int32.ofInt (48)), .int (Int32.ofInt (b))], M)) rfl ?_
  refine w_br2 (a := b) (b := 48) rfl rfl ⟨by omega, by omega⟩ ⟨by omega, by omega⟩ (fun h1 => ?_) (fun h1 => ?_)
  · have h1 : b < 48 := h1
    show w_W _ _ _ (16, [(0, .int (Int32.ofInt (b)))], [], M) _
    refine w_adv (n := 1) (F' := (17, [(0, .int (Int32.ofInt (b)))], [.int (Int32.ofInt (0))], M)) rfl ?_
    refine w_fin (r := .inl (some (0))) (M' := M) rfl ?_
    exact Or.inr (⟨rfl, rfl⟩)
  · have h1 : ¬ (b < 48) := h1
    show w_W _ _ _ (6, [(0, .int (Int32.ofInt (b)))], [], M) _
    refine w_adv (n := 2) (F' := (9, [(0, .int (Int32.ofInt (b)))], [.int (Int32.ofInt (57)), .int (Int32.ofInt (b))], M)) rfl ?_
    refine w_br2 (a := b) (b := 57) rfl rfl ⟨by omega, by omega⟩ ⟨by omega, by omega⟩ (fun h2 => ?_) (fun h2 => ?_)
    · have h2 : b > 57 := h2
      show w_W _ _ _ (16, [(0, .int (Int32.ofInt (b)))], [], M) _
      refine w_adv (n := 1) (F' := (17, [(0, .int (Int32.ofInt (b)))], [.int (Int32.ofInt (0))], M)) rfl ?_
      refine w_fin (r := .inl (some (0))) (M' := M) rfl ?_
      exact Or.inr (⟨rfl, rfl⟩)
    · have h2 : ¬ (b > 57) := h2
      show w_W _ _ _ (12, [(0, .int (Int32.ofInt (b)))], [], M) _
      refine w_adv (n := 2) (F' := (17, [(0, .int (Int32.ofInt (b)))], [.int (Int32.ofInt (1))], M)) rfl ?_
      refine w_fin (r := .inl (some (1))) (M' := M) rfl ?_
      exact Or.inl ⟨rfl, rfl⟩
def c_isNamePart_Q (fr : Nat → Bool) (X : Nat → Option (q_C (Nat → Int32))) (u l : Nat) (I : Nat → Int) (A : Nat → Int → Int) (B C : Nat → Nat) (M : w_M) (b : Int) : w_X → w_M → Prop := fun r M' => ((r = .inl (some 1)) ∧ (M' = M)) ∨ ((r = .inl (some 0)) ∧ (M' = M))
set_option maxHeartbeats 100000000 in
set_option maxRecDepth 100000 in
theorem c_isNamePart {L : Nat} {xs : Nat → Int32} {d : Nat} {fr : Nat → Bool} {X : Nat → Option (q_C (Nat → Int32))} {u l : Nat} {I : Nat → Int} {A : Nat → Int → Int} {B C : Nat → Nat} {M : w_M} (b : Int) (hR : w_Rep w_TC fr X u l I A B C M) (hd : 1 ≤ d) (r_b : w_in b) : w_W (z_P L xs) d 50 (0, [(0, .int (Int32.ofInt (b)))], [], M) (c_isNamePart_Q fr X u l I A B C M b) := by
  obtain ⟨ra_b, rb_b⟩ := r_b
  obtain ⟨d, rfl⟩ : ∃ d0, d = d0 + 1 := ⟨d - 1, by omega⟩
  refine w_adv (n := 2) (F' := (3, [(0, .int (Int32.ofInt (b)))], [.int (Int32.ofInt (97)), .int (Int32.ofInt (b))], M)) rfl ?_
  refine w_br2 (a := b) (b := 97) rfl rfl ⟨by omega, by omega⟩ ⟨by omega, by omega⟩ (fun h1 => ?_) (fun h1 => ?_)
  · have h1 : b < 97 := h1
    show w_W _ _ _ (12, [(0, .int (Int32.ofInt (b)))], [], M) _
    refine w_adv (n := 2) (F' := (15, [(0, .int (Int32.ofInt (b)))], [.int (Int32.ofInt (65)), .int (Int32.ofInt (b))], M)) rfl ?_
    refine w_br2 (a := b) (b := 65) rfl rfl ⟨by omega, by omega⟩ ⟨by omega, by omega⟩ (fun h2 => ?_) (fun h2 => ?_)
    · have h2 : b < 65 := h2
      show w_W _ _ _ (24, [(0, .int (Int32.ofInt (b)))], [], M) _
      refine w_adv (n := 1) (F' := (25, [(0, .int (Int32.ofInt (b)))], [.int (Int32.ofInt (b))], M)) rfl ?_
      refine w_call (cm := 51) (as := [(0, .int (Int32.ofInt (b)))]) (rest := []) (o := none) rfl (trivial) (c_isDigit (b) hR ⟨by omega, by omega⟩) (fun r3 M4 q5 => ?_)
      rcases q5 with ⟨e6, e7⟩ | ⟨e8, e9⟩
      · rw [e6, e7]
        show w_W _ _ _ (28, [(0, .int (Int32.ofInt (b)))], [.int (Int32.ofInt (1))], M) _
        refine w_adv (n := 3) (F' := (42, [(0, .int (Int32.ofInt (b)))], [.int (Int32.ofInt (1))], M)) rfl ?_
        refine w_fin (r := .inl (some (1))) (M' := M) rfl ?_
        exact Or.inl ⟨rfl, rfl⟩
      · rw [e8, e9]
        show w_W _ _ _ (28, [(0, .int (Int32.ofInt (b)))], [.int (Int32.ofInt (0))], M) _
        refine w_adv (n := 3) (F' := (34, [(0, .int (Int32.ofInt (b)))], [.int (Int32.ofInt (95)), .int (Int32.ofInt (b))], M)) rfl ?_
        refine w_br2 (a := b) (b := 95) rfl rfl ⟨by omega, by omega⟩ ⟨by omega, by omega⟩ (fun h10 => ?_) (fun h10 => ?_)
        · have h10 : ¬ b = 95 := h10
          show w_W _ _ _ (41, [(0, .int (Int32.ofInt (b)))], [], M) _
          refine w_adv (n := 1) (F' := (42, [(0, .int (Int32.ofInt (b)))], [.int (Int32.ofInt (0))], M)) rfl ?_
          refine w_fin (r := .inl (some (0))) (M' := M) rfl ?_
          exact Or.inr (⟨rfl, rfl⟩)
        · have h10 : ¬ (¬ b = 95) := h10
          show w_W _ _ _ (37, [(0, .int (Int32.ofInt (b)))], [], M) _
          refine w_adv (n := 2) (F' := (42, [(0, .int (Int32.ofInt (b)))], [.int (Int32.ofInt (1))], M)) rfl ?_
          refine w_fin (r := .inl (some (1))) (M' := M) rfl ?_
          exact Or.inl ⟨rfl, rfl⟩
    · have h2 : ¬ (b < 65) := h2
      show w_W _ _ _ (18, [(0, .int (Int32.ofInt (b)))], [], M) _
      refine w_adv (n := 2) (F' := (21, [(0, .int (Int32.ofInt (b)))], [.int (Int32.ofInt (90)), .int (Int32.ofInt (b))], M)) rfl ?_
      refine w_br2 (a := b) (b := 90) rfl rfl ⟨by omega, by omega⟩ ⟨by omega, by omega⟩ (fun h11 => ?_) (fun h11 => ?_)
      · have h11 : b ≤ 90 := h11
        show w_W _ _ _ (37, [(0, .int (Int32.ofInt (b)))], [], M) _
        refine w_adv (n := 2) (F' := (42, [(0, .int (Int32.ofInt (b)))], [.int (Int32.ofInt (1))], M)) rfl ?_
        refine w_fin (r := .inl (some (1))) (M' := M) rfl ?_
        exact Or.inl ⟨rfl, rfl⟩
      · have h11 : ¬ (b ≤ 90) := h11
        show w_W _ _ _ (24, [(0, .int (Int32.ofInt (b)))], [], M) _
        refine w_adv (n := 1) (F' := (25, [(0, .int (Int32.ofInt (b)))], [.int (Int32.ofInt (b))], M)) rfl ?_
        refine w_call (cm := 51) (as := [(0, .int (Int32.ofInt (b)))]) (rest := []) (o := none) rfl (trivial) (c_isDigit (b) hR ⟨by omega, by omega⟩) (fun r12 M13 q14 => ?_)
        rcases q14 with ⟨e15, e16⟩ | ⟨e17, e18⟩
        · rw [e15, e16]
          show w_W _ _ _ (28, [(0, .int (Int32.ofInt (b)))], [.int (Int32.ofInt (1))], M) _
          refine w_adv (n := 3) (F' := (42, [(0, .int (Int32.ofInt (b)))], [.int (Int32.ofInt (1))], M)) rfl ?_
          refine w_fin (r := .inl (some (1))) (M' := M) rfl ?_
          exact Or.inl ⟨rfl, rfl⟩
        · rw [e17, e18]
          show w_W _ _ _ (28, [(0, .int (Int32.ofInt (b)))], [.int (Int32.ofInt (0))], M) _
          refine w_adv (n := 3) (F' := (34, [(0, .int (Int32.ofInt (b)))], [.int (Int32.ofInt (95)), .int (Int32.ofInt (b))], M)) rfl ?_
          refine w_br2 (a := b) (b := 95) rfl rfl ⟨by omega, by omega⟩ ⟨by omega, by omega⟩ (fun h19 => ?_) (fun h19 => ?_)
          · have h19 : ¬ b = 95 := h19
            show w_W _ _ _ (41, [(0, .int (Int32.ofInt (b)))], [], M) _
            refine w_adv (n := 1) (F' := (42, [(0, .int (Int32.ofInt (b)))], [.int (Int32.ofInt (0))], M)) rfl ?_
            refine w_fin (r := .inl (some (0))) (M' := M) rfl ?_
            exact Or.inr (⟨rfl, rfl⟩)
          · have h19 : ¬ (¬ b = 95) := h19
            show w_W _ _ _ (37, [(0, .int (Int32.ofInt (b)))], [], M) _
            refine w_adv (n := 2) (F' := (42, [(0, .int (Int32.ofInt (b)))], [.int (Int32.ofInt (1))], M)) rfl ?_
            refine w_fin (r := .inl (some (1))) (M' := M) rfl ?_
            exact Or.inl ⟨rfl, rfl⟩
  · have h1 : ¬ (b < 97) := h1
    show w_W _ _ _ (6, [(0, .int (Int32.ofInt (b)))], [], M) _
    refine w_adv (n := 2) (F' := (9, [(0, .int (Int32.ofInt (b)))], [.int (Int32.ofInt (122)), .int (Int32.ofInt (b))], M)) rfl ?_
    refine w_br2 (a := b) (b := 122) rfl rfl ⟨by omega, by omega⟩ ⟨by omega, by omega⟩ (fun h20 => ?_) (fun h20 => ?_)
    · have h20 : b ≤ 122 := h20
      show w_W _ _ _ (37, [(0, .int (Int32.ofInt (b)))], [], M) _
      refine w_adv (n := 2) (F' := (42, [(0, .int (Int32.ofInt (b)))], [.int (Int32.ofInt (1))], M)) rfl ?_
      refine w_fin (r := .inl (some (1))) (M' := M) rfl ?_
      exact Or.inl ⟨rfl, rfl⟩
    · have h20 : ¬ (b ≤ 122) := h20
      show w_W _ _ _ (12, [(0, .int (Int32.ofInt (b)))], [], M) _
      refine w_adv (n := 2) (F' := (15, [(0, .int (Int32.ofInt (b)))], [.int (Int32.ofInt (65)), .int (Int32.ofInt (b))], M)) rfl ?_
      refine w_br2 (a := b) (b := 65) rfl rfl ⟨by omega, by omega⟩ ⟨by omega, by omega⟩ (fun h21 => ?_) (fun h21 => ?_)
      · have h21 : b < 65 := h21
        show w_W _ _ _ (24, [(0, .int (Int32.ofInt (b)))], [], M) _
        refine w_adv (n := 1) (F' := (25, [(0, .int (Int32.ofInt (b)))], [.int (Int32.ofInt (b))], M)) rfl ?_
        refine w_call (cm := 51) (as := [(0, .int (Int32.ofInt (b)))]) (rest := []) (o := none) rfl (trivial) (c_isDigit (b) hR ⟨by omega, by omega⟩) (fun r22 M23 q24 => ?_)
        rcases q24 with ⟨e25, e26⟩ | ⟨e27, e28⟩
        · rw [e25, e26]
          show w_W _ _ _ (28, [(0, .int (Int32.ofInt (b)))], [.int (Int32.ofInt (1))], M) _
          refine w_adv (n := 3) (F' := (42, [(0, .int (Int32.ofInt (b)))], [.int (Int32.ofInt (1))], M)) rfl ?_
          refine w_fin (r := .inl (some (1))) (M' := M) rfl ?_
          exact Or.inl ⟨rfl, rfl⟩
        · rw [e27, e28]
          show w_W _ _ _ (28, [(0, .int (Int32.ofInt (b)))], [.int (Int32.ofInt (0))], M) _
          refine w_adv (n := 3) (F' := (34, [(0, .int (Int32.ofInt (b)))], [.int (Int32.ofInt (95)), .int (Int32.ofInt (b))], M)) rfl ?_
          refine w_br2 (a := b) (b := 95) rfl rfl ⟨by omega, by omega⟩ ⟨by omega, by omega⟩ (fun h29 => ?_) (fun h29 => ?_)
          · have h29 : ¬ b = 95 := h29
            show w_W _ _ _ (41, [(0, .int (Int32.ofInt (b)))], [], M) _
            refine w_adv (n := 1) (F' := (42, [(0, .int (Int32.ofInt (b)))], [.int (Int32.ofInt (0))], M)) rfl ?_
            refine w_fin (r := .inl (some (0))) (M' := M) rfl ?_
            exact Or.inr (⟨rfl, rfl⟩)
          · have h29 : ¬ (¬ b = 95) := h29
            show w_W _ _ _ (37, [(0, .int (Int32.ofInt (b)))], [], M) _
            refine w_adv (n := 2) (F' := (42, [(0, .int (Int32.ofInt (b)))], [.int (Int32.ofInt (1))], M)) rfl ?_
            refine w_fin (r := .inl (some (1))) (M' := M) rfl ?_
            exact Or.inl ⟨rfl, rfl⟩
      · have h21 : ¬ (b < 65) := h21
        show w_W _ _ _ (18, [(0, .int (Int32.ofInt (b)))], [], M) _
        refine w_adv (n := 2) (F' := (21, [(0, .int (Int32.ofInt (b)))], [.int (Int32.ofInt (90)), .int (Int32.ofInt (b))], M)) rfl ?_
        refine w_br2 (a := b) (b := 90) rfl rfl ⟨by omega, by omega⟩ ⟨by omega, by omega⟩ (fun h30 => ?_) (fun h30 => ?_)
        · have h30 : b ≤ 90 := h30
          show w_W _ _ _ (37, [(0, .int (Int32.ofInt (b)))], [], M) _
          refine w_adv (n := 2) (F' := (42, [(0, .int (Int32.ofInt (b)))], [.int (Int32.ofInt (1))], M)) rfl ?_
          refine w_fin (r := .inl (some (1))) (M' := M) rfl ?_
          exact Or.inl ⟨rfl, rfl⟩
        · have h30 : ¬ (b ≤ 90) := h30
          show w_W _ _ _ (24, [(0, .int (Int32.ofInt (b)))], [], M) _
          refine w_adv (n := 1) (F' := (25, [(0, .int (Int32.ofInt (b)))], [.int (Int32.ofInt (b))], M)) rfl ?_
          refine w_call (cm := 51) (as := [(0, .int (Int32.ofInt (b)))]) (rest := []) (o := none) rfl (trivial) (c_isDigit (b) hR ⟨by omega, by omega⟩) (fun r31 M32 q33 => ?_)
          rcases q33 with ⟨e34, e35⟩ | ⟨e36, e37⟩
          · rw [e34, e35]
            show w_W _ _ _ (28, [(0, .int (Int32.ofInt (b)))], [.int (Int32.ofInt (1))], M) _
            refine w_adv (n := 3) (F' := (42, [(0, .int (Int32.ofInt (b)))], [.int (Int32.ofInt (1))], M)) rfl ?_
            refine w_fin (r := .inl (some (1))) (M' := M) rfl ?_
            exact Or.inl ⟨rfl, rfl⟩
          · rw [e36, e37]
            show w_W _ _ _ (28, [(0, .int (Int32.ofInt (b)))], [.int (Int32.ofInt (0))], M) _
            refine w_adv (n := 3) (F' := (34, [(0, .int (Int32.ofInt (b)))], [.int (Int32.ofInt (95)), .int (Int32.ofInt (b))], M)) rfl ?_
            refine w_br2 (a := b) (b := 95) rfl rfl ⟨by omega, by omega⟩ ⟨by omega, by omega⟩ (fun h38 => ?_) (fun h38 => ?_)
            · have h38 : ¬ b = 95 := h38
              show w_W _ _ _ (41, [(0, .int (Int32.ofInt (b)))], [], M) _
              refine w_adv (n := 1) (F' := (42, [(0, .int (Int32.ofInt (b)))], [.int (Int32.ofInt (0))], M)) rfl ?_
              refine w_fin (r := .inl (some (0))) (M' := M) rfl ?_
              exact Or.inr (⟨rfl, rfl⟩)
            · have h38 : ¬ (¬ b = 95) := h38
              show w_W _ _ _ (37, [(0, .int (Int32.ofInt (b)))], [], M) _
              refine w_adv (n := 2) (F' := (42, [(0, .int (Int32.ofInt (b)))], [.int (Int32.ofInt (1))], M)) rfl ?_
              refine w_fin (r := .inl (some (1))) (M' := M) rfl ?_
              exact Or.inl ⟨rfl, rfl⟩
def c_pastName_Q (fr : Nat → Bool) (X : Nat → Option (q_C (Nat → Int32))) (u l : Nat) (I : Nat → Int) (A : Nat → Int → Int) (B C : Nat → Nat) (M : w_M) (f : Int) : w_X → w_M → Prop := fun r M' => (∃ v : Int, (r = .inl (some v)) ∧ (w_in v) ∧ (M' = M))
set_option maxHeartbeats 100000000 in
set_option maxRecDepth 100000 in
theorem c_pastName {L : Nat} {xs : Nat → Int32} {d : Nat} {fr : Nat → Bool} {X : Nat → Option (q_C (Nat → Int32))} {u l : Nat} {I : Nat → Int} {A : Nat → Int → Int} {B C : Nat → Nat} {M : w_M} (f : Int) (hR : w_Rep w_TC fr X u l I A B C M) (hd : 2 ≤ d) (r_f : w_in f) : w_W (z_P L xs) d 49 (0, [(0, .ref 12), (1, .int (Int32.ofInt (f)))], [], M) (c_pastName_Q fr X u l I A B C M f) := by
  obtain ⟨ra_f, rb_f⟩ := r_f
  obtain ⟨d, rfl⟩ : ∃ d0, d = d0 + 1 := ⟨d - 1, by omega⟩
  refine w_adv (n := 2) (F' := (2, [(2, .int (Int32.ofInt (f))), (0, .ref 12), (1, .int (Int32.ofInt (f)))], [], M)) rfl ?_
  have lp2 : ∀ fu2 : Nat, ∀ (y2_2 : Int), w_in y2_2 → (if y2_2 < (I 65) then (I 65) - y2_2 else 0) < (fu2 : Int) → w_W (z_P L xs) (d + 1) 49 (2, [(0, .ref 12), (1, .int (Int32.ofInt (f))), (2, .int (Int32.ofInt (y2_2)))], [], M) (c_pastName_Q fr X u l I A B C M f) := by
    intro fu2
    induction fu2 with
    | zero =>
      intro y2_2 ⟨ra_y2_2, rb_y2_2⟩ hn2
      exfalso
      omega
    | succ fu2 ih2 =>
      intro y2_2 ⟨ra_y2_2, rb_y2_2⟩ hn2
      refine w_adv (n := 2) (F' := (4, [(0, .ref 12), (1, .int (Int32.ofInt (f))), (2, .int (Int32.ofInt (y2_2)))], [.ref 12, .int (Int32.ofInt (y2_2))], M)) rfl ?_
      refine w_gf (v := .ref 1) hR rfl rfl rfl rfl ?_
      refine w_call (cm := 45) (as := [(0, .ref 1)]) (rest := [.int (Int32.ofInt (y2_2))]) (o := some (6, 1)) rfl (w_fitR hR rfl) (c_len hR) (fun r1 M2 q3 => ?_)
      rcases q3 with ⟨e4, e5, f6⟩
      rw [e4, e5]
      replace f6 : -2147483648 ≤ (I 65) ∧ (I 65) ≤ 2147483647 := f6
      obtain ⟨n7, n8⟩ := id f6
      clear f6
      show w_W _ _ _ (10, [(0, .ref 12), (1, .int (Int32.ofInt (f))), (2, .int (Int32.ofInt (y2_2)))], [.int (Int32.ofInt ((I 65))), .int (Int32.ofInt (y2_2))], M) _
      refine w_br2 (a := y2_2) (b := (I 65)) rfl rfl ⟨by omega, by omega⟩ ⟨by omega, by omega⟩ (fun h9 => ?_) (fun h9 => ?_)
      · have h9 : y2_2 ≥ (I 65) := h9
        show w_W _ _ _ (35, [(0, .ref 12), (1, .int (Int32.ofInt (f))), (2, .int (Int32.ofInt (y2_2)))], [], M) _
        refine w_adv (n := 1) (F' := (36, [(0, .ref 12), (1, .int (Int32.ofInt (f))), (2, .int (Int32.ofInt (y2_2)))], [.ref 12], M)) rfl ?_
        refine w_gf (v := .ref 1) hR rfl rfl rfl rfl ?_
        refine w_call (cm := 45) (as := [(0, .ref 1)]) (rest := []) (o := some (6, 1)) rfl (w_fitR hR rfl) (c_len hR) (fun r10 M11 q12 => ?_)
        rcases q12 with ⟨e13, e14, f15⟩
        rw [e13, e14]
        replace f15 : -2147483648 ≤ (I 65) ∧ (I 65) ≤ 2147483647 := f15
        obtain ⟨n16, n17⟩ := id f15
        clear f15
        show w_W _ _ _ (42, [(0, .ref 12), (1, .int (Int32.ofInt (f))), (2, .int (Int32.ofInt (y2_2)))], [.int (Int32.ofInt ((I 65)))], M) _
        refine w_fin (r := .inl (some ((I 65)))) (M' := M) rfl ?_
        exact ⟨(I 65), rfl, ⟨by omega, by omega⟩, rfl⟩
      · have h9 : ¬ (y2_2 ≥ (I 65)) := h9
        show w_W _ _ _ (13, [(0, .ref 12), (1, .int (Int32.ofInt (f))), (2, .int (Int32.ofInt (y2_2)))], [], M) _
        refine w_adv (n := 1) (F' := (14, [(0, .ref 12), (1, .int (Int32.ofInt (f))), (2, .int (Int32.ofInt (y2_2)))], [.ref 12], M)) rfl ?_
        refine w_gf (v := .ref 1) hR rfl rfl rfl rfl ?_
        refine w_adv (n := 1) (F' := (18, [(0, .ref 12), (1, .int (Int32.ofInt (f))), (2, .int (Int32.ofInt (y2_2)))], [.int (Int32.ofInt (y2_2)), .ref 1], M)) rfl ?_
        refine w_call (cm := 46) (as := [(0, .ref 1), (1, .int (Int32.ofInt (y2_2)))]) (rest := []) (o := some (6, 1)) rfl (w_fitR hR rfl) (c_byteAt (y2_2) hR (show 1 ≤ d by omega) ⟨by omega, by omega⟩) (fun r18 M19 q20 => ?_)
        rcases q20 with ⟨v21, e22, ⟨r23, r24⟩, e25⟩
        rw [e22, e25]
        show w_W _ _ _ (21, [(0, .ref 12), (1, .int (Int32.ofInt (f))), (2, .int (Int32.ofInt (y2_2)))], [.int (Int32.ofInt (v21))], M) _
        refine w_call (cm := 50) (as := [(0, .int (Int32.ofInt (v21)))]) (rest := []) (o := none) rfl (trivial) (c_isNamePart (v21) hR (show 1 ≤ d by omega) ⟨by omega, by omega⟩) (fun r26 M27 q28 => ?_)
        rcases q28 with ⟨e29, e30⟩ | ⟨e31, e32⟩
        · rw [e29, e30]
          show w_W _ _ _ (24, [(0, .ref 12), (1, .int (Int32.ofInt (f))), (2, .int (Int32.ofInt (y2_2)))], [.int (Int32.ofInt (1))], M) _
          refine w_adv (n := 1) (F' := (29, [(0, .ref 12), (1, .int (Int32.ofInt (f))), (2, .int (Int32.ofInt (y2_2)))], [], M)) rfl ?_
          refine w_inc (nL := 3) (a := y2_2) rfl rfl rfl (by decide) ?_
          refine w_adv (n := 1) (F' := (2, [(2, .int (Int32.ofInt (y2_2 + 1))), (0, .ref 12), (1, .int (Int32.ofInt (f)))], [], M)) rfl ?_
          refine w_ls (ls := [(0, .ref 12), (1, .int (Int32.ofInt (f))), (2, .int (Int32.ofInt (y2_2 + 1)))]) (show List.Nodup [0, 1, 2] by decide) (show List.Nodup [2, 0, 1] by decide) (List.forall_mem_cons.mpr ⟨(List.Mem.tail _ (List.Mem.head _)), (List.forall_mem_cons.mpr ⟨(List.Mem.tail _ (List.Mem.tail _ (List.Mem.head _))), (List.forall_mem_cons.mpr ⟨(List.Mem.head _), (fun _ h => by cases h)⟩)⟩)⟩) ?_
          exact ih2  (y2_2 + 1) ⟨by omega, by omega⟩  (show (if (y2_2 + 1) < (I 65) then (I 65) - (y2_2 + 1) else 0) < (fu2 : Int) by omega)
        · rw [e31, e32]
          show w_W _ _ _ (24, [(0, .ref 12), (1, .int (Int32.ofInt (f))), (2, .int (Int32.ofInt (y2_2)))], [.int (Int32.ofInt (0))], M) _
          refine w_adv (n := 2) (F' := (28, [(0, .ref 12), (1, .int (Int32.ofInt (f))), (2, .int (Int32.ofInt (y2_2)))], [.int (Int32.ofInt (y2_2))], M)) rfl ?_
          refine w_fin (r := .inl (some (y2_2))) (M' := M) rfl ?_
          exact ⟨y2_2, rfl, ⟨by omega, by omega⟩, rfl⟩
  refine w_ls (ls := [(0, .ref 12), (1, .int (Int32.ofInt (f))), (2, .int (Int32.ofInt (f)))]) (show List.Nodup [0, 1, 2] by decide) (show List.Nodup [2, 0, 1] by decide) (List.forall_mem_cons.mpr ⟨(List.Mem.tail _ (List.Mem.head _)), (List.forall_mem_cons.mpr ⟨(List.Mem.tail _ (List.Mem.tail _ (List.Mem.head _))), (List.forall_mem_cons.mpr ⟨(List.Mem.head _), (fun _ h => by cases h)⟩)⟩)⟩) ?_
  exact lp2 (((if f < (I 65) then (I 65) - f else 0) : Int).toNat + 1)  (f) ⟨by omega, by omega⟩  (show (if f < (I 65) then (I 65) - f else 0) < ((((if f < (I 65) then (I 65) - f else 0) : Int).toNat + 1 : Nat) : Int) by omega)
def c_pastBlanks_Q (fr : Nat → Bool) (X : Nat → Option (q_C (Nat → Int32))) (u l : Nat) (I : Nat → Int) (A : Nat → Int → Int) (B C : Nat → Nat) (M : w_M) (f : Int) : w_X → w_M → Prop := fun r M' => (∃ v : Int, (r = .inl (some v)) ∧ (w_in v) ∧ (M' = M))
set_option maxHeartbeats 100000000 in
set_option maxRecDepth 100000 in
theorem c_pastBlanks {L : Nat} {xs : Nat → Int32} {d : Nat} {fr : Nat → Bool} {X : Nat → Option (q_C (Nat → Int32))} {u l : Nat} {I : Nat → Int} {A : Nat → Int → Int} {B C : Nat → Nat} {M : w_M} (f : Int) (hR : w_Rep w_TC fr X u l I A B C M) (hd : 2 ≤ d) (r_f : w_in f) : w_W (z_P L xs) d 44 (0, [(0, .ref 12), (1, .int (Int32.ofInt (f)))], [], M) (c_pastBlanks_Q fr X u l I A B C M f) := by
  obtain ⟨ra_f, rb_f⟩ := r_f
  obtain ⟨d, rfl⟩ : ∃ d0, d = d0 + 1 := ⟨d - 1, by omega⟩
  refine w_adv (n := 4) (F' := (4, [(3, .int (Int32.ofInt (f))), (2, .int (Int32.ofInt (0))), (0, .ref 12), (1, .int (Int32.ofInt (f)))], [], M)) rfl ?_
  have lp4 : ∀ fu4 : Nat, ∀ (y4_2 : Int) (y4_3 : Int), w_in y4_2 → w_in y4_3 → y4_2 = 0 ∨ y4_2 = 1 → (if y4_3 < (I 65) then (I 65) - y4_3 else 0) < (fu4 : Int) → w_W (z_P L xs) (d + 1) 44 (4, [(0, .ref 12), (1, .int (Int32.ofInt (f))), (2, .int (Int32.ofInt (y4_2))), (3, .int (Int32.ofInt (y4_3)))], [], M) (c_pastBlanks_Q fr X u l I A B C M f) := by
    intro fu4
    induction fu4 with
    | zero =>
      intro y4_2 y4_3 ⟨ra_y4_2, rb_y4_2⟩ ⟨ra_y4_3, rb_y4_3⟩ hi4_0 hn4
      exfalso
      omega
    | succ fu4 ih4 =>
      intro y4_2 y4_3 ⟨ra_y4_2, rb_y4_2⟩ ⟨ra_y4_3, rb_y4_3⟩ hi4_0 hn4
      refine w_adv (n := 2) (F' := (6, [(0, .ref 12), (1, .int (Int32.ofInt (f))), (2, .int (Int32.ofInt (y4_2))), (3, .int (Int32.ofInt (y4_3)))], [.ref 12, .int (Int32.ofInt (y4_3))], M)) rfl ?_
      refine w_gf (v := .ref 1) hR rfl rfl rfl rfl ?_
      refine w_call (cm := 45) (as := [(0, .ref 1)]) (rest := [.int (Int32.ofInt (y4_3))]) (o := some (6, 1)) rfl (w_fitR hR rfl) (c_len hR) (fun r1 M2 q3 => ?_)
      rcases q3 with ⟨e4, e5, f6⟩
      rw [e4, e5]
      replace f6 : -2147483648 ≤ (I 65) ∧ (I 65) ≤ 2147483647 := f6
      obtain ⟨n7, n8⟩ := id f6
      clear f6
      show w_W _ _ _ (12, [(0, .ref 12), (1, .int (Int32.ofInt (f))), (2, .int (Int32.ofInt (y4_2))), (3, .int (Int32.ofInt (y4_3)))], [.int (Int32.ofInt ((I 65))), .int (Int32.ofInt (y4_3))], M) _
      refine w_br2 (a := y4_3) (b := (I 65)) rfl rfl ⟨by omega, by omega⟩ ⟨by omega, by omega⟩ (fun h9 => ?_) (fun h9 => ?_)
      · have h9 : y4_3 ≥ (I 65) := h9
        show w_W _ _ _ (93, [(0, .ref 12), (1, .int (Int32.ofInt (f))), (2, .int (Int32.ofInt (y4_2))), (3, .int (Int32.ofInt (y4_3)))], [], M) _
        refine w_adv (n := 1) (F' := (94, [(0, .ref 12), (1, .int (Int32.ofInt (f))), (2, .int (Int32.ofInt (y4_2))), (3, .int (Int32.ofInt (y4_3)))], [.ref 12], M)) rfl ?_
        refine w_gf (v := .ref 1) hR rfl rfl rfl rfl ?_
        refine w_call (cm := 45) (as := [(0, .ref 1)]) (rest := []) (o := some (6, 1)) rfl (w_fitR hR rfl) (c_len hR) (fun r10 M11 q12 => ?_)
        rcases q12 with ⟨e13, e14, f15⟩
        rw [e13, e14]
        replace f15 : -2147483648 ≤ (I 65) ∧ (I 65) ≤ 2147483647 := f15
        obtain ⟨n16, n17⟩ := id f15
        clear f15
        show w_W _ _ _ (100, [(0, .ref 12), (1, .int (Int32.ofInt (f))), (2, .int (Int32.ofInt (y4_2))), (3, .int (Int32.ofInt (y4_3)))], [.int (Int32.ofInt ((I 65)))], M) _
        refine w_fin (r := .inl (some ((I 65)))) (M' := M) rfl ?_
        exact ⟨(I 65), rfl, ⟨by omega, by omega⟩, rfl⟩
      · have h9 : ¬ (y4_3 ≥ (I 65)) := h9
        show w_W _ _ _ (15, [(0, .ref 12), (1, .int (Int32.ofInt (f))), (2, .int (Int32.ofInt (y4_2))), (3, .int (Int32.ofInt (y4_3)))], [], M) _
        refine w_adv (n := 1) (F' := (16, [(0, .ref 12), (1, .int (Int32.ofInt (f))), (2, .int (Int32.ofInt (y4_2))), (3, .int (Int32.ofInt (y4_3)))], [.ref 12], M)) rfl ?_
        refine w_gf (v := .ref 1) hR rfl rfl rfl rfl ?_
        refine w_adv (n := 1) (F' := (20, [(0, .ref 12), (1, .int (Int32.ofInt (f))), (2, .int (Int32.ofInt (y4_2))), (3, .int (Int32.ofInt (y4_3)))], [.int (Int32.ofInt (y4_3)), .ref 1], M)) rfl ?_
        refine w_call (cm := 46) (as := [(0, .ref 1), (1, .int (Int32.ofInt (y4_3)))]) (rest := []) (o := some (6, 1)) rfl (w_fitR hR rfl) (c_byteAt (y4_3) hR (show 1 ≤ d by omega) ⟨by omega, by omega⟩) (fun r18 M19 q20 => ?_)
        rcases q20 with ⟨v21, e22, ⟨r23, r24⟩, e25⟩
        rw [e22, e25]
        show w_W _ _ _ (23, [(0, .ref 12), (1, .int (Int32.ofInt (f))), (2, .int (Int32.ofInt (y4_2))), (3, .int (Int32.ofInt (y4_3)))], [.int (Int32.ofInt (v21))], M) _
        refine w_adv (n := 2) (F' := (26, [(4, .int (Int32.ofInt (v21))), (0, .ref 12), (1, .int (Int32.ofInt (f))), (2, .int (Int32.ofInt (y4_2))), (3, .int (Int32.ofInt (y4_3)))], [.int (Int32.ofInt (y4_2))], M)) rfl ?_
        refine w_br1 (a := y4_2) rfl rfl ⟨by omega, by omega⟩ (fun h26 => ?_) (fun h26 => ?_)
        · have h26 : y4_2 = 0 := h26
          show w_W _ _ _ (45, [(4, .int (Int32.ofInt (v21))), (0, .ref 12), (1, .int (Int32.ofInt (f))), (2, .int (Int32.ofInt (y4_2))), (3, .int (Int32.ofInt (y4_3)))], [], M) _
          refine w_adv (n := 2) (F' := (49, [(4, .int (Int32.ofInt (v21))), (0, .ref 12), (1, .int (Int32.ofInt (f))), (2, .int (Int32.ofInt (y4_2))), (3, .int (Int32.ofInt (y4_3)))], [.int (Int32.ofInt (37)), .int (Int32.ofInt (v21))], M)) rfl ?_
          refine w_br2 (a := v21) (b := 37) rfl rfl ⟨by omega, by omega⟩ ⟨by omega, by omega⟩ (fun h27 => ?_) (fun h27 => ?_)
          · have h27 : ¬ v21 = 37 := h27
            show w_W _ _ _ (57, [(4, .int (Int32.ofInt (v21))), (0, .ref 12), (1, .int (Int32.ofInt (f))), (2, .int (Int32.ofInt (y4_2))), (3, .int (Int32.ofInt (y4_3)))], [], M) _
            refine w_adv (n := 2) (F' := (61, [(4, .int (Int32.ofInt (v21))), (0, .ref 12), (1, .int (Int32.ofInt (f))), (2, .int (Int32.ofInt (y4_2))), (3, .int (Int32.ofInt (y4_3)))], [.int (Int32.ofInt (9)), .int (Int32.ofInt (v21))], M)) rfl ?_
            refine w_br2 (a := v21) (b := 9) rfl rfl ⟨by omega, by omega⟩ ⟨by omega, by omega⟩ (fun h28 => ?_) (fun h28 => ?_)
            · have h28 : v21 = 9 := h28
              show w_W _ _ _ (87, [(4, .int (Int32.ofInt (v21))), (0, .ref 12), (1, .int (Int32.ofInt (f))), (2, .int (Int32.ofInt (y4_2))), (3, .int (Int32.ofInt (y4_3)))], [], M) _
              refine w_inc (nL := 5) (a := y4_3) rfl rfl rfl (by decide) ?_
              refine w_adv (n := 1) (F' := (4, [(3, .int (Int32.ofInt (y4_3 + 1))), (4, .int (Int32.ofInt (v21))), (0, .ref 12), (1, .int (Int32.ofInt (f))), (2, .int (Int32.ofInt (y4_2)))], [], M)) rfl ?_
              refine w_ls (ls := [(0, .ref 12), (1, .int (Int32.ofInt (f))), (2, .int (Int32.ofInt (y4_2))), (3, .int (Int32.ofInt (y4_3 + 1)))]) (show List.Nodup [0, 1, 2, 3] by decide) (show List.Nodup [3, 4, 0, 1, 2] by decide) (List.forall_mem_cons.mpr ⟨(List.Mem.tail _ (List.Mem.tail _ (List.Mem.head _))), (List.forall_mem_cons.mpr ⟨(List.Mem.tail _ (List.Mem.tail _ (List.Mem.tail _ (List.Mem.head _)))), (List.forall_mem_cons.mpr ⟨(List.Mem.tail _ (List.Mem.tail _ (List.Mem.tail _ (List.Mem.tail _ (List.Mem.head _))))), (List.forall_mem_cons.mpr ⟨(List.Mem.head _), (fun _ h => by cases h)⟩)⟩)⟩)⟩) ?_
              exact ih4  (y4_2) (y4_3 + 1) ⟨by omega, by omega⟩ ⟨by omega, by omega⟩ (show y4_2 = 0 ∨ y4_2 = 1 by omega) (show (if (y4_3 + 1) < (I 65) then (I 65) - (y4_3 + 1) else 0) < (fu4 : Int) by omega)
            · have h28 : ¬ (v21 = 9) := h28
              show w_W _ _ _ (64, [(4, .int (Int32.ofInt (v21))), (0, .ref 12), (1, .int (Int32.ofInt (f))), (2, .int (Int32.ofInt (y4_2))), (3, .int (Int32.ofInt (y4_3)))], [], M) _
              refine w_adv (n := 2) (F' := (68, [(4, .int (Int32.ofInt (v21))), (0, .ref 12), (1, .int (Int32.ofInt (f))), (2, .int (Int32.ofInt (y4_2))), (3, .int (Int32.ofInt (y4_3)))], [.int (Int32.ofInt (10)), .int (Int32.ofInt (v21))], M)) rfl ?_
              refine w_br2 (a := v21) (b := 10) rfl rfl ⟨by omega, by omega⟩ ⟨by omega, by omega⟩ (fun h29 => ?_) (fun h29 => ?_)
              · have h29 : v21 = 10 := h29
                show w_W _ _ _ (87, [(4, .int (Int32.ofInt (v21))), (0, .ref 12), (1, .int (Int32.ofInt (f))), (2, .int (Int32.ofInt (y4_2))), (3, .int (Int32.ofInt (y4_3)))], [], M) _
                refine w_inc (nL := 5) (a := y4_3) rfl rfl rfl (by decide) ?_
                refine w_adv (n := 1) (F' := (4, [(3, .int (Int32.ofInt (y4_3 + 1))), (4, .int (Int32.ofInt (v21))), (0, .ref 12), (1, .int (Int32.ofInt (f))), (2, .int (Int32.ofInt (y4_2)))], [], M)) rfl ?_
                refine w_ls (ls := [(0, .ref 12), (1, .int (Int32.ofInt (f))), (2, .int (Int32.ofInt (y4_2))), (3, .int (Int32.ofInt (y4_3 + 1)))]) (show List.Nodup [0, 1, 2, 3] by decide) (show List.Nodup [3, 4, 0, 1, 2] by decide) (List.forall_mem_cons.mpr ⟨(List.Mem.tail _ (List.Mem.tail _ (List.Mem.head _))), (List.forall_mem_cons.mpr ⟨(List.Mem.tail _ (List.Mem.tail _ (List.Mem.tail _ (List.Mem.head _)))), (List.forall_mem_cons.mpr ⟨(List.Mem.tail _ (List.Mem.tail _ (List.Mem.tail _ (List.Mem.tail _ (List.Mem.head _))))), (List.forall_mem_cons.mpr ⟨(List.Mem.head _), (fun _ h => by cases h)⟩)⟩)⟩)⟩) ?_
                exact ih4  (y4_2) (y4_3 + 1) ⟨by omega, by omega⟩ ⟨by omega, by omega⟩ (show y4_2 = 0 ∨ y4_2 = 1 by omega) (show (if (y4_3 + 1) < (I 65) then (I 65) - (y4_3 + 1) else 0) < (fu4 : Int) by omega)
              · have h29 : ¬ (v21 = 10) := h29
                show w_W _ _ _ (71, [(4, .int (Int32.ofInt (v21))), (0, .ref 12), (1, .int (Int32.ofInt (f))), (2, .int (Int32.ofInt (y4_2))), (3, .int (Int32.ofInt (y4_3)))], [], M) _
                refine w_adv (n := 2) (F' := (75, [(4, .int (Int32.ofInt (v21))), (0, .ref 12), (1, .int (Int32.ofInt (f))), (2, .int (Int32.ofInt (y4_2))), (3, .int (Int32.ofInt (y4_3)))], [.int (Int32.ofInt (13)), .int (Int32.ofInt (v21))], M)) rfl ?_
                refine w_br2 (a := v21) (b := 13) rfl rfl ⟨by omega, by omega⟩ ⟨by omega, by omega⟩ (fun h30 => ?_) (fun h30 => ?_)
                · have h30 : v21 = 13 := h30
                  show w_W _ _ _ (87, [(4, .int (Int32.ofInt (v21))), (0, .ref 12), (1, .int (Int32.ofInt (f))), (2, .int (Int32.ofInt (y4_2))), (3, .int (Int32.ofInt (y4_3)))], [], M) _
                  refine w_inc (nL := 5) (a := y4_3) rfl rfl rfl (by decide) ?_
                  refine w_adv (n := 1) (F' := (4, [(3, .int (Int32.ofInt (y4_3 + 1))), (4, .int (Int32.ofInt (v21))), (0, .ref 12), (1, .int (Int32.ofInt (f))), (2, .int (Int32.ofInt (y4_2)))], [], M)) rfl ?_
                  refine w_ls (ls := [(0, .ref 12), (1, .int (Int32.ofInt (f))), (2, .int (Int32.ofInt (y4_2))), (3, .int (Int32.ofInt (y4_3 + 1)))]) (show List.Nodup [0, 1, 2, 3] by decide) (show List.Nodup [3, 4, 0, 1, 2] by decide) (List.forall_mem_cons.mpr ⟨(List.Mem.tail _ (List.Mem.tail _ (List.Mem.head _))), (List.forall_mem_cons.mpr ⟨(List.Mem.tail _ (List.Mem.tail _ (List.Mem.tail _ (List.Mem.head _)))), (List.forall_mem_cons.mpr ⟨(List.Mem.tail _ (List.Mem.tail _ (List.Mem.tail _ (List.Mem.tail _ (List.Mem.head _))))), (List.forall_mem_cons.mpr ⟨(List.Mem.head _), (fun _ h => by cases h)⟩)⟩)⟩)⟩) ?_
                  exact ih4  (y4_2) (y4_3 + 1) ⟨by omega, by omega⟩ ⟨by omega, by omega⟩ (show y4_2 = 0 ∨ y4_2 = 1 by omega) (show (if (y4_3 + 1) < (I 65) then (I 65) - (y4_3 + 1) else 0) < (fu4 : Int) by omega)
                · have h30 : ¬ (v21 = 13) := h30
                  show w_W _ _ _ (78, [(4, .int (Int32.ofInt (v21))), (0, .ref 12), (1, .int (Int32.ofInt (f))), (2, .int (Int32.ofInt (y4_2))), (3, .int (Int32.ofInt (y4_3)))], [], M) _
                  refine w_adv (n := 2) (F' := (82, [(4, .int (Int32.ofInt (v21))), (0, .ref 12), (1, .int (Int32.ofInt (f))), (2, .int (Int32.ofInt (y4_2))), (3, .int (Int32.ofInt (y4_3)))], [.int (Int32.ofInt (32)), .int (Int32.ofInt (v21))], M)) rfl ?_
                  refine w_br2 (a := v21) (b := 32) rfl rfl ⟨by omega, by omega⟩ ⟨by omega, by omega⟩ (fun h31 => ?_) (fun h31 => ?_)
                  · have h31 : v21 = 32 := h31
                    show w_W _ _ _ (87, [(4, .int (Int32.ofInt (v21))), (0, .ref 12), (1, .int (Int32.ofInt (f))), (2, .int (Int32.ofInt (y4_2))), (3, .int (Int32.ofInt (y4_3)))], [], M) _
                    refine w_inc (nL := 5) (a := y4_3) rfl rfl rfl (by decide) ?_
                    refine w_adv (n := 1) (F' := (4, [(3, .int (Int32.ofInt (y4_3 + 1))), (4, .int (Int32.ofInt (v21))), (0, .ref 12), (1, .int (Int32.ofInt (f))), (2, .int (Int32.ofInt (y4_2)))], [], M)) rfl ?_
                    refine w_ls (ls := [(0, .ref 12), (1, .int (Int32.ofInt (f))), (2, .int (Int32.ofInt (y4_2))), (3, .int (Int32.ofInt (y4_3 + 1)))]) (show List.Nodup [0, 1, 2, 3] by decide) (show List.Nodup [3, 4, 0, 1, 2] by decide) (List.forall_mem_cons.mpr ⟨(List.Mem.tail _ (List.Mem.tail _ (List.Mem.head _))), (List.forall_mem_cons.mpr ⟨(List.Mem.tail _ (List.Mem.tail _ (List.Mem.tail _ (List.Mem.head _)))), (List.forall_mem_cons.mpr ⟨(List.Mem.tail _ (List.Mem.tail _ (List.Mem.tail _ (List.Mem.tail _ (List.Mem.head _))))), (List.forall_mem_cons.mpr ⟨(List.Mem.head _), (fun _ h => by cases h)⟩)⟩)⟩)⟩) ?_
                    exact ih4  (y4_2) (y4_3 + 1) ⟨by omega, by omega⟩ ⟨by omega, by omega⟩ (show y4_2 = 0 ∨ y4_2 = 1 by omega) (show (if (y4_3 + 1) < (I 65) then (I 65) - (y4_3 + 1) else 0) < (fu4 : Int) by omega)
                  · have h31 : ¬ (v21 = 32) := h31
                    show w_W _ _ _ (85, [(4, .int (Int32.ofInt (v21))), (0, .ref 12), (1, .int (Int32.ofInt (f))), (2, .int (Int32.ofInt (y4_2))), (3, .int (Int32.ofInt (y4_3)))], [], M) _
                    refine w_adv (n := 1) (F' := (86, [(4, .int (Int32.ofInt (v21))), (0, .ref 12), (1, .int (Int32.ofInt (f))), (2, .int (Int32.ofInt (y4_2))), (3, .int (Int32.ofInt (y4_3)))], [.int (Int32.ofInt (y4_3))], M)) rfl ?_
                    refine w_fin (r := .inl (some (y4_3))) (M' := M) rfl ?_
                    exact ⟨y4_3, rfl, ⟨by omega, by omega⟩, rfl⟩
          · have h27 : ¬ (¬ v21 = 37) := h27
            show w_W _ _ _ (52, [(4, .int (Int32.ofInt (v21))), (0, .ref 12), (1, .int (Int32.ofInt (f))), (2, .int (Int32.ofInt (y4_2))), (3, .int (Int32.ofInt (y4_3)))], [], M) _
            refine w_adv (n := 3) (F' := (87, [(2, .int (Int32.ofInt (1))), (4, .int (Int32.ofInt (v21))), (0, .ref 12), (1, .int (Int32.ofInt (f))), (3, .int (Int32.ofInt (y4_3)))], [], M)) rfl ?_
            refine w_inc (nL := 5) (a := y4_3) rfl rfl rfl (by decide) ?_
            refine w_adv (n := 1) (F' := (4, [(3, .int (Int32.ofInt (y4_3 + 1))), (2, .int (Int32.ofInt (1))), (4, .int (Int32.ofInt (v21))), (0, .ref 12), (1, .int (Int32.ofInt (f)))], [], M)) rfl ?_
            refine w_ls (ls := [(0, .ref 12), (1, .int (Int32.ofInt (f))), (2, .int (Int32.ofInt (1))), (3, .int (Int32.ofInt (y4_3 + 1)))]) (show List.Nodup [0, 1, 2, 3] by decide) (show List.Nodup [3, 2, 4, 0, 1] by decide) (List.forall_mem_cons.mpr ⟨(List.Mem.tail _ (List.Mem.tail _ (List.Mem.tail _ (List.Mem.head _)))), (List.forall_mem_cons.mpr ⟨(List.Mem.tail _ (List.Mem.tail _ (List.Mem.tail _ (List.Mem.tail _ (List.Mem.head _))))), (List.forall_mem_cons.mpr ⟨(List.Mem.tail _ (List.Mem.head _)), (List.forall_mem_cons.mpr ⟨(List.Mem.head _), (fun _ h => by cases h)⟩)⟩)⟩)⟩) ?_
            exact ih4  (1) (y4_3 + 1) ⟨by omega, by omega⟩ ⟨by omega, by omega⟩ (show (1 : Int) = 0 ∨ (1 : Int) = 1 by omega) (show (if (y4_3 + 1) < (I 65) then (I 65) - (y4_3 + 1) else 0) < (fu4 : Int) by omega)
        · have h26 : ¬ (y4_2 = 0) := h26
          show w_W _ _ _ (29, [(4, .int (Int32.ofInt (v21))), (0, .ref 12), (1, .int (Int32.ofInt (f))), (2, .int (Int32.ofInt (y4_2))), (3, .int (Int32.ofInt (y4_3)))], [], M) _
          refine w_adv (n := 2) (F' := (33, [(4, .int (Int32.ofInt (v21))), (0, .ref 12), (1, .int (Int32.ofInt (f))), (2, .int (Int32.ofInt (y4_2))), (3, .int (Int32.ofInt (y4_3)))], [.int (Int32.ofInt (10)), .int (Int32.ofInt (v21))], M)) rfl ?_
          refine w_br2 (a := v21) (b := 10) rfl rfl ⟨by omega, by omega⟩ ⟨by omega, by omega⟩ (fun h32 => ?_) (fun h32 => ?_)
          · have h32 : v21 = 10 := h32
            show w_W _ _ _ (40, [(4, .int (Int32.ofInt (v21))), (0, .ref 12), (1, .int (Int32.ofInt (f))), (2, .int (Int32.ofInt (y4_2))), (3, .int (Int32.ofInt (y4_3)))], [], M) _
            refine w_adv (n := 3) (F' := (87, [(2, .int (Int32.ofInt (0))), (4, .int (Int32.ofInt (v21))), (0, .ref 12), (1, .int (Int32.ofInt (f))), (3, .int (Int32.ofInt (y4_3)))], [], M)) rfl ?_
            refine w_inc (nL := 5) (a := y4_3) rfl rfl rfl (by decide) ?_
            refine w_adv (n := 1) (F' := (4, [(3, .int (Int32.ofInt (y4_3 + 1))), (2, .int (Int32.ofInt (0))), (4, .int (Int32.ofInt (v21))), (0, .ref 12), (1, .int (Int32.ofInt (f)))], [], M)) rfl ?_
            refine w_ls (ls := [(0, .ref 12), (1, .int (Int32.ofInt (f))), (2, .int (Int32.ofInt (0))), (3, .int (Int32.ofInt (y4_3 + 1)))]) (show List.Nodup [0, 1, 2, 3] by decide) (show List.Nodup [3, 2, 4, 0, 1] by decide) (List.forall_mem_cons.mpr ⟨(List.Mem.tail _ (List.Mem.tail _ (List.Mem.tail _ (List.Mem.head _)))), (List.forall_mem_cons.mpr ⟨(List.Mem.tail _ (List.Mem.tail _ (List.Mem.tail _ (List.Mem.tail _ (List.Mem.head _))))), (List.forall_mem_cons.mpr ⟨(List.Mem.tail _ (List.Mem.head _)), (List.forall_mem_cons.mpr ⟨(List.Mem.head _), (fun _ h => by cases h)⟩)⟩)⟩)⟩) ?_
            exact ih4  (0) (y4_3 + 1) ⟨by omega, by omega⟩ ⟨by omega, by omega⟩ (show (0 : Int) = 0 ∨ (0 : Int) = 1 by omega) (show (if (y4_3 + 1) < (I 65) then (I 65) - (y4_3 + 1) else 0) < (fu4 : Int) by omega)
          · have h32 : ¬ (v21 = 10) := h32
            show w_W _ _ _ (36, [(4, .int (Int32.ofInt (v21))), (0, .ref 12), (1, .int (Int32.ofInt (f))), (2, .int (Int32.ofInt (y4_2))), (3, .int (Int32.ofInt (y4_3)))], [], M) _
            refine w_adv (n := 4) (F' := (87, [(2, .int (Int32.ofInt (1))), (4, .int (Int32.ofInt (v21))), (0, .ref 12), (1, .int (Int32.ofInt (f))), (3, .int (Int32.ofInt (y4_3)))], [], M)) rfl ?_
            refine w_inc (nL := 5) (a := y4_3) rfl rfl rfl (by decide) ?_
            refine w_adv (n := 1) (F' := (4, [(3, .int (Int32.ofInt (y4_3 + 1))), (2, .int (Int32.ofInt (1))), (4, .int (Int32.ofInt (v21))), (0, .ref 12), (1, .int (Int32.ofInt (f)))], [], M)) rfl ?_
            refine w_ls (ls := [(0, .ref 12), (1, .int (Int32.ofInt (f))), (2, .int (Int32.ofInt (1))), (3, .int (Int32.ofInt (y4_3 + 1)))]) (show List.Nodup [0, 1, 2, 3] by decide) (show List.Nodup [3, 2, 4, 0, 1] by decide) (List.forall_mem_cons.mpr ⟨(List.Mem.tail _ (List.Mem.tail _ (List.Mem.tail _ (List.Mem.head _)))), (List.forall_mem_cons.mpr ⟨(List.Mem.tail _ (List.Mem.tail _ (List.Mem.tail _ (List.Mem.tail _ (List.Mem.head _))))), (List.forall_mem_cons.mpr ⟨(List.Mem.tail _ (List.Mem.head _)), (List.forall_mem_cons.mpr ⟨(List.Mem.head _), (fun _ h => by cases h)⟩)⟩)⟩)⟩) ?_
            exact ih4  (1) (y4_3 + 1) ⟨by omega, by omega⟩ ⟨by omega, by omega⟩ (show (1 : Int) = 0 ∨ (1 : Int) = 1 by omega) (show (if (y4_3 + 1) < (I 65) then (I 65) - (y4_3 + 1) else 0) < (fu4 : Int) by omega)
  refine w_ls (ls := [(0, .ref 12), (1, .int (Int32.ofInt (f))), (2, .int (Int32.ofInt (0))), (3, .int (Int32.ofInt (f)))]) (show List.Nodup [0, 1, 2, 3] by decide) (show List.Nodup [3, 2, 0, 1] by decide) (List.forall_mem_cons.mpr ⟨(List.Mem.tail _ (List.Mem.tail _ (List.Mem.head _))), (List.forall_mem_cons.mpr ⟨(List.Mem.tail _ (List.Mem.tail _ (List.Mem.tail _ (List.Mem.head _)))), (List.forall_mem_cons.mpr ⟨(List.Mem.tail _ (List.Mem.head _)), (List.forall_mem_cons.mpr ⟨(List.Mem.head _), (fun _ h => by cases h)⟩)⟩)⟩)⟩) ?_
  exact lp4 (((if f < (I 65) then (I 65) - f else 0) : Int).toNat + 1)  (0) (f) ⟨by omega, by omega⟩ ⟨by omega, by omega⟩ (show (0 : Int) = 0 ∨ (0 : Int) = 1 by omega) (show (if f < (I 65) then (I 65) - f else 0) < ((((if f < (I 65) then (I 65) - f else 0) : Int).toNat + 1 : Nat) : Int) by omega)
def c_Tokens_add_Q (fr : Nat → Bool) (X : Nat → Option (q_C (Nat → Int32))) (u l : Nat) (I : Nat → Int) (A : Nat → Int → Int) (B C : Nat → Nat) (M : w_M) (k : Int) (p : Int) (v : Int) : w_X → w_M → Prop := fun r M' => (∃ g13 : Int → Int, ∃ g14 : Int → Int, ∃ g15 : Int → Int, (r = .inl none) ∧ (w_Rep w_TC fr X u l (w_up I 773 ((I 773) + 1)) (w_upF (w_upF (w_upF A 13 g13) 14 g14) 15 g15) B C M'))
set_option maxHeartbeats 100000000 in
set_option maxRecDepth 100000 in
theorem c_Tokens_add {L : Nat} {xs : Nat → Int32} {d : Nat} {fr : Nat → Bool} {X : Nat → Option (q_C (Nat → Int32))} {u l : Nat} {I : Nat → Int} {A : Nat → Int → Int} {B C : Nat → Nat} {M : w_M} (k : Int) (p : Int) (v : Int) (hR : w_Rep w_TC fr X u l I A B C M) (hd : 1 ≤ d) (r_k : w_in k) (r_p : w_in p) (r_v : w_in v) (hT : 0 ≤ (I 773) ∧ (I 773) ≤ 1501) : w_W (z_P L xs) d 52 (0, [(0, .ref 12), (1, .int (Int32.ofInt (k))), (2, .int (Int32.ofInt (p))), (3, .int (Int32.ofInt (v)))], [], M) (c_Tokens_add_Q fr X u l I A B C M k p v) := by
  obtain ⟨ra_k, rb_k⟩ := r_k
  obtain ⟨ra_p, rb_p⟩ := r_p
  obtain ⟨ra_v, rb_v⟩ := r_v
  obtain ⟨d, rfl⟩ : ∃ d0, d = d0 + 1 := ⟨d - 1, by omega⟩
  refine w_adv (n := 1) (F' := (1, [(0, .ref 12), (1, .int (Int32.ofInt (k))), (2, .int (Int32.ofInt (p))), (3, .int (Int32.ofInt (v)))], [.ref 12], M)) rfl ?_
  refine w_gf (v := .ref 13) hR rfl rfl rfl rfl ?_
  refine w_adv (n := 1) (F' := (5, [(0, .ref 12), (1, .int (Int32.ofInt (k))), (2, .int (Int32.ofInt (p))), (3, .int (Int32.ofInt (v)))], [.ref 12, .ref 13], M)) rfl ?_
  refine w_gf (v := .int (Int32.ofInt ((I 773)))) hR rfl rfl rfl rfl ?_
  obtain ⟨r1, r2⟩ : -2147483648 ≤ (I 773) ∧ (I 773) ≤ 2147483647 := hR.ri 773
  refine w_adv (n := 1) (F' := (9, [(0, .ref 12), (1, .int (Int32.ofInt (k))), (2, .int (Int32.ofInt (p))), (3, .int (Int32.ofInt (v)))], [.int (Int32.ofInt (k)), .int (Int32.ofInt ((I 773))), .ref 13], M)) rfl ?_
  refine w_call (cm := 25) (as := [(0, .ref 13), (1, .int (Int32.ofInt ((I 773)))), (2, .int (Int32.ofInt (k)))]) (rest := []) (o := none) rfl (trivial) (c_set ((I 773)) (k) 13 1502 rfl (by decide) hR ⟨by omega, by omega⟩ ⟨by omega, by omega⟩) (fun r3 M4 q5 => ?_)
  rcases q5 with ⟨e6, hR5a⟩
  rw [e6]
  replace hR5a : w_Rep w_TC fr X u l I (w_upF A 13 (w_upG 1502 (A 13) ((I 773)) (k))) B C M4 := hR5a
  show w_W _ _ _ (12, [(0, .ref 12), (1, .int (Int32.ofInt (k))), (2, .int (Int32.ofInt (p))), (3, .int (Int32.ofInt (v)))], [], M4) _
  refine w_adv (n := 1) (F' := (13, [(0, .ref 12), (1, .int (Int32.ofInt (k))), (2, .int (Int32.ofInt (p))), (3, .int (Int32.ofInt (v)))], [.ref 12], M4)) rfl ?_
  refine w_gf (v := .ref 14) hR5a rfl rfl rfl rfl ?_
  refine w_adv (n := 1) (F' := (17, [(0, .ref 12), (1, .int (Int32.ofInt (k))), (2, .int (Int32.ofInt (p))), (3, .int (Int32.ofInt (v)))], [.ref 12, .ref 14], M4)) rfl ?_
  refine w_gf (v := .int (Int32.ofInt ((I 773)))) hR5a rfl rfl rfl rfl ?_
  refine w_adv (n := 1) (F' := (21, [(0, .ref 12), (1, .int (Int32.ofInt (k))), (2, .int (Int32.ofInt (p))), (3, .int (Int32.ofInt (v)))], [.int (Int32.ofInt (p)), .int (Int32.ofInt ((I 773))), .ref 14], M4)) rfl ?_
  refine w_call (cm := 25) (as := [(0, .ref 14), (1, .int (Int32.ofInt ((I 773)))), (2, .int (Int32.ofInt (p)))]) (rest := []) (o := none) rfl (trivial) (c_set ((I 773)) (p) 14 1502 rfl (by decide) hR5a ⟨by omega, by omega⟩ ⟨by omega, by omega⟩) (fun r7 M8 q9 => ?_)
  rcases q9 with ⟨e10, hR9a⟩
  rw [e10]
  replace hR9a : w_Rep w_TC fr X u l I (w_upF (w_upF A 13 (w_upG 1502 (A 13) ((I 773)) (k))) 14 (w_upG 1502 (A 14) ((I 773)) (p))) B C M8 := hR9a
  show w_W _ _ _ (24, [(0, .ref 12), (1, .int (Int32.ofInt (k))), (2, .int (Int32.ofInt (p))), (3, .int (Int32.ofInt (v)))], [], M8) _
  refine w_adv (n := 1) (F' := (25, [(0, .ref 12), (1, .int (Int32.ofInt (k))), (2, .int (Int32.ofInt (p))), (3, .int (Int32.ofInt (v)))], [.ref 12], M8)) rfl ?_
  refine w_gf (v := .ref 15) hR9a rfl rfl rfl rfl ?_
  refine w_adv (n := 1) (F' := (29, [(0, .ref 12), (1, .int (Int32.ofInt (k))), (2, .int (Int32.ofInt (p))), (3, .int (Int32.ofInt (v)))], [.ref 12, .ref 15], M8)) rfl ?_
  refine w_gf (v := .int (Int32.ofInt ((I 773)))) hR9a rfl rfl rfl rfl ?_
  refine w_adv (n := 1) (F' := (33, [(0, .ref 12), (1, .int (Int32.ofInt (k))), (2, .int (Int32.ofInt (p))), (3, .int (Int32.ofInt (v)))], [.int (Int32.ofInt (v)), .int (Int32.ofInt ((I 773))), .ref 15], M8)) rfl ?_
  refine w_call (cm := 25) (as := [(0, .ref 15), (1, .int (Int32.ofInt ((I 773)))), (2, .int (Int32.ofInt (v)))]) (rest := []) (o := none) rfl (trivial) (c_set ((I 773)) (v) 15 1502 rfl (by decide) hR9a ⟨by omega, by omega⟩ ⟨by omega, by omega⟩) (fun r11 M12 q13 => ?_)
  rcases q13 with ⟨e14, hR13a⟩
  rw [e14]
  replace hR13a : w_Rep w_TC fr X u l I (w_upF (w_upF (w_upF A 13 (w_upG 1502 (A 13) ((I 773)) (k))) 14 (w_upG 1502 (A 14) ((I 773)) (p))) 15 (w_upG 1502 (A 15) ((I 773)) (v))) B C M12 := hR13a
  show w_W _ _ _ (36, [(0, .ref 12), (1, .int (Int32.ofInt (k))), (2, .int (Int32.ofInt (p))), (3, .int (Int32.ofInt (v)))], [], M12) _
  refine w_adv (n := 2) (F' := (38, [(0, .ref 12), (1, .int (Int32.ofInt (k))), (2, .int (Int32.ofInt (p))), (3, .int (Int32.ofInt (v)))], [.ref 12, .ref 12], M12)) rfl ?_
  refine w_gf (v := .int (Int32.ofInt ((I 773)))) hR13a rfl rfl rfl rfl ?_
  refine w_adv (n := 1) (F' := (42, [(0, .ref 12), (1, .int (Int32.ofInt (k))), (2, .int (Int32.ofInt (p))), (3, .int (Int32.ofInt (v)))], [.int (Int32.ofInt (1)), .int (Int32.ofInt ((I 773))), .ref 12], M12)) rfl ?_
  refine w_add rfl ?_
  refine w_pf hR13a rfl rfl rfl rfl (show w_in ((I 773) + 1) from ⟨by omega, by omega⟩) (fun h => absurd h (by decide)) (fun M15 hR16 => ?_)
  replace hR16 : w_Rep w_TC fr X u l (w_up I 773 ((I 773) + 1)) (w_upF (w_upF (w_upF A 13 (w_upG 1502 (A 13) ((I 773)) (k))) 14 (w_upG 1502 (A 14) ((I 773)) (p))) 15 (w_upG 1502 (A 15) ((I 773)) (v))) B C M15 := hR16
  refine w_fin (r := .inl none) (M' := M15) rfl ?_
  exact ⟨(w_upG 1502 (A 13) ((I 773)) (k)), (w_upG 1502 (A 14) ((I 773)) (p)), (w_upG 1502 (A 15) ((I 773)) (v)), rfl, hR16⟩
