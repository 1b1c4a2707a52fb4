/-! TEXTS: calls on texts; Math.min. -/
theorem w_callT {P : y_P} {d mi : Nat} {Q : w_X → w_M → Prop} {ls : y_L} {M : w_M} {pc cm : Nat} {st rest : List Value} {as : y_L} {Q1 : w_X → w_M → Prop} (he : q_ent P mi pc st M = some (cm, (0, as, [], M), rest)) (h : w_W P d cm (0, as, [], M) Q1) (h2 : ∀ r M', Q1 r M' → w_aft P (d + 1) mi pc ls rest r M' Q) : w_W P (d + 1) mi (pc, ls, st, M) Q := by
  obtain ⟨r, M', h3, h4⟩ := h
  have h5 := h2 r M' h4
  match r, h3, h5 with
  | .inl none, h3, h5 =>
    obtain ⟨r', M2, h6, h7⟩ := h5
    exact ⟨r', M2, q_Runs.call he h3 h6, h7⟩
  | .inl (some v), h3, h5 =>
    obtain ⟨r', M2, h6, h7⟩ := h5
    exact ⟨r', M2, q_Runs.call he h3 h6, h7⟩
  | .inr a, h3, h5 =>
    unfold w_aft at h5
    dsimp only at h5
    cases hh : y_han P mi pc with
    | none =>
      rw [hh] at h5
      exact ⟨.inr a, M', q_Runs.callX he hh h3, h5⟩
    | some q =>
      obtain ⟨hp, cE⟩ := q
      rw [hh] at h5
      obtain ⟨⟨fs, hM2⟩, r', M2, h6, h7⟩ := h5
      exact ⟨r', M2, q_Runs.callH he hh h3 hM2 h6, h7⟩
theorem w_math {P : y_P} {d mi : Nat} {Q : w_X → w_M → Prop} {ls : y_L} {pc idx len cm k ci : Nat} {v : Value} {st t : List Value} {M : w_M} (hins : y_ins P mi pc = some (.invokestatic idx, len)) (hc : y_cal P mi idx = some (5, cm, k, ci)) (hm : y_math cm st = some (v, t)) (hw : Nat.ble (y_words t) 8 = true) (h2 : w_W P d mi (pc + 3, ls, v :: t, M) Q) : w_W P d mi (pc, ls, st, M) Q := by
  obtain ⟨r, M2, ⟨n, h3⟩, h4⟩ := h2
  refine ⟨r, M2, ⟨n + 1, ?_⟩, h4⟩
  rw [q_run_s]
  unfold q_one
  dsimp only
  rw [hins]
  dsimp only
  unfold q_call
  rw [hc]
  dsimp only
  rw [hm]
  show (bif Nat.beq 5 3 then _ else bif Nat.beq 5 5 then (bif Nat.beq 1 1 && Nat.ble (y_words t) 8 then _ else _) else _) = _
  rw [show Nat.beq 5 3 = false from rfl, show Nat.beq 5 5 = true from rfl, show Nat.beq 1 1 = true from rfl, cond_false, cond_true, hw]
  exact h3
theorem w_min {P : y_P} {d mi : Nat} {Q : w_X → w_M → Prop} {ls : y_L} {pc idx len k ci : Nat} {x y : Int64} {t : List Value} {M : w_M} (hins : y_ins P mi pc = some (.invokestatic idx, len)) (hc : y_cal P mi idx = some (5, 0, k, ci)) (hw : Nat.ble (y_words t) 8 = true) (h2 : w_W P d mi (pc + 3, ls, .long (if y < x then y else x) :: t, M) Q) : w_W P d mi (pc, ls, .long y :: .long x :: t, M) Q := w_math hins hc rfl hw h2
def m_txF : List Int := [116, 114, 117, 101, 32, 102, 97, 108, 115, 101, 32, 110, 105, 108, 32, 124, 32, 110, 111, 109, 97, 116, 99, 104, 32, 102, 97, 105, 108, 117, 114, 101, 32, 122, 101, 114, 111, 32, 107, 105, 110, 100, 32, 97, 114, 105, 116, 121, 32, 102, 101, 97, 116, 117, 114, 101, 32]
set_option maxRecDepth 100000 in
theorem m_lenF {L : Nat} {xs : Nat → Int32} {d : Nat} {M : w_M} (hd : 2 ≤ d) : w_W (z_P L xs) d 8 (0, [(0, .ref 1000008)], [], M) (fun r M' => r = .inl (some 57) ∧ M' = M) := by
  obtain ⟨d, rfl⟩ : ∃ d0, d = d0 + 2 := ⟨d - 2, by omega⟩
  exact ⟨.inl (some 57), M, ⟨40, rfl⟩, rfl, rfl⟩
set_option maxRecDepth 100000 in
theorem m_chF {L : Nat} {xs : Nat → Int32} {d : Nat} {M : w_M} (hd : 3 ≤ d) (k : Int) (h0 : 0 ≤ k) (h1 : k < 57) : w_W (z_P L xs) d 10 (0, [(0, .ref 1000008), (1, .int (Int32.ofInt k))], [], M) (fun r M' => ∃ v : Int, r = .inl (some v) ∧ M' = M ∧ w_in v ∧ v = m_txF.getD k.toNat 0) := by
  obtain ⟨d, rfl⟩ : ∃ d0, d = d0 + 3 := ⟨d - 3, by omega⟩
  rcases (show k = 0 ∨ k = 1 ∨ k = 2 ∨ k = 3 ∨ k = 4 ∨ k = 5 ∨ k = 6 ∨ k = 7 ∨ k = 8 ∨ k = 9 ∨ k = 10 ∨ k = 11 ∨ k = 12 ∨ k = 13 ∨ k = 14 ∨ k = 15 ∨ k = 16 ∨ k = 17 ∨ k = 18 ∨ k = 19 ∨ k = 20 ∨ k = 21 ∨ k = 22 ∨ k = 23 ∨ k = 24 ∨ k = 25 ∨ k = 26 ∨ k = 27 ∨ k = 28 ∨ k = 29 ∨ k = 30 ∨ k = 31 ∨ k = 32 ∨ k = 33 ∨ k = 34 ∨ k = 35 ∨ k = 36 ∨ k = 37 ∨ k = 38 ∨ k = 39 ∨ k = 40 ∨ k = 41 ∨ k = 42 ∨ k = 43 ∨ k = 44 ∨ k = 45 ∨ k = 46 ∨ k = 47 ∨ k = 48 ∨ k = 49 ∨ k = 50 ∨ k = 51 ∨ k = 52 ∨ k = 53 ∨ k = 54 ∨ k = 55 ∨ k = 56 by omega) with rfl | rfl | rfl | rfl | rfl | rfl | rfl | rfl | rfl | rfl | rfl | rfl | rfl | rfl | rfl | rfl | rfl | rfl | rfl | rfl | rfl | rfl | rfl | rfl | rfl | rfl | rfl | rfl | rfl | rfl | rfl | rfl | rfl | rfl | rfl | rfl | rfl | rfl | rfl | rfl | rfl | rfl | rfl | rfl | rfl | rfl | rfl | rfl | rfl | rfl | rfl | rfl | rfl | rfl | rfl | rfl | rfl
  · exact ⟨.inl (some 116), M, ⟨60, rfl⟩, 116, rfl, rfl, ⟨by decide, by decide⟩, rfl⟩
  · exact ⟨.inl (some 114), M, ⟨60, rfl⟩, 114, rfl, rfl, ⟨by decide, by decide⟩, rfl⟩
  · exact ⟨.inl (some 117), M, ⟨60, rfl⟩, 117, rfl, rfl, ⟨by decide, by decide⟩, rfl⟩
  · exact ⟨.inl (some 101), M, ⟨60, rfl⟩, 101, rfl, rfl, ⟨by decide, by decide⟩, rfl⟩
  · exact ⟨.inl (some 32), M, ⟨60, rfl⟩, 32, rfl, rfl, ⟨by decide, by decide⟩, rfl⟩
  · exact ⟨.inl (some 102), M, ⟨60, rfl⟩, 102, rfl, rfl, ⟨by decide, by decide⟩, rfl⟩
  · exact ⟨.inl (some 97), M, ⟨60, rfl⟩, 97, rfl, rfl, ⟨by decide, by decide⟩, rfl⟩
  · exact ⟨.inl (some 108), M, ⟨60, rfl⟩, 108, rfl, rfl, ⟨by decide, by decide⟩, rfl⟩
  · exact ⟨.inl (some 115), M, ⟨60, rfl⟩, 115, rfl, rfl, ⟨by decide, by decide⟩, rfl⟩
  · exact ⟨.inl (some 101), M, ⟨60, rfl⟩, 101, rfl, rfl, ⟨by decide, by decide⟩, rfl⟩
  · exact ⟨.inl (some 32), M, ⟨60, rfl⟩, 32, rfl, rfl, ⟨by decide, by decide⟩, rfl⟩
  · exact ⟨.inl (some 110), M, ⟨60, rfl⟩, 110, rfl, rfl, ⟨by decide, by decide⟩, rfl⟩
  · exact ⟨.inl (some 105), M, ⟨60, rfl⟩, 105, rfl, rfl, ⟨by decide, by decide⟩, rfl⟩
  · exact ⟨.inl (some 108), M, ⟨60, rfl⟩, 108, rfl, rfl, ⟨by decide, by decide⟩, rfl⟩
  · exact ⟨.inl (some 32), M, ⟨60, rfl⟩, 32, rfl, rfl, ⟨by decide, by decide⟩, rfl⟩
  · exact ⟨.inl (some 124), M, ⟨60, rfl⟩, 124, rfl, rfl, ⟨by decide, by decide⟩, rfl⟩
  · exact ⟨.inl (some 32), M, ⟨60, rfl⟩, 32, rfl, rfl, ⟨by decide, by decide⟩, rfl⟩
  · exact ⟨.inl (some 110), M, ⟨60, rfl⟩, 110, rfl, rfl, ⟨by decide, by decide⟩, rfl⟩
  · exact ⟨.inl (some 111), M, ⟨60, rfl⟩, 111, rfl, rfl, ⟨by decide, by decide⟩, rfl⟩
  · exact ⟨.inl (some 109), M, ⟨60, rfl⟩, 109, rfl, rfl, ⟨by decide, by decide⟩, rfl⟩
  · exact ⟨.inl (some 97), M, ⟨60, rfl⟩, 97, rfl, rfl, ⟨by decide, by decide⟩, rfl⟩
  · exact ⟨.inl (some 116), M, ⟨60, rfl⟩, 116, rfl, rfl, ⟨by decide, by decide⟩, rfl⟩
  · exact ⟨.inl (some 99), M, ⟨60, rfl⟩, 99, rfl, rfl, ⟨by decide, by decide⟩, rfl⟩
  · exact ⟨.inl (some 104), M, ⟨60, rfl⟩, 104, rfl, rfl, ⟨by decide, by decide⟩, rfl⟩
  · exact ⟨.inl (some 32), M, ⟨60, rfl⟩, 32, rfl, rfl, ⟨by decide, by decide⟩, rfl⟩
  · exact ⟨.inl (some 102), M, ⟨60, rfl⟩, 102, rfl, rfl, ⟨by decide, by decide⟩, rfl⟩
  · exact ⟨.inl (some 97), M, ⟨60, rfl⟩, 97, rfl, rfl, ⟨by decide, by decide⟩, rfl⟩
  · exact ⟨.inl (some 105), M, ⟨60, rfl⟩, 105, rfl, rfl, ⟨by decide, by decide⟩, rfl⟩
  · exact ⟨.inl (some 108), M, ⟨60, rfl⟩, 108, rfl, rfl, ⟨by decide, by decide⟩, rfl⟩
  · exact ⟨.inl (some 117), M, ⟨60, rfl⟩, 117, rfl, rfl, ⟨by decide, by decide⟩, rfl⟩
  · exact ⟨.inl (some 114), M, ⟨60, rfl⟩, 114, rfl, rfl, ⟨by decide, by decide⟩, rfl⟩
  · exact ⟨.inl (some 101), M, ⟨60, rfl⟩, 101, rfl, rfl, ⟨by decide, by decide⟩, rfl⟩
  · exact ⟨.inl (some 32), M, ⟨60, rfl⟩, 32, rfl, rfl, ⟨by decide, by decide⟩, rfl⟩
  · exact ⟨.inl (some 122), M, ⟨60, rfl⟩, 122, rfl, rfl, ⟨by decide, by decide⟩, rfl⟩
  · exact ⟨.inl (some 101), M, ⟨60, rfl⟩, 101, rfl, rfl, ⟨by decide, by decide⟩, rfl⟩
  · exact ⟨.inl (some 114), M, ⟨60, rfl⟩, 114, rfl, rfl, ⟨by decide, by decide⟩, rfl⟩
  · exact ⟨.inl (some 111), M, ⟨60, rfl⟩, 111, rfl, rfl, ⟨by decide, by decide⟩, rfl⟩
  · exact ⟨.inl (some 32), M, ⟨60, rfl⟩, 32, rfl, rfl, ⟨by decide, by decide⟩, rfl⟩
  · exact ⟨.inl (some 107), M, ⟨60, rfl⟩, 107, rfl, rfl, ⟨by decide, by decide⟩, rfl⟩
  · exact ⟨.inl (some 105), M, ⟨60, rfl⟩, 105, rfl, rfl, ⟨by decide, by decide⟩, rfl⟩
  · exact ⟨.inl (some 110), M, ⟨60, rfl⟩, 110, rfl, rfl, ⟨by decide, by decide⟩, rfl⟩
  · exact ⟨.inl (some 100), M, ⟨60, rfl⟩, 100, rfl, rfl, ⟨by decide, by decide⟩, rfl⟩
  · exact ⟨.inl (some 32), M, ⟨60, rfl⟩, 32, rfl, rfl, ⟨by decide, by decide⟩, rfl⟩
  · exact ⟨.inl (some 97), M, ⟨60, rfl⟩, 97, rfl, rfl, ⟨by decide, by decide⟩, rfl⟩
  · exact ⟨.inl (some 114), M, ⟨60, rfl⟩, 114, rfl, rfl, ⟨by decide, by decide⟩, rfl⟩
  · exact ⟨.inl (some 105), M, ⟨60, rfl⟩, 105, rfl, rfl, ⟨by decide, by decide⟩, rfl⟩
  · exact ⟨.inl (some 116), M, ⟨60, rfl⟩, 116, rfl, rfl, ⟨by decide, by decide⟩, rfl⟩
  · exact ⟨.inl (some 121), M, ⟨60, rfl⟩, 121, rfl, rfl, ⟨by decide, by decide⟩, rfl⟩
  · exact ⟨.inl (some 32), M, ⟨60, rfl⟩, 32, rfl, rfl, ⟨by decide, by decide⟩, rfl⟩
  · exact ⟨.inl (some 102), M, ⟨60, rfl⟩, 102, rfl, rfl, ⟨by decide, by decide⟩, rfl⟩
  · exact ⟨.inl (some 101), M, ⟨60, rfl⟩, 101, rfl, rfl, ⟨by decide, by decide⟩, rfl⟩
  · exact ⟨.inl (some 97), M, ⟨60, rfl⟩, 97, rfl, rfl, ⟨by decide, by decide⟩, rfl⟩
  · exact ⟨.inl (some 116), M, ⟨60, rfl⟩, 116, rfl, rfl, ⟨by decide, by decide⟩, rfl⟩
  · exact ⟨.inl (some 117), M, ⟨60, rfl⟩, 117, rfl, rfl, ⟨by decide, by decide⟩, rfl⟩
  · exact ⟨.inl (some 114), M, ⟨60, rfl⟩, 114, rfl, rfl, ⟨by decide, by decide⟩, rfl⟩
  · exact ⟨.inl (some 101), M, ⟨60, rfl⟩, 101, rfl, rfl, ⟨by decide, by decide⟩, rfl⟩
  · exact ⟨.inl (some 32), M, ⟨60, rfl⟩, 32, rfl, rfl, ⟨by decide, by decide⟩, rfl⟩
def m_txB : List Int := [87, 97, 105, 116, 32, 78, 101, 101, 100, 101, 100, 32, 66, 121, 78, 101, 101, 100, 32, 78, 101, 119, 67, 101, 108, 108, 32, 69, 120, 99, 104, 97, 110, 103, 101, 32, 78, 101, 119, 80, 111, 114, 116, 32, 83, 101, 110, 100, 32]
set_option maxRecDepth 100000 in
theorem m_lenB {L : Nat} {xs : Nat → Int32} {d : Nat} {M : w_M} (hd : 2 ≤ d) : w_W (z_P L xs) d 8 (0, [(0, .ref 1000010)], [], M) (fun r M' => r = .inl (some 49) ∧ M' = M) := by
  obtain ⟨d, rfl⟩ : ∃ d0, d = d0 + 2 := ⟨d - 2, by omega⟩
  exact ⟨.inl (some 49), M, ⟨40, rfl⟩, rfl, rfl⟩
set_option maxRecDepth 100000 in
theorem m_chB {L : Nat} {xs : Nat → Int32} {d : Nat} {M : w_M} (hd : 3 ≤ d) (k : Int) (h0 : 0 ≤ k) (h1 : k < 49) : w_W (z_P L xs) d 10 (0, [(0, .ref 1000010), (1, .int (Int32.ofInt k))], [], M) (fun r M' => ∃ v : Int, r = .inl (some v) ∧ M' = M ∧ w_in v ∧ v = m_txB.getD k.toNat 0) := by
  obtain ⟨d, rfl⟩ : ∃ d0, d = d0 + 3 := ⟨d - 3, by omega⟩
  rcases (show k = 0 ∨ k = 1 ∨ k = 2 ∨ k = 3 ∨ k = 4 ∨ k = 5 ∨ k = 6 ∨ k = 7 ∨ k = 8 ∨ k = 9 ∨ k = 10 ∨ k = 11 ∨ k = 12 ∨ k = 13 ∨ k = 14 ∨ k = 15 ∨ k = 16 ∨ k = 17 ∨ k = 18 ∨ k = 19 ∨ k = 20 ∨ k = 21 ∨ k = 22 ∨ k = 23 ∨ k = 24 ∨ k = 25 ∨ k = 26 ∨ k = 27 ∨ k = 28 ∨ k = 29 ∨ k = 30 ∨ k = 31 ∨ k = 32 ∨ k = 33 ∨ k = 34 ∨ k = 35 ∨ k = 36 ∨ k = 37 ∨ k = 38 ∨ k = 39 ∨ k = 40 ∨ k = 41 ∨ k = 42 ∨ k = 43 ∨ k = 44 ∨ k = 45 ∨ k = 46 ∨ k = 47 ∨ k = 48 by omega) with rfl | rfl | rfl | rfl | rfl | rfl | rfl | rfl | rfl | rfl | rfl | rfl | rfl | rfl | rfl | rfl | rfl | rfl | rfl | rfl | rfl | rfl | rfl | rfl | rfl | rfl | rfl | rfl | rfl | rfl | rfl | rfl | rfl | rfl | rfl | rfl | rfl | rfl | rfl | rfl | rfl | rfl | rfl | rfl | rfl | rfl | rfl | rfl | rfl
  · exact ⟨.inl (some 87), M, ⟨60, rfl⟩, 87, rfl, rfl, ⟨by decide, by decide⟩, rfl⟩
  · exact ⟨.inl (some 97), M, ⟨60, rfl⟩, 97, rfl, rfl, ⟨by decide, by decide⟩, rfl⟩
  · exact ⟨.inl (some 105), M, ⟨60, rfl⟩, 105, rfl, rfl, ⟨by decide, by decide⟩, rfl⟩
  · exact ⟨.inl (some 116), M, ⟨60, rfl⟩, 116, rfl, rfl, ⟨by decide, by decide⟩, rfl⟩
  · exact ⟨.inl (some 32), M, ⟨60, rfl⟩, 32, rfl, rfl, ⟨by decide, by decide⟩, rfl⟩
  · exact ⟨.inl (some 78), M, ⟨60, rfl⟩, 78, rfl, rfl, ⟨by decide, by decide⟩, rfl⟩
  · exact ⟨.inl (some 101), M, ⟨60, rfl⟩, 101, rfl, rfl, ⟨by decide, by decide⟩, rfl⟩
  · exact ⟨.inl (some 101), M, ⟨60, rfl⟩, 101, rfl, rfl, ⟨by decide, by decide⟩, rfl⟩
  · exact ⟨.inl (some 100), M, ⟨60, rfl⟩, 100, rfl, rfl, ⟨by decide, by decide⟩, rfl⟩
  · exact ⟨.inl (some 101), M, ⟨60, rfl⟩, 101, rfl, rfl, ⟨by decide, by decide⟩, rfl⟩
  · exact ⟨.inl (some 100), M, ⟨60, rfl⟩, 100, rfl, rfl, ⟨by decide, by decide⟩, rfl⟩
  · exact ⟨.inl (some 32), M, ⟨60, rfl⟩, 32, rfl, rfl, ⟨by decide, by decide⟩, rfl⟩
  · exact ⟨.inl (some 66), M, ⟨60, rfl⟩, 66, rfl, rfl, ⟨by decide, by decide⟩, rfl⟩
  · exact ⟨.inl (some 121), M, ⟨60, rfl⟩, 121, rfl, rfl, ⟨by decide, by decide⟩, rfl⟩
  · exact ⟨.inl (some 78), M, ⟨60, rfl⟩, 78, rfl, rfl, ⟨by decide, by decide⟩, rfl⟩
  · exact ⟨.inl (some 101), M, ⟨60, rfl⟩, 101, rfl, rfl, ⟨by decide, by decide⟩, rfl⟩
  · exact ⟨.inl (some 101), M, ⟨60, rfl⟩, 101, rfl, rfl, ⟨by decide, by decide⟩, rfl⟩
  · exact ⟨.inl (some 100), M, ⟨60, rfl⟩, 100, rfl, rfl, ⟨by decide, by decide⟩, rfl⟩
  · exact ⟨.inl (some 32), M, ⟨60, rfl⟩, 32, rfl, rfl, ⟨by decide, by decide⟩, rfl⟩
  · exact ⟨.inl (some 78), M, ⟨60, rfl⟩, 78, rfl, rfl, ⟨by decide, by decide⟩, rfl⟩
  · exact ⟨.inl (some 101), M, ⟨60, rfl⟩, 101, rfl, rfl, ⟨by decide, by decide⟩, rfl⟩
  · exact ⟨.inl (some 119), M, ⟨60, rfl⟩, 119, rfl, rfl, ⟨by decide, by decide⟩, rfl⟩
  · exact ⟨.inl (some 67), M, ⟨60, rfl⟩, 67, rfl, rfl, ⟨by decide, by decide⟩, rfl⟩
  · exact ⟨.inl (some 101), M, ⟨60, rfl⟩, 101, rfl, rfl, ⟨by decide, by decide⟩, rfl⟩
  · exact ⟨.inl (some 108), M, ⟨60, rfl⟩, 108, rfl, rfl, ⟨by decide, by decide⟩, rfl⟩
  · exact ⟨.inl (some 108), M, ⟨60, rfl⟩, 108, rfl, rfl, ⟨by decide, by decide⟩, rfl⟩
  · exact ⟨.inl (some 32), M, ⟨60, rfl⟩, 32, rfl, rfl, ⟨by decide, by decide⟩, rfl⟩
  · exact ⟨.inl (some 69), M, ⟨60, rfl⟩, 69, rfl, rfl, ⟨by decide, by decide⟩, rfl⟩
  · exact ⟨.inl (some 120), M, ⟨60, rfl⟩, 120, rfl, rfl, ⟨by decide, by decide⟩, rfl⟩
  · exact ⟨.inl (some 99), M, ⟨60, rfl⟩, 99, rfl, rfl, ⟨by decide, by decide⟩, rfl⟩
  · exact ⟨.inl (some 104), M, ⟨60, rfl⟩, 104, rfl, rfl, ⟨by decide, by decide⟩, rfl⟩
  · exact ⟨.inl (some 97), M, ⟨60, rfl⟩, 97, rfl, rfl, ⟨by decide, by decide⟩, rfl⟩
  · exact ⟨.inl (some 110), M, ⟨60, rfl⟩, 110, rfl, rfl, ⟨by decide, by decide⟩, rfl⟩
  · exact ⟨.inl (some 103), M, ⟨60, rfl⟩, 103, rfl, rfl, ⟨by decide, by decide⟩, rfl⟩
  · exact ⟨.inl (some 101), M, ⟨60, rfl⟩, 101, rfl, rfl, ⟨by decide, by decide⟩, rfl⟩
  · exact ⟨.inl (some 32), M, ⟨60, rfl⟩, 32, rfl, rfl, ⟨by decide, by decide⟩, rfl⟩
  · exact ⟨.inl (some 78), M, ⟨60, rfl⟩, 78, rfl, rfl, ⟨by decide, by decide⟩, rfl⟩
  · exact ⟨.inl (some 101), M, ⟨60, rfl⟩, 101, rfl, rfl, ⟨by decide, by decide⟩, rfl⟩
  · exact ⟨.inl (some 119), M, ⟨60, rfl⟩, 119, rfl, rfl, ⟨by decide, by decide⟩, rfl⟩
  · exact ⟨.inl (some 80), M, ⟨60, rfl⟩, 80, rfl, rfl, ⟨by decide, by decide⟩, rfl⟩
  · exact ⟨.inl (some 111), M, ⟨60, rfl⟩, 111, rfl, rfl, ⟨by decide, by decide⟩, rfl⟩
  · exact ⟨.inl (some 114), M, ⟨60, rfl⟩, 114, rfl, rfl, ⟨by decide, by decide⟩, rfl⟩
  · exact ⟨.inl (some 116), M, ⟨60, rfl⟩, 116, rfl, rfl, ⟨by decide, by decide⟩, rfl⟩
  · exact ⟨.inl (some 32), M, ⟨60, rfl⟩, 32, rfl, rfl, ⟨by decide, by decide⟩, rfl⟩
  · exact ⟨.inl (some 83), M, ⟨60, rfl⟩, 83, rfl, rfl, ⟨by decide, by decide⟩, rfl⟩
  · exact ⟨.inl (some 101), M, ⟨60, rfl⟩, 101, rfl, rfl, ⟨by decide, by decide⟩, rfl⟩
  · exact ⟨.inl (some 110), M, ⟨60, rfl⟩, 110, rfl, rfl, ⟨by decide, by decide⟩, rfl⟩
  · exact ⟨.inl (some 100), M, ⟨60, rfl⟩, 100, rfl, rfl, ⟨by decide, by decide⟩, rfl⟩
  · exact ⟨.inl (some 32), M, ⟨60, rfl⟩, 32, rfl, rfl, ⟨by decide, by decide⟩, rfl⟩
def m_txW : List Int := [115, 107, 105, 112, 32, 108, 111, 99, 97, 108, 32, 105, 110, 32, 101, 110, 100, 32, 105, 102, 32, 116, 104, 101, 110, 32, 101, 108, 115, 101, 32, 99, 97, 115, 101, 32, 111, 102, 32, 100, 111, 32, 112, 114, 111, 99, 32, 102, 117, 110, 32, 116, 104, 114, 101, 97, 100, 32, 116, 114, 121, 32, 99, 97, 116, 99, 104, 32, 114, 97, 105, 115, 101, 32, 115, 104, 111, 119, 32, 100, 105, 118, 32, 109, 111, 100, 32]
set_option maxRecDepth 100000 in
theorem m_lenW {L : Nat} {xs : Nat → Int32} {d : Nat} {M : w_M} (hd : 2 ≤ d) : w_W (z_P L xs) d 8 (0, [(0, .ref 1000012)], [], M) (fun r M' => r = .inl (some 87) ∧ M' = M) := by
  obtain ⟨d, rfl⟩ : ∃ d0, d = d0 + 2 := ⟨d - 2, by omega⟩
  exact ⟨.inl (some 87), M, ⟨40, rfl⟩, rfl, rfl⟩
set_option maxRecDepth 100000 in
theorem m_chW {L : Nat} {xs : Nat → Int32} {d : Nat} {M : w_M} (hd : 3 ≤ d) (k : Int) (h0 : 0 ≤ k) (h1 : k < 87) : w_W (z_P L xs) d 10 (0, [(0, .ref 1000012), (1, .int (Int32.ofInt k))], [], M) (fun r M' => ∃ v : Int, r = .inl (some v) ∧ M' = M ∧ w_in v ∧ v = m_txW.getD k.toNat 0) := by
  obtain ⟨d, rfl⟩ : ∃ d0, d = d0 + 3 := ⟨d - 3, by omega⟩
  rcases (show k = 0 ∨ k = 1 ∨ k = 2 ∨ k = 3 ∨ k = 4 ∨ k = 5 ∨ k = 6 ∨ k = 7 ∨ k = 8 ∨ k = 9 ∨ k = 10 ∨ k = 11 ∨ k = 12 ∨ k = 13 ∨ k = 14 ∨ k = 15 ∨ k = 16 ∨ k = 17 ∨ k = 18 ∨ k = 19 ∨ k = 20 ∨ k = 21 ∨ k = 22 ∨ k = 23 ∨ k = 24 ∨ k = 25 ∨ k = 26 ∨ k = 27 ∨ k = 28 ∨ k = 29 ∨ k = 30 ∨ k = 31 ∨ k = 32 ∨ k = 33 ∨ k = 34 ∨ k = 35 ∨ k = 36 ∨ k = 37 ∨ k = 38 ∨ k = 39 ∨ k = 40 ∨ k = 41 ∨ k = 42 ∨ k = 43 ∨ k = 44 ∨ k = 45 ∨ k = 46 ∨ k = 47 ∨ k = 48 ∨ k = 49 ∨ k = 50 ∨ k = 51 ∨ k = 52 ∨ k = 53 ∨ k = 54 ∨ k = 55 ∨ k = 56 ∨ k = 57 ∨ k = 58 ∨ k = 59 ∨ k = 60 ∨ k = 61 ∨ k = 62 ∨ k = 63 ∨ k = 64 ∨ k = 65 ∨ k = 66 ∨ k = 67 ∨ k = 68 ∨ k = 69 ∨ k = 70 ∨ k = 71 ∨ k = 72 ∨ k = 73 ∨ k = 74 ∨ k = 75 ∨ k = 76 ∨ k = 77 ∨ k = 78 ∨ k = 79 ∨ k = 80 ∨ k = 81 ∨ k = 82 ∨ k = 83 ∨ k = 84 ∨ k = 85 ∨ k = 86 by omega) with rfl | rfl | rfl | rfl | rfl | rfl | rfl | rfl | rfl | rfl | rfl | rfl | rfl | rfl | rfl | rfl | rfl | rfl | rfl | rfl | rfl | rfl | rfl | rfl | rfl | rfl | rfl | rfl | rfl | rfl | rfl | rfl | rfl | rfl | rfl | rfl | rfl | rfl | rfl | rfl | rfl | rfl | rfl | rfl | rfl | rfl | rfl | rfl | rfl | rfl | rfl | rfl | rfl | rfl | rfl | rfl | rfl | rfl | rfl | rfl | rfl | rfl | rfl | rfl | rfl | rfl | rfl | rfl | rfl | rfl | rfl | rfl | rfl | rfl | rfl | rfl | rfl | rfl | rfl | rfl | rfl | rfl | rfl | rfl | rfl | rfl | rfl
  · exact ⟨.inl (some 115), M, ⟨60, rfl⟩, 115, rfl, rfl, ⟨by decide, by decide⟩, rfl⟩
  · exact ⟨.inl (some 107), M, ⟨60, rfl⟩, 107, rfl, rfl, ⟨by decide, by decide⟩, rfl⟩
  · exact ⟨.inl (some 105), M, ⟨60, rfl⟩, 105, rfl, rfl, ⟨by decide, by decide⟩, rfl⟩
  · exact ⟨.inl (some 112), M, ⟨60, rfl⟩, 112, rfl, rfl, ⟨by decide, by decide⟩, rfl⟩
  · exact ⟨.inl (some 32), M, ⟨60, rfl⟩, 32, rfl, rfl, ⟨by decide, by decide⟩, rfl⟩
  · exact ⟨.inl (some 108), M, ⟨60, rfl⟩, 108, rfl, rfl, ⟨by decide, by decide⟩, rfl⟩
  · exact ⟨.inl (some 111), M, ⟨60, rfl⟩, 111, rfl, rfl, ⟨by decide, by decide⟩, rfl⟩
  · exact ⟨.inl (some 99), M, ⟨60, rfl⟩, 99, rfl, rfl, ⟨by decide, by decide⟩, rfl⟩
  · exact ⟨.inl (some 97), M, ⟨60, rfl⟩, 97, rfl, rfl, ⟨by decide, by decide⟩, rfl⟩
  · exact ⟨.inl (some 108), M, ⟨60, rfl⟩, 108, rfl, rfl, ⟨by decide, by decide⟩, rfl⟩
  · exact ⟨.inl (some 32), M, ⟨60, rfl⟩, 32, rfl, rfl, ⟨by decide, by decide⟩, rfl⟩
  · exact ⟨.inl (some 105), M, ⟨60, rfl⟩, 105, rfl, rfl, ⟨by decide, by decide⟩, rfl⟩
  · exact ⟨.inl (some 110), M, ⟨60, rfl⟩, 110, rfl, rfl, ⟨by decide, by decide⟩, rfl⟩
  · exact ⟨.inl (some 32), M, ⟨60, rfl⟩, 32, rfl, rfl, ⟨by decide, by decide⟩, rfl⟩
  · exact ⟨.inl (some 101), M, ⟨60, rfl⟩, 101, rfl, rfl, ⟨by decide, by decide⟩, rfl⟩
  · exact ⟨.inl (some 110), M, ⟨60, rfl⟩, 110, rfl, rfl, ⟨by decide, by decide⟩, rfl⟩
  · exact ⟨.inl (some 100), M, ⟨60, rfl⟩, 100, rfl, rfl, ⟨by decide, by decide⟩, rfl⟩
  · exact ⟨.inl (some 32), M, ⟨60, rfl⟩, 32, rfl, rfl, ⟨by decide, by decide⟩, rfl⟩
  · exact ⟨.inl (some 105), M, ⟨60, rfl⟩, 105, rfl, rfl, ⟨by decide, by decide⟩, rfl⟩
  · exact ⟨.inl (some 102), M, ⟨60, rfl⟩, 102, rfl, rfl, ⟨by decide, by decide⟩, rfl⟩
  · exact ⟨.inl (some 32), M, ⟨60, rfl⟩, 32, rfl, rfl, ⟨by decide, by decide⟩, rfl⟩
  · exact ⟨.inl (some 116), M, ⟨60, rfl⟩, 116, rfl, rfl, ⟨by decide, by decide⟩, rfl⟩
  · exact ⟨.inl (some 104), M, ⟨60, rfl⟩, 104, rfl, rfl, ⟨by decide, by decide⟩, rfl⟩
  · exact ⟨.inl (some 101), M, ⟨60, rfl⟩, 101, rfl, rfl, ⟨by decide, by decide⟩, rfl⟩
  · exact ⟨.inl (some 110), M, ⟨60, rfl⟩, 110, rfl, rfl, ⟨by decide, by decide⟩, rfl⟩
  · exact ⟨.inl (some 32), M, ⟨60, rfl⟩, 32, rfl, rfl, ⟨by decide, by decide⟩, rfl⟩
  · exact ⟨.inl (some 101), M, ⟨60, rfl⟩, 101, rfl, rfl, ⟨by decide, by decide⟩, rfl⟩
  · exact ⟨.inl (some 108), M, ⟨60, rfl⟩, 108, rfl, rfl, ⟨by decide, by decide⟩, rfl⟩
  · exact ⟨.inl (some 115), M, ⟨60, rfl⟩, 115, rfl, rfl, ⟨by decide, by decide⟩, rfl⟩
  · exact ⟨.inl (some 101), M, ⟨60, rfl⟩, 101, rfl, rfl, ⟨by decide, by decide⟩, rfl⟩
  · exact ⟨.inl (some 32), M, ⟨60, rfl⟩, 32, rfl, rfl, ⟨by decide, by decide⟩, rfl⟩
  · exact ⟨.inl (some 99), M, ⟨60, rfl⟩, 99, rfl, rfl, ⟨by decide, by decide⟩, rfl⟩
  · exact ⟨.inl (some 97), M, ⟨60, rfl⟩, 97, rfl, rfl, ⟨by decide, by decide⟩, rfl⟩
  · exact ⟨.inl (some 115), M, ⟨60, rfl⟩, 115, rfl, rfl, ⟨by decide, by decide⟩, rfl⟩
  · exact ⟨.inl (some 101), M, ⟨60, rfl⟩, 101, rfl, rfl, ⟨by decide, by decide⟩, rfl⟩
  · exact ⟨.inl (some 32), M, ⟨60, rfl⟩, 32, rfl, rfl, ⟨by decide, by decide⟩, rfl⟩
  · exact ⟨.inl (some 111), M, ⟨60, rfl⟩, 111, rfl, rfl, ⟨by decide, by decide⟩, rfl⟩
  · exact ⟨.inl (some 102), M, ⟨60, rfl⟩, 102, rfl, rfl, ⟨by decide, by decide⟩, rfl⟩
  · exact ⟨.inl (some 32), M, ⟨60, rfl⟩, 32, rfl, rfl, ⟨by decide, by decide⟩, rfl⟩
  · exact ⟨.inl (some 100), M, ⟨60, rfl⟩, 100, rfl, rfl, ⟨by decide, by decide⟩, rfl⟩
  · exact ⟨.inl (some 111), M, ⟨60, rfl⟩, 111, rfl, rfl, ⟨by decide, by decide⟩, rfl⟩
  · exact ⟨.inl (some 32), M, ⟨60, rfl⟩, 32, rfl, rfl, ⟨by decide, by decide⟩, rfl⟩
  · exact ⟨.inl (some 112), M, ⟨60, rfl⟩, 112, rfl, rfl, ⟨by decide, by decide⟩, rfl⟩
  · exact ⟨.inl (some 114), M, ⟨60, rfl⟩, 114, rfl, rfl, ⟨by decide, by decide⟩, rfl⟩
  · exact ⟨.inl (some 111), M, ⟨60, rfl⟩, 111, rfl, rfl, ⟨by decide, by decide⟩, rfl⟩
  · exact ⟨.inl (some 99), M, ⟨60, rfl⟩, 99, rfl, rfl, ⟨by decide, by decide⟩, rfl⟩
  · exact ⟨.inl (some 32), M, ⟨60, rfl⟩, 32, rfl, rfl, ⟨by decide, by decide⟩, rfl⟩
  · exact ⟨.inl (some 102), M, ⟨60, rfl⟩, 102, rfl, rfl, ⟨by decide, by decide⟩, rfl⟩
  · exact ⟨.inl (some 117), M, ⟨60, rfl⟩, 117, rfl, rfl, ⟨by decide, by decide⟩, rfl⟩
  · exact ⟨.inl (some 110), M, ⟨60, rfl⟩, 110, rfl, rfl, ⟨by decide, by decide⟩, rfl⟩
  · exact ⟨.inl (some 32), M, ⟨60, rfl⟩, 32, rfl, rfl, ⟨by decide, by decide⟩, rfl⟩
  · exact ⟨.inl (some 116), M, ⟨60, rfl⟩, 116, rfl, rfl, ⟨by decide, by decide⟩, rfl⟩
  · exact ⟨.inl (some 104), M, ⟨60, rfl⟩, 104, rfl, rfl, ⟨by decide, by decide⟩, rfl⟩
  · exact ⟨.inl (some 114), M, ⟨60, rfl⟩, 114, rfl, rfl, ⟨by decide, by decide⟩, rfl⟩
  · exact ⟨.inl (some 101), M, ⟨60, rfl⟩, 101, rfl, rfl, ⟨by decide, by decide⟩, rfl⟩
  · exact ⟨.inl (some 97), M, ⟨60, rfl⟩, 97, rfl, rfl, ⟨by decide, by decide⟩, rfl⟩
  · exact ⟨.inl (some 100), M, ⟨60, rfl⟩, 100, rfl, rfl, ⟨by decide, by decide⟩, rfl⟩
  · exact ⟨.inl (some 32), M, ⟨60, rfl⟩, 32, rfl, rfl, ⟨by decide, by decide⟩, rfl⟩
  · exact ⟨.inl (some 116), M, ⟨60, rfl⟩, 116, rfl, rfl, ⟨by decide, by decide⟩, rfl⟩
  · exact ⟨.inl (some 114), M, ⟨60, rfl⟩, 114, rfl, rfl, ⟨by decide, by decide⟩, rfl⟩
  · exact ⟨.inl (some 121), M, ⟨60, rfl⟩, 121, rfl, rfl, ⟨by decide, by decide⟩, rfl⟩
  · exact ⟨.inl (some 32), M, ⟨60, rfl⟩, 32, rfl, rfl, ⟨by decide, by decide⟩, rfl⟩
  · exact ⟨.inl (some 99), M, ⟨60, rfl⟩, 99, rfl, rfl, ⟨by decide, by decide⟩, rfl⟩
  · exact ⟨.inl (some 97), M, ⟨60, rfl⟩, 97, rfl, rfl, ⟨by decide, by decide⟩, rfl⟩
  · exact ⟨.inl (some 116), M, ⟨60, rfl⟩, 116, rfl, rfl, ⟨by decide, by decide⟩, rfl⟩
  · exact ⟨.inl (some 99), M, ⟨60, rfl⟩, 99, rfl, rfl, ⟨by decide, by decide⟩, rfl⟩
  · exact ⟨.inl (some 104), M, ⟨60, rfl⟩, 104, rfl, rfl, ⟨by decide, by decide⟩, rfl⟩
  · exact ⟨.inl (some 32), M, ⟨60, rfl⟩, 32, rfl, rfl, ⟨by decide, by decide⟩, rfl⟩
  · exact ⟨.inl (some 114), M, ⟨60, rfl⟩, 114, rfl, rfl, ⟨by decide, by decide⟩, rfl⟩
  · exact ⟨.inl (some 97), M, ⟨60, rfl⟩, 97, rfl, rfl, ⟨by decide, by decide⟩, rfl⟩
  · exact ⟨.inl (some 105), M, ⟨60, rfl⟩, 105, rfl, rfl, ⟨by decide, by decide⟩, rfl⟩
  · exact ⟨.inl (some 115), M, ⟨60, rfl⟩, 115, rfl, rfl, ⟨by decide, by decide⟩, rfl⟩
  · exact ⟨.inl (some 101), M, ⟨60, rfl⟩, 101, rfl, rfl, ⟨by decide, by decide⟩, rfl⟩
  · exact ⟨.inl (some 32), M, ⟨60, rfl⟩, 32, rfl, rfl, ⟨by decide, by decide⟩, rfl⟩
  · exact ⟨.inl (some 115), M, ⟨60, rfl⟩, 115, rfl, rfl, ⟨by decide, by decide⟩, rfl⟩
  · exact ⟨.inl (some 104), M, ⟨60, rfl⟩, 104, rfl, rfl, ⟨by decide, by decide⟩, rfl⟩
  · exact ⟨.inl (some 111), M, ⟨60, rfl⟩, 111, rfl, rfl, ⟨by decide, by decide⟩, rfl⟩
  · exact ⟨.inl (some 119), M, ⟨60, rfl⟩, 119, rfl, rfl, ⟨by decide, by decide⟩, rfl⟩
  · exact ⟨.inl (some 32), M, ⟨60, rfl⟩, 32, rfl, rfl, ⟨by decide, by decide⟩, rfl⟩
  · exact ⟨.inl (some 100), M, ⟨60, rfl⟩, 100, rfl, rfl, ⟨by decide, by decide⟩, rfl⟩
  · exact ⟨.inl (some 105), M, ⟨60, rfl⟩, 105, rfl, rfl, ⟨by decide, by decide⟩, rfl⟩
  · exact ⟨.inl (some 118), M, ⟨60, rfl⟩, 118, rfl, rfl, ⟨by decide, by decide⟩, rfl⟩
  · exact ⟨.inl (some 32), M, ⟨60, rfl⟩, 32, rfl, rfl, ⟨by decide, by decide⟩, rfl⟩
  · exact ⟨.inl (some 109), M, ⟨60, rfl⟩, 109, rfl, rfl, ⟨by decide, by decide⟩, rfl⟩
  · exact ⟨.inl (some 111), M, ⟨60, rfl⟩, 111, rfl, rfl, ⟨by decide, by decide⟩, rfl⟩
  · exact ⟨.inl (some 100), M, ⟨60, rfl⟩, 100, rfl, rfl, ⟨by decide, by decide⟩, rfl⟩
  · exact ⟨.inl (some 32), M, ⟨60, rfl⟩, 32, rfl, rfl, ⟨by decide, by decide⟩, rfl⟩
