theorem z_and15 (x : Int32) : ∃ k, k < 16 ∧ x &&& 15 = Int32.ofNat k := by
  refine ⟨x.toBitVec.toNat % 16, Nat.mod_lt _ (by decide), ?_⟩
  apply Int32.toBitVec_inj.mp
  apply BitVec.eq_of_toNat_eq
  show (x.toBitVec &&& (15 : Int32).toBitVec).toNat = (BitVec.ofNat 32 (x.toBitVec.toNat % 16)).toNat
  rw [BitVec.toNat_and, BitVec.toNat_ofNat]
  show x.toBitVec.toNat &&& 15 = _
  rw [show (15 : Nat) = 2 ^ 4 - 1 from rfl, Nat.and_two_pow_sub_one_eq_mod]
  show x.toBitVec.toNat % 16 = x.toBitVec.toNat % 16 % 4294967296
  omega
theorem z_three (xs : Nat → Int32) : ∃ M : q_M (List (Nat × Int32)), q_Runs q_KL (z_P 3 xs) 1300 0 (18, [(3, .int 0), (2, .ref 43), (1, .ref 0), (0, .ref 1900000)], [], z_m_c95) (.inl (some (.int 1)), M) ∧ M.2.1 ≤ 600002 ∧ M.2.2 ≤ 7302231 := by
  obtain ⟨k, hk, h0⟩ := z_and15 (xs 0)
  match k, hk, h0 with
  | 0, _, h0 =>
    obtain ⟨M, h1, h2, h3⟩ := z_done0 h0
    exact ⟨M, h1, by omega, by omega⟩
  | 1, _, h0 => exact ⟨_, z_done1 h0, by decide, by decide⟩
  | 2, _, h0 => exact ⟨_, z_done2 h0, by decide, by decide⟩
  | 3, _, h0 => exact ⟨_, z_done3 h0, by decide, by decide⟩
  | 4, _, h0 => exact ⟨_, z_done4 h0, by decide, by decide⟩
  | 5, _, h0 => exact ⟨_, z_done5 h0, by decide, by decide⟩
  | 6, _, h0 => exact ⟨_, z_done6 h0, by decide, by decide⟩
  | 7, _, h0 => exact ⟨_, z_done7 h0, by decide, by decide⟩
  | 8, _, h0 => exact ⟨_, z_done8 h0, by decide, by decide⟩
  | 9, _, h0 => exact ⟨_, z_done9 h0, by decide, by decide⟩
  | 10, _, h0 => exact ⟨_, z_done10 h0, by decide, by decide⟩
  | 11, _, h0 => exact ⟨_, z_done11 h0, by decide, by decide⟩
  | 12, _, h0 => exact ⟨_, z_done12 h0, by decide, by decide⟩
  | 13, _, h0 => exact ⟨_, z_done13 h0, by decide, by decide⟩
  | 14, _, h0 => exact ⟨_, z_done14 h0, by decide, by decide⟩
  | 15, _, h0 => exact ⟨_, z_done15 h0, by decide, by decide⟩
  | n + 16, hk, _ => exact absurd hk (by omega)
theorem z_law_run (L : Nat) (xs : Nat → Int32) (hL : L ≤ 3) : ∃ (n : Nat) (res : y_R), y_run (z_P L xs) n 1300 0 (0, [(0, .ref 1900000)], [], ([], 0, 0)) = some res ∧ res.1 = .inl (some (.int 1)) ∧ res.2.2.1 ≤ 600002 ∧ res.2.2.2 ≤ 7302231 := by
  have key : ∃ M : q_M (List (Nat × Int32)), q_Runs q_KL (z_P L xs) 1300 0 (18, [(3, .int 0), (2, .ref 43), (1, .ref 0), (0, .ref 1900000)], [], z_m_c95) (.inl (some (.int 1)), M) ∧ M.2.1 ≤ 600002 ∧ M.2.2 ≤ 7302231 := by
    match L, hL with
    | 0, _ => exact ⟨_, z_short0, by decide, by decide⟩
    | 1, _ => exact ⟨_, z_short1, by decide, by decide⟩
    | 2, _ => exact ⟨_, z_short2, by decide, by decide⟩
    | 3, _ => exact z_three xs
    | n + 4, h => exact absurd h (by omega)
  obtain ⟨M, h1, h2, h3⟩ := key
  obtain ⟨n, h4⟩ := z_head h1
  obtain ⟨h5, -⟩ := q_run_ok q_KL_law h4 rfl
  exact ⟨n, _, h5, rfl, h2, h3⟩
