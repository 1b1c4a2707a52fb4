/-! RUN: the law's run, from its entry to its end. -/
set_option maxRecDepth 100000 in
theorem z_law_run (L : Nat) (xs : Nat → Int32) (hL : L ≤ 1536) : ∃ (n : Nat) (res : y_R), y_run (z_P L xs) n 1300 0 (0, [(0, .ref 1900000)], [], ([], 0, 0)) = some res ∧ res.1 = .inl (some (.int 1)) ∧ res.2.2.1 ≤ 601024 ∧ res.2.2.2 ≤ 7293034 := by
  obtain ⟨r, M', ⟨k, h1⟩, hr, n, a, b, hn, hP⟩ := l_loop (xs := xs) hL L 0 0 z_M0 0 z_lP rfl (by omega) (by omega)
  subst hr
  have hw : y_wf [(3, .int (Int32.ofInt 0)), (2, .ref 43), (1, .ref 0), (0, .ref 1900000)] [] (q_aM q_KF z_M0).1 = true := by
    rw [z_M0_aM]
    rfl
  have h2 := (q_run_ok q_KF_law h1 hw).1
  have h3 : y_Runs (z_P L xs) 1300 0 (18, [(3, .int 0), (2, .ref 43), (1, .ref 0), (0, .ref 1900000)], [], q_aM q_KL z_m_c95) (.inl (some (.int 1)), q_aM q_KF M') := ⟨k, by
    rw [← z_M0_aM]
    exact h2⟩
  obtain ⟨k2, h4⟩ := z_headY h3
  have h5 := l_room hP hn
  exact ⟨k2, _, h4, rfl, h5.1, h5.2⟩
