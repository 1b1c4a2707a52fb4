theorem z_S1 {mi pc len : Nat} {i : Instr} (h : z_ins mi pc = some (i, len)) : decode (z_cd mi) pc = .ok (i, len) ∧ (len = y_len i ∨ ∃ d lo hi o, i = .tableswitch d lo hi o) := by
  have hg : (Nat.blt mi 313 && Nat.blt pc (z_sz mi)) = true := by
    cases hb : (Nat.blt mi 313 && Nat.blt pc (z_sz mi)) with
    | true => rfl
    | false => unfold z_ins at h; rw [hb] at h; cases h
  rw [Bool.and_eq_true] at hg
  have h1 : mi < 313 := Nat.blt_eq.mp hg.1
  have h2 : z_decB mi = true := by
    by_cases g0 : mi < 32
    · exact z_span_at z_dec0 (by omega) (by omega)
    by_cases g1 : mi < 70
    · exact z_span_at z_dec1 (by omega) (by omega)
    by_cases g2 : mi < 104
    · exact z_span_at z_dec2 (by omega) (by omega)
    by_cases g3 : mi < 134
    · exact z_span_at z_dec3 (by omega) (by omega)
    by_cases g4 : mi < 167
    · exact z_span_at z_dec4 (by omega) (by omega)
    by_cases g5 : mi < 192
    · exact z_span_at z_dec5 (by omega) (by omega)
    by_cases g6 : mi < 219
    · exact z_span_at z_dec6 (by omega) (by omega)
    by_cases g7 : mi < 237
    · exact z_span_at z_dec7 (by omega) (by omega)
    by_cases g8 : mi < 261
    · exact z_span_at z_dec8 (by omega) (by omega)
    by_cases g9 : mi < 282
    · exact z_span_at z_dec9 (by omega) (by omega)
    by_cases g10 : mi < 299
    · exact z_span_at z_dec10 (by omega) (by omega)
    exact z_span_at z_dec11 (by omega) (by omega)
  exact z_all_ok h2 (Nat.blt_eq.mp hg.2) h
