/-! SOUND: what the small machine runs, the real one runs. -/
section YMono
theorem y_pure_M {nL : Nat} {i : Instr} {pc : Nat} {ls : y_L} {st : List Value} {M : y_M} {F : y_F} (h : y_pure nL i pc ls st M = some F) : F.2.2.2 = M := by
  unfold y_pure at h
  split at h <;> first
    | (cases h; done)
    | (cases h; rfl)
    | (obtain ⟨_, _, rfl⟩ := y_loadI_spec h; rfl)
    | (obtain ⟨_, _, rfl⟩ := y_loadL_spec h; rfl)
    | (rcases y_loadA_spec h with ⟨_, _, rfl⟩ | ⟨_, rfl⟩ <;> rfl)
    | (obtain ⟨_, _, _, _, rfl⟩ := y_storeI_spec h; rfl)
    | (obtain ⟨_, _, _, _, rfl⟩ := y_storeL_spec h; rfl)
    | (rcases y_storeA_spec h with ⟨_, _, _, _, rfl⟩ | ⟨_, _, _, rfl⟩ <;> rfl)
    | (obtain ⟨_, _, _, rfl⟩ := y_inc_spec h; rfl)
    | (obtain ⟨_, _, _, _, rfl⟩ := y_int2_spec h; rfl)
    | (obtain ⟨_, _, _, rfl⟩ := y_int_spec h; rfl)
    | (obtain ⟨_, _, _, _, rfl⟩ := y_long2_spec h; rfl)
    | (obtain ⟨_, _, _, _, rfl⟩ := y_longI_spec h; rfl)
    | (obtain ⟨_, _, _, _, _, rfl⟩ := y_br1_spec h; rfl)
    | (obtain ⟨_, _, _, _, _, _, rfl⟩ := y_br2_spec h; rfl)
    | (rcases y_brN_spec h with ⟨_, _, _, _, rfl⟩ | ⟨_, _, _, _, _, rfl⟩ <;> rfl)
    | (obtain ⟨_, _, rfl⟩ := y_go_spec h; rfl)
    | (split at h <;> cases h <;> rfl)
/-- the memory has grown -/
def y_le (M M' : y_M) : Prop := M.1.length ≤ M'.1.length ∧ M.2.1 ≤ M'.2.1 ∧ M.2.2 ≤ M'.2.2
theorem y_le.rf {M : y_M} : y_le M M := ⟨Nat.le_refl _, Nat.le_refl _, Nat.le_refl _⟩
theorem y_le.tr {M M' M'' : y_M} (h : y_le M M') (h' : y_le M' M'') : y_le M M'' := ⟨Nat.le_trans h.1 h'.1, Nat.le_trans h.2.1 h'.2.1, Nat.le_trans h.2.2 h'.2.2⟩
theorem y_le.of {M M' : y_M} (h : M' = M) : y_le M M' := by subst h; exact y_le.rf
theorem y_getf_M {fld : Nat → Option (Nat × Nat × Nat × FieldType)} {idx pc : Nat} {ls : y_L} {st : List Value} {M : y_M} {F : y_F} (h : y_getf fld idx pc ls st M = some F) : y_le M F.2.2.2 := by
  unfold y_getf at h
  repeat' (split at h)
  all_goals first | (cases h; done) | (cases h; exact y_le.rf)
theorem y_putf_M {ini : Bool} {fld : Nat → Option (Nat × Nat × Nat × FieldType)} {idx pc : Nat} {ls : y_L} {st : List Value} {M : y_M} {F : y_F} (h : y_putf ini fld idx pc ls st M = some F) : y_le M F.2.2.2 := by
  unfold y_putf at h
  repeat' (split at h)
  all_goals first | (cases h; done) | (cases h; exact ⟨by simp, Nat.le_refl _, Nat.le_refl _⟩)
theorem y_ald_M {ty : FieldType} {pc : Nat} {ls : y_L} {st : List Value} {M : y_M} {F : y_F} (h : y_ald ty pc ls st M = some F) : y_le M F.2.2.2 := by
  unfold y_ald at h
  repeat' (split at h)
  all_goals first | (cases h; done) | (cases h; exact y_le.rf)
theorem y_ast_M {ty : FieldType} {pc : Nat} {ls : y_L} {st : List Value} {M : y_M} {F : y_F} (h : y_ast ty pc ls st M = some F) : y_le M F.2.2.2 := by
  unfold y_ast at h
  repeat' (split at h)
  all_goals first | (cases h; done) | (cases h; exact ⟨by simp, Nat.le_refl _, Nat.le_refl _⟩)
theorem y_alen_M {pc : Nat} {ls : y_L} {st : List Value} {M : y_M} {F : y_F} (h : y_alen pc ls st M = some F) : y_le M F.2.2.2 := by
  unfold y_alen at h
  repeat' (split at h)
  all_goals first | (cases h; done) | (cases h; exact y_le.rf)
theorem y_new_M {cls : Nat → Option (Nat × List Value)} {idx pc : Nat} {ls : y_L} {st : List Value} {M : y_M} {F : y_F} (h : y_new cls idx pc ls st M = some F) : y_le M F.2.2.2 := by
  unfold y_new at h
  repeat' (split at h)
  all_goals first | (cases h; done) | (cases h; exact ⟨by simp, by simp, by simp⟩)
theorem y_newa_M {ty : FieldType} {pc : Nat} {ls : y_L} {st : List Value} {M : y_M} {F : y_F} (h : y_newa ty pc ls st M = some F) : y_le M F.2.2.2 := by
  unfold y_newa at h
  repeat' (split at h)
  all_goals first | (cases h; done) | (cases h; exact ⟨by simp, by simp, by simp⟩)
theorem y_switch_M {d lo hi : Int} {offs : Array Int} {pc : Nat} {ls : y_L} {st : List Value} {M : y_M} {F : y_F} (h : y_switch d lo hi offs pc ls st M = some F) : y_le M F.2.2.2 := by
  unfold y_switch at h
  repeat' (split at h)
  all_goals first | (cases h; done) | (obtain ⟨_, _, rfl⟩ := y_go_spec h; exact y_le.rf)
theorem y_cell_M {P : y_P} {mi : Nat} {i : Instr} {pc : Nat} {ls : y_L} {st : List Value} {M : y_M} {F : y_F} (h : y_cell P mi i pc ls st M = some F) : y_le M F.2.2.2 := by
  unfold y_cell at h
  split at h
  · exact y_getf_M h
  · exact y_putf_M h
  · exact y_ald_M h
  · exact y_ald_M h
  · exact y_ast_M h
  · exact y_ast_M h
  · exact y_alen_M h
  · exact y_new_M h
  · exact y_newa_M h
  · exact y_newa_M h
  · split at h
    · cases h; exact y_le.rf
    · cases h
  · split at h
    · cases h; exact y_le.rf
    · cases h
  · split at h
    · cases h; exact y_le.rf
    · cases h
  · exact y_switch_M h
  · exact y_le.of (y_pure_M h)
theorem y_outs_M {O : Nat → Option y_C} {fld : Nat → Option (Nat × Nat × Nat × FieldType)} {con : Nat → Option Value} {i : Instr} {pc : Nat} {ls : y_L} {st : List Value} {M : y_M} {F : y_F} (h : y_outs O fld con i pc ls st M = some F) : y_le M F.2.2.2 := by
  unfold y_outs at h
  repeat' (split at h)
  all_goals first | (cases h; done) | (cases h; exact y_le.rf)
theorem y_mkE_M {P : y_P} {mi : Nat} {i : Instr} {pc : Nat} {ls : y_L} {st : List Value} {M : y_M} {F : y_F} (h : y_mkE P mi i pc ls st M = some F) : y_le M F.2.2.2 := by
  unfold y_mkE at h
  repeat' (split at h)
  all_goals first | (cases h; done) | (cases h; exact ⟨by simp, by simp, by simp⟩)
theorem y_copy_M {st t : List Value} {M M' : y_M} (h : y_copy st M = some (t, M')) : y_le M M' := by
  unfold y_copy at h
  repeat' (split at h)
  all_goals first | (cases h; done) | (cases h; exact ⟨by simp, Nat.le_refl _, Nat.le_refl _⟩)
theorem y_run_M {P : y_P} : ∀ {n d mi : Nat} {F : y_F} {res : y_R}, y_run P n d mi F = some res → y_le F.2.2.2 res.2
  | 0, _, _, _, _, h => by cases h
  | n + 1, d, mi, (pc, ls, st, M), res, h => by
    have ih : ∀ {d mi : Nat} {F : y_F} {res : y_R}, y_run P n d mi F = some res → y_le F.2.2.2 res.2 := fun h => y_run_M h
    have hcall : ∀ {kd idx : Nat}, y_call P (y_run P n) d mi kd idx pc ls st M = some res → y_le M res.2 := by
      intro kd idx h
      unfold y_call at h
      split at h
      · cases h
      · split at h
        · split at h
          · split at h
            · exact ih h
            · cases h
          · cases h
        · split at h
          · split at h
            · split at h
              · exact ih h
              · cases h
            · cases h
          split at h
          · split at h
            · rename_i h1
              split at h
              · exact y_le.tr (y_copy_M h1) (ih h)
              · cases h
            · cases h
          split at h
          · split at h
            · cases h
            · split at h
              · cases h
              · rename_i h1; exact y_le.tr (ih h1) (ih h)
              · rename_i h1
                split at h
                · cases h; exact ih h1
                · split at h
                  · split at h
                    · exact y_le.tr (ih h1) (ih h)
                    · cases h
                  · cases h
          · cases h
    rw [y_run_s] at h
    unfold y_one at h
    dsimp only at h
    split at h
    · cases h
    · split at h
      · split at h
        · split at h
          · cases h; exact y_le.rf
          · cases h
        · cases h
      · split at h
        · cases h; exact y_le.rf
        · cases h
      · split at h
        · cases h; exact y_le.rf
        · cases h
      · split at h
        · cases h; exact y_le.rf
        · cases h
      · exact hcall h
      · exact hcall h
      · exact hcall h
      · split at h
        · rename_i h1; exact y_le.tr (y_cell_M h1) (ih h)
        · split at h
          · rename_i h1; exact y_le.tr (y_outs_M h1) (ih h)
          · split at h
            · rename_i h1; exact y_le.tr (y_mkE_M h1) (ih h)
            · cases h
end YMono
