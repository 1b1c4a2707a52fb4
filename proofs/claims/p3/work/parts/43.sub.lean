/-! SUB: more locals, in any order, change no run. -/
section WSub
def w_sb (ls ls' : y_L) : Prop := (ls.map (fun q => q.1)).Nodup ∧ (ls'.map (fun q => q.1)).Nodup ∧ ∀ q ∈ ls, q ∈ ls'
theorem w_mem_get {i : Nat} {v : Value} : ∀ {ls : y_L}, (ls.map (fun q => q.1)).Nodup → (i, v) ∈ ls → y_get ls i = some v
  | [], _, h => by cases h
  | (j, w) :: r, hn, h => by
    have hn' : (j :: r.map (fun q => q.1)).Nodup := hn
    obtain ⟨h1, h2⟩ := List.nodup_cons.mp hn'
    unfold y_get
    by_cases e : j = i
    · rw [if_pos e]
      rcases List.mem_cons.mp h with h | h
      · cases h; rfl
      · subst e
        exact absurd (List.mem_map_of_mem (f := fun q : Nat × Value => q.1) h) h1
    · rw [if_neg e]
      rcases List.mem_cons.mp h with h | h
      · cases h; exact absurd rfl e
      · exact w_mem_get h2 h
theorem w_sb.get {ls ls' : y_L} (h : w_sb ls ls') {i : Nat} {v : Value} (hg : y_get ls i = some v) : y_get ls' i = some v := w_mem_get h.2.1 (h.2.2 _ (y_get_mem hg))
theorem w_nd_filter {p : Nat × Value → Bool} {ls : y_L} {i : Nat} {v : Value} (h : (ls.map (fun q => q.1)).Nodup) (hp : ∀ q, p q = true → q.1 ≠ i) : (((i, v) :: ls.filter p).map (fun q => q.1)).Nodup := by
  rw [List.map_cons, List.nodup_cons]
  refine ⟨?_, List.Nodup.sublist (List.Sublist.map _ List.filter_sublist) h⟩
  intro hm
  obtain ⟨q, h1, h2⟩ := List.mem_map.mp hm
  exact hp q (List.mem_filter.mp h1).2 h2
theorem w_sub_filter {p : Nat × Value → Bool} {ls ls' : y_L} {x : Nat × Value} (h : ∀ q ∈ ls, q ∈ ls') : ∀ q ∈ x :: ls.filter p, q ∈ x :: ls'.filter p := by
  intro q hq
  rcases List.mem_cons.mp hq with e | e
  · rw [e]; exact List.mem_cons_self
  · obtain ⟨h1, h2⟩ := List.mem_filter.mp e
    exact List.mem_cons_of_mem _ (List.mem_filter.mpr ⟨h _ h1, h2⟩)
theorem w_ne_of {j i : Nat} {b : Bool} (h : (!(j == i) && b) = true) : j ≠ i := by
  obtain ⟨h1, -⟩ := Bool.and_eq_true_iff.mp h
  intro e
  rw [e, beq_self_eq_true] at h1
  cases h1
theorem w_sb.set {ls ls' : y_L} (h : w_sb ls ls') {i : Nat} {v : Value} : w_sb (y_set ls i v) (y_set ls' i v) := ⟨w_nd_filter h.1 (fun _ hq => w_ne_of hq), w_nd_filter h.2.1 (fun _ hq => w_ne_of hq), w_sub_filter h.2.2⟩
theorem w_sb.set2 {ls ls' : y_L} (h : w_sb ls ls') {i : Nat} {v : Value} : w_sb (y_set2 ls i v) (y_set2 ls' i v) := ⟨w_nd_filter h.1 (fun _ hq => w_ne_of hq), w_nd_filter h.2.1 (fun _ hq => w_ne_of hq), w_sub_filter h.2.2⟩
theorem w_pure_ls {nL : Nat} {i : Instr} {pc : Nat} {ls ls' : y_L} {st : List Value} {M : y_M} {F : y_F} (h : y_pure nL i pc ls st M = some F) (hs : w_sb ls ls') : ∃ l1, y_pure nL i pc ls' st M = some (F.1, l1, F.2.2) ∧ w_sb F.2.1 l1 := by
  unfold y_pure at h ⊢
  split at h <;> first
    | (cases h; done)
    | (cases h; exact ⟨_, rfl, hs⟩)
    | (obtain ⟨x, hg, rfl⟩ := y_loadI_spec h; unfold y_loadI; rw [hs.get hg]; exact ⟨_, rfl, hs⟩)
    | (obtain ⟨x, hg, rfl⟩ := y_loadL_spec h; unfold y_loadL; rw [hs.get hg]; exact ⟨_, rfl, hs⟩)
    | (rcases y_loadA_spec h with ⟨x, hg, rfl⟩ | ⟨hg, rfl⟩ <;> (unfold y_loadA; rw [hs.get hg]; exact ⟨_, rfl, hs⟩))
    | (obtain ⟨x, r, rfl, hl, rfl⟩ := y_storeI_spec h; unfold y_storeI; exact ⟨_, if_pos hl, hs.set⟩)
    | (obtain ⟨x, r, rfl, hl, rfl⟩ := y_storeL_spec h; unfold y_storeL; exact ⟨_, if_pos hl, hs.set2⟩)
    | (rcases y_storeA_spec h with ⟨x, r, rfl, hl, rfl⟩ | ⟨r, rfl, hl, rfl⟩ <;> (unfold y_storeA; exact ⟨_, if_pos hl, hs.set⟩))
    | (obtain ⟨x, hg, hl, rfl⟩ := y_inc_spec h; unfold y_inc; rw [hs.get hg]; exact ⟨_, if_pos hl, hs.set⟩)
    | (obtain ⟨x, y, r, rfl, rfl⟩ := y_int2_spec h; exact ⟨_, rfl, hs⟩)
    | (obtain ⟨x, r, rfl, rfl⟩ := y_int_spec h; exact ⟨_, rfl, hs⟩)
    | (obtain ⟨x, y, r, rfl, rfl⟩ := y_long2_spec h; exact ⟨_, rfl, hs⟩)
    | (obtain ⟨x, y, r, rfl, rfl⟩ := y_longI_spec h; exact ⟨_, rfl, hs⟩)
    | (obtain ⟨x, r, t, rfl, he, rfl⟩ := y_br1_spec h; exact ⟨_, y_go_of he, hs⟩)
    | (obtain ⟨x, y, r, t, rfl, he, rfl⟩ := y_br2_spec h; exact ⟨_, y_go_of he, hs⟩)
    | (rcases y_brN_spec h with ⟨r, t, rfl, he, rfl⟩ | ⟨a, r, t, rfl, he, rfl⟩ <;> exact ⟨_, y_go_of he, hs⟩)
    | (obtain ⟨t, he, rfl⟩ := y_go_spec h; exact ⟨_, y_go_of he, hs⟩)
    | (split at h <;> first | (cases h; done) | (cases h; exact ⟨_, rfl, hs⟩))
theorem w_switch_ls {d lo hi : Int} {offs : Array Int} {pc : Nat} {ls ls' : y_L} {st : List Value} {M : y_M} {F : y_F} (h : y_switch d lo hi offs pc ls st M = some F) : y_switch d lo hi offs pc ls' st M = some (F.1, ls', F.2.2) ∧ F.2.1 = ls := by
  unfold y_switch at h ⊢
  split at h
  · split at h
    · rename_i hq
      rw [if_pos hq]
      obtain ⟨t, he, rfl⟩ := y_go_spec h
      exact ⟨y_go_of he, rfl⟩
    · rename_i hq
      rw [if_neg hq]
      split at h
      · rename_i off ho
        obtain ⟨t, he, rfl⟩ := y_go_spec h
        exact ⟨y_go_of he, rfl⟩
      · cases h
  · cases h
def w_wl {ρ : Type} (ls : y_L) (F : q_F ρ) : q_F ρ := (F.1, ls, F.2.2)
theorem w_outs_ls {O : Nat → Option y_C} {fld : Nat → Option (Nat × Nat × Nat × FieldType)} {con : Nat → Option Value} {i : Instr} {pc : Nat} {ls ls' : y_L} {st : List Value} {M : y_M} {F : y_F} (h : y_outs O fld con i pc ls st M = some F) : y_outs O fld con i pc ls' st M = some (F.1, ls', F.2.2) ∧ F.2.1 = ls := by
  unfold y_outs at h ⊢
  split at h
  · split at h
    · split at h
      · split at h
        · cases h
          exact ⟨rfl, rfl⟩
        · cases h
      · cases h
    · cases h
  · split at h
    · split at h
      · split at h
        · cases h
          exact ⟨rfl, rfl⟩
        · cases h
      · cases h
    · cases h
  · split at h
    · split at h
      · split at h
        · cases h
          exact ⟨rfl, rfl⟩
        · cases h
      · cases h
    · cases h
  · split at h
    · split at h
      · cases h
        exact ⟨rfl, rfl⟩
      · cases h
        exact ⟨rfl, rfl⟩
      · cases h
    · cases h
  · split at h
    · cases h
      exact ⟨rfl, rfl⟩
    · cases h
  · split at h
    · cases h
      exact ⟨rfl, rfl⟩
    · cases h
      exact ⟨rfl, rfl⟩
    · cases h
  · cases h
variable {ρ : Type} {K : q_K ρ} {P : y_P}
theorem w_outC_ls {mi : Nat} {i : Instr} {pc : Nat} {ls ls' : y_L} {st : List Value} {M : q_M ρ} {F : q_F ρ} (h : q_outC P mi i pc ls st M = some F) : q_outC P mi i pc ls' st M = some (F.1, ls', F.2.2) ∧ F.2.1 = ls := by
  unfold q_outC at h ⊢
  cases h0 : y_outs (y_far0 P) (y_fld P mi) (y_con P mi) i pc ls st q_D0 with
  | none => rw [h0] at h; cases h
  | some F0 =>
    obtain ⟨e1, e2⟩ := w_outs_ls (ls' := ls') h0
    rw [h0] at h
    rw [e1]
    dsimp only at h ⊢
    cases hb : y_oks 0 (F0.2.2.1.take 1) with
    | false => rw [hb] at h; cases h
    | true =>
      rw [hb] at h
      cases h
      exact ⟨rfl, e2⟩
theorem w_getf_ls {fld : Nat → Option (Nat × Nat × Nat × FieldType)} {idx pc : Nat} {ls ls' : y_L} {st : List Value} {M : q_M ρ} {F : q_F ρ} (h : q_getf fld idx pc ls st M = some F) : q_getf fld idx pc ls' st M = some (F.1, ls', F.2.2) ∧ F.2.1 = ls := by
  unfold q_getf at h ⊢
  repeat' split at h
  all_goals first | (cases h; done) | (cases h; exact ⟨rfl, rfl⟩)
theorem w_putf_ls {ini : Bool} {fld : Nat → Option (Nat × Nat × Nat × FieldType)} {idx pc : Nat} {ls ls' : y_L} {st : List Value} {M : q_M ρ} {F : q_F ρ} (h : q_putf ini fld idx pc ls st M = some F) : q_putf ini fld idx pc ls' st M = some (F.1, ls', F.2.2) ∧ F.2.1 = ls := by
  unfold q_putf at h ⊢
  repeat' split at h
  all_goals first | (cases h; done) | (cases h; exact ⟨rfl, rfl⟩)
theorem w_ald_ls {ty : FieldType} {pc : Nat} {ls ls' : y_L} {st : List Value} {M : q_M ρ} {F : q_F ρ} (h : q_ald K ty pc ls st M = some F) : q_ald K ty pc ls' st M = some (F.1, ls', F.2.2) ∧ F.2.1 = ls := by
  unfold q_ald at h ⊢
  repeat' split at h
  all_goals first | (cases h; done) | (cases h; exact ⟨rfl, rfl⟩)
theorem w_ast_ls {ty : FieldType} {pc : Nat} {ls ls' : y_L} {st : List Value} {M : q_M ρ} {F : q_F ρ} (h : q_ast K ty pc ls st M = some F) : q_ast K ty pc ls' st M = some (F.1, ls', F.2.2) ∧ F.2.1 = ls := by
  unfold q_ast at h ⊢
  repeat' split at h
  all_goals first | (cases h; done) | (cases h; exact ⟨rfl, rfl⟩)
theorem w_alen_ls {pc : Nat} {ls ls' : y_L} {st : List Value} {M : q_M ρ} {F : q_F ρ} (h : q_alen pc ls st M = some F) : q_alen pc ls' st M = some (F.1, ls', F.2.2) ∧ F.2.1 = ls := by
  unfold q_alen at h ⊢
  repeat' split at h
  all_goals first | (cases h; done) | (cases h; exact ⟨rfl, rfl⟩)
theorem w_new_ls {ci : Nat} {fs : List Value} {pc : Nat} {ls ls' : y_L} {st : List Value} {M : q_M ρ} {F : q_F ρ} (h : q_new ci fs pc ls st M = some F) : q_new ci fs pc ls' st M = some (F.1, ls', F.2.2) ∧ F.2.1 = ls := by
  unfold q_new at h ⊢
  repeat' split at h
  all_goals first | (cases h; done) | (cases h; exact ⟨rfl, rfl⟩)
theorem w_newa_ls {ty : FieldType} {pc : Nat} {ls ls' : y_L} {st : List Value} {M : q_M ρ} {F : q_F ρ} (h : q_newa K ty pc ls st M = some F) : q_newa K ty pc ls' st M = some (F.1, ls', F.2.2) ∧ F.2.1 = ls := by
  unfold q_newa at h ⊢
  repeat' split at h
  all_goals first | (cases h; done) | (cases h; exact ⟨rfl, rfl⟩)
theorem w_mkE_ls {mi idx pc : Nat} {ls ls' : y_L} {st : List Value} {M : q_M ρ} {F : q_F ρ} (h : q_mkE P mi idx pc ls st M = some F) : q_mkE P mi idx pc ls' st M = some (F.1, ls', F.2.2) ∧ F.2.1 = ls := by
  unfold q_mkE at h ⊢
  repeat' split at h
  all_goals first | (cases h; done) | (cases h; exact ⟨rfl, rfl⟩)
theorem w_other_ls {mi : Nat} {i : Instr} {pc : Nat} {ls ls' : y_L} {st : List Value} {M : q_M ρ} {F : q_F ρ} (h : q_other K P mi i pc ls st M = some F) (hs : w_sb ls ls') : ∃ l1, q_other K P mi i pc ls' st M = some (F.1, l1, F.2.2) ∧ w_sb F.2.1 l1 := by
  have fin : ∀ {o : Option (q_F ρ)}, o = some (F.1, ls', F.2.2) ∧ F.2.1 = ls → ∃ l1, o = some (F.1, l1, F.2.2) ∧ w_sb F.2.1 l1 := fun q => ⟨ls', q.1, q.2 ▸ hs⟩
  unfold q_other at h ⊢
  split at h
  · cases hq : q_out1 st with
    | true => rw [hq] at h; exact fin (w_outC_ls h)
    | false => rw [hq] at h; exact fin (w_getf_ls h)
  · exact fin (w_putf_ls h)
  · cases hq : q_out2 st with
    | true => rw [hq] at h; exact fin (w_outC_ls h)
    | false => rw [hq] at h; exact fin (w_ald_ls h)
  · cases hq : q_out2 st with
    | true => rw [hq] at h; exact fin (w_outC_ls h)
    | false => rw [hq] at h; exact fin (w_ald_ls h)
  · exact fin (w_ast_ls h)
  · exact fin (w_ast_ls h)
  · cases hq : q_out1 st with
    | true => rw [hq] at h; exact fin (w_outC_ls h)
    | false => rw [hq] at h; exact fin (w_alen_ls h)
  · rename_i idx
    cases hc : y_cls P mi idx with
    | none => rw [hc] at h; exact fin (w_mkE_ls h)
    | some q =>
      obtain ⟨ci, fs⟩ := q
      rw [hc] at h; exact fin (w_new_ls h)
  · exact fin (w_newa_ls h)
  · exact fin (w_newa_ls h)
  · rename_i idx
    cases hc : y_con P mi (2 * idx) with
    | none => rw [hc] at h; exact fin (w_outC_ls h)
    | some v =>
      rw [hc] at h
      cases v with
      | int x => cases h; exact fin ⟨rfl, rfl⟩
      | _ => exact fin (w_outC_ls h)
  · rename_i idx
    cases hc : y_con P mi (2 * idx) with
    | none => rw [hc] at h; cases h
    | some v =>
      rw [hc] at h
      cases v with
      | int x => cases h; exact fin ⟨rfl, rfl⟩
      | _ => cases h
  · rename_i idx
    cases hc : y_con P mi (2 * idx) with
    | none => rw [hc] at h; cases h
    | some v =>
      rw [hc] at h
      cases v with
      | long x => cases h; exact fin ⟨rfl, rfl⟩
      | _ => cases h
  · exact fin (w_outC_ls h)
  · obtain ⟨F0, h1, rfl⟩ := q_lift_ok h
    obtain ⟨e1, e2⟩ := w_switch_ls (ls' := ls') h1
    refine fin ⟨?_, e2⟩
    rw [e1]
    rfl
  · obtain ⟨F0, h1, rfl⟩ := q_lift_ok h
    obtain ⟨l1, e1, e2⟩ := w_pure_ls h1 hs
    refine ⟨l1, ?_, e2⟩
    rw [e1]
    rfl
theorem w_call_ls {n d mi kd idx pc : Nat} {ls ls' : y_L} {st : List Value} {M : q_M ρ} {res : q_R ρ} (ih : ∀ {d mi pc : Nat} {ls ls' : y_L} {st : List Value} {M : q_M ρ} {res : q_R ρ}, w_sb ls ls' → q_run K P n d mi (pc, ls, st, M) = some res → q_run K P n d mi (pc, ls', st, M) = some res) (hs : w_sb ls ls') (h : q_call K P (q_run K P n) d mi kd idx pc ls st M = some res) : q_call K P (q_run K P n) d mi kd idx pc ls' st M = some res := by
  unfold q_call at h ⊢
  cases hc : y_cal P mi idx with
  | none => rw [hc] at h; cases h
  | some q =>
    obtain ⟨kind, cm, k, ci⟩ := q
    rw [hc] at h
    dsimp only at h ⊢
    cases h3 : Nat.beq kind 3 with
    | true =>
      rw [h3, cond_true] at h
      rw [cond_true]
      split at h
      case h_2 => cases h
      rename_i a t
      cases hb : (Nat.beq kd 2 && Nat.ble (y_words t) 8) with
      | false => rw [hb] at h; cases h
      | true => rw [hb] at h; exact ih hs h
    | false =>
      rw [h3, cond_false] at h
      rw [cond_false]
      cases h5 : Nat.beq kind 5 with
      | true =>
        rw [h5, cond_true] at h
        rw [cond_true]
        cases hmm : y_math cm st with
        | none => rw [hmm] at h; cases h
        | some q =>
          obtain ⟨v, t⟩ := q
          rw [hmm] at h
          dsimp only at h ⊢
          cases hb : (Nat.beq kd 1 && Nat.ble (y_words t) 8) with
          | false => rw [hb] at h; cases h
          | true => rw [hb] at h; exact ih hs h
      | false =>
        rw [h5, cond_false] at h
        rw [cond_false]
        cases h6 : Nat.beq kind 6 with
        | true =>
          rw [h6, cond_true] at h
          rw [cond_true]
          cases hcp : q_copy K st M with
          | none => rw [hcp] at h; cases h
          | some q =>
            obtain ⟨t, M'⟩ := q
            rw [hcp] at h
            dsimp only at h ⊢
            cases hb : (Nat.beq kd 1 && Nat.ble (y_words t) 8) with
            | false => rw [hb] at h; cases h
            | true => rw [hb] at h; exact ih hs h
        | false =>
          rw [h6, cond_false] at h
          rw [cond_false]
          cases hf : q_fitB P kind kd cm k ci st M with
          | false => rw [hf] at h; cases h
          | true =>
            rw [hf, cond_true] at h
            rw [cond_true]
            cases d with
            | zero => cases h
            | succ d' =>
              dsimp only at h ⊢
              cases hr : q_run K P n d' cm (0, lv_args 0 (st.take k).reverse, [], M) with
              | none => rw [hr] at h; cases h
              | some r1 =>
                rw [hr] at h
                obtain ⟨q1, M'⟩ := r1
                cases q1 with
                | inl v => exact ih hs h
                | inr a =>
                  dsimp only at h ⊢
                  cases hh : y_han P mi pc with
                  | none => rw [hh] at h; exact h
                  | some hq2 =>
                    obtain ⟨hp, cE⟩ := hq2
                    rw [hh] at h
                    dsimp only at h ⊢
                    cases hM : M'.1[a]? with
                    | none => rw [hM] at h; cases h
                    | some c =>
                      rw [hM] at h
                      cases c with
                      | inl _ => cases h
                      | inr q =>
                        obtain ⟨cj, fs⟩ := q
                        dsimp only at h ⊢
                        cases hb : Nat.beq cE cj with
                        | false => rw [hb] at h; cases h
                        | true => rw [hb] at h; exact ih hs h
theorem w_run_ls : ∀ (n : Nat) {d mi pc : Nat} {ls ls' : y_L} {st : List Value} {M : q_M ρ} {res : q_R ρ}, w_sb ls ls' → q_run K P n d mi (pc, ls, st, M) = some res → q_run K P n d mi (pc, ls', st, M) = some res
  | 0, _, _, _, _, _, _, _, _, _, h => by cases h
  | n + 1, d, mi, pc, ls, ls', st, M, res, hs, h => by
    rw [q_run_s] at h ⊢
    cases hi : y_ins P mi pc with
    | none =>
      unfold q_one at h
      dsimp only at h
      rw [hi] at h; cases h
    | some q =>
      obtain ⟨i, len⟩ := q
      cases hctl : y_isCtl i with
      | false =>
        rw [q_one_other hi hctl] at h
        rw [q_one_other hi hctl]
        cases ho : q_other K P mi i pc ls st M with
        | none => rw [ho] at h; cases h
        | some F' =>
          obtain ⟨l1, e1, e2⟩ := w_other_ls ho hs
          rw [ho] at h
          rw [e1]
          exact w_run_ls n e2 h
      | true =>
        unfold q_one at h ⊢
        dsimp only at h ⊢
        rw [hi] at h ⊢
        dsimp only at h ⊢
        cases i <;> first | (cases hctl; done) | skip
        case ireturn => exact h
        case lreturn => exact h
        case return_ => exact h
        case athrow => exact h
        case invokevirtual idx => exact w_call_ls (fun hs h => w_run_ls n hs h) hs h
        case invokestatic idx => exact w_call_ls (fun hs h => w_run_ls n hs h) hs h
        case invokespecial idx => exact w_call_ls (fun hs h => w_run_ls n hs h) hs h
end WSub
theorem w_ls {P : y_P} {d mi pc : Nat} {Q : w_X → w_M → Prop} {ls ls' : y_L} {st : List Value} {M : w_M} (h1 : (ls.map (fun q => q.1)).Nodup) (h2 : (ls'.map (fun q => q.1)).Nodup) (h3 : ∀ q ∈ ls, q ∈ ls') (h : w_W P d mi (pc, ls, st, M) Q) : w_W P d mi (pc, ls', st, M) Q := by
  obtain ⟨r, M', ⟨n, h4⟩, h5⟩ := h
  exact ⟨r, M', ⟨n, w_run_ls n ⟨h1, h2, h3⟩ h4⟩, h5⟩
