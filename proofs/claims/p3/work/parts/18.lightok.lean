/-! LIGHTOK: the light machine's runs are the small machine's. -/
section QFit
theorem y_ok_le {n m : Nat} (h : n ≤ m) {v : Value} (hv : y_ok n v = true) : y_ok m v = true := by
  cases v with
  | ref k =>
    unfold y_ok at hv ⊢
    rw [Bool.or_eq_true] at hv ⊢
    rcases hv with hv | hv
    · exact Or.inl (Nat.blt_eq.mpr (Nat.lt_of_lt_of_le (Nat.blt_eq.mp hv) h))
    · exact Or.inr hv
  | _ => rfl
theorem y_oks_le {n m : Nat} (h : n ≤ m) {st : List Value} (hv : y_oks n st = true) : y_oks m st = true := List.all_eq_true.mpr fun v hm => y_ok_le h (List.all_eq_true.mp hv v hm)
theorem y_okL_le {n m : Nat} (h : n ≤ m) {ls : y_L} (hv : y_okL n ls = true) : y_okL m ls = true := List.all_eq_true.mpr fun v hm => y_ok_le h (List.all_eq_true.mp hv v hm)
theorem y_okC_le {n m : Nat} (h : n ≤ m) {c : y_C} (hc : y_okC n c = true) : y_okC m c = true := by
  rcases c with x | ⟨ci, fs⟩
  · rfl
  · exact y_oks_le h hc
theorem y_wf_mk {ls : y_L} {st : List Value} {Ms : List y_C} (h1 : Ms.length < 1000000) (h2 : y_oks Ms.length st = true) (h3 : y_okL Ms.length ls = true) (h4 : y_okM Ms = true) : y_wf ls st Ms = true := by
  unfold y_wf
  rw [Nat.blt_eq.mpr h1, h2, h3, h4]
  rfl
theorem y_oks_sub {n : Nat} {st st' : List Value} (h : ∀ v ∈ st', v ∈ st) (hv : y_oks n st = true) : y_oks n st' = true := List.all_eq_true.mpr fun v hm => List.all_eq_true.mp hv v (h v hm)
theorem y_oks_cons {n : Nat} {v : Value} {t : List Value} (h1 : y_ok n v = true) (h2 : y_oks n t = true) : y_oks n (v :: t) = true := by
  unfold y_oks at h2 ⊢
  rw [List.all_cons, h1, h2]
  rfl
theorem y_oks_hd {n : Nat} {v : Value} {t : List Value} (h : y_oks n (v :: t) = true) : y_ok n v = true := List.all_eq_true.mp h v List.mem_cons_self
theorem y_oks_tl {n : Nat} {v : Value} {t : List Value} (h : y_oks n (v :: t) = true) : y_oks n t = true := y_oks_sub (fun _ h => List.mem_cons_of_mem _ h) h
theorem y_okL_set {n i : Nat} {ls : y_L} {v : Value} (h : y_okL n ls = true) (hv : y_ok n v = true) : y_okL n (y_set ls i v) = true := by
  refine List.all_eq_true.mpr fun q hq => ?_
  rcases List.mem_cons.mp hq with rfl | hq
  · exact hv
  · exact List.all_eq_true.mp h q (List.mem_filter.mp hq).1
theorem y_okL_set2 {n i : Nat} {ls : y_L} {v : Value} (h : y_okL n ls = true) (hv : y_ok n v = true) : y_okL n (y_set2 ls i v) = true := by
  refine List.all_eq_true.mpr fun q hq => ?_
  rcases List.mem_cons.mp hq with rfl | hq
  · exact hv
  · exact List.all_eq_true.mp h q (List.mem_filter.mp hq).1
theorem y_okL_get {n i : Nat} {ls : y_L} {v : Value} (h : y_okL n ls = true) (hg : y_get ls i = some v) : y_ok n v = true := List.all_eq_true.mp h _ (y_get_mem hg)
theorem y_okM_at {Ms : List y_C} {a : Nat} {c : y_C} (h : y_okM Ms = true) (ha : Ms[a]? = some c) : y_okC Ms.length c = true := List.all_eq_true.mp h c (List.mem_of_getElem? ha)
theorem y_okM_set {Ms : List y_C} {a : Nat} {c : y_C} (h : y_okM Ms = true) (hc : y_okC Ms.length c = true) : y_okM (Ms.set a c) = true := by
  unfold y_okM
  rw [List.length_set]
  refine List.all_eq_true.mpr fun q hq => ?_
  rcases List.mem_or_eq_of_mem_set hq with hq | rfl
  · exact List.all_eq_true.mp h q hq
  · exact hc
theorem y_okM_app {Ms : List y_C} {c : y_C} (h : y_okM Ms = true) (hc : y_okC (Ms.length + 1) c = true) : y_okM (Ms ++ [c]) = true := by
  unfold y_okM
  rw [List.length_append, List.length_singleton]
  refine List.all_eq_true.mpr fun q hq => ?_
  rcases List.mem_append.mp hq with hq | hq
  · exact y_okC_le (Nat.le_succ _) (List.all_eq_true.mp h q hq)
  · rw [List.mem_singleton.mp hq]
    exact hc
theorem y_okL_args {n : Nat} : ∀ {as : List Value} {i : Nat}, y_oks n as = true → y_okL n (lv_args i as) = true
  | [], _, _ => rfl
  | v :: t, i, h => by
    show y_okL n ((i, v) :: lv_args (if v.category = 2 then i + 2 else i + 1) t) = true
    unfold y_okL
    rw [List.all_cons, y_oks_hd h]
    exact y_okL_args (y_oks_tl h)
theorem y_pure_wf {n nL : Nat} {i : Instr} {pc : Nat} {ls : y_L} {st : List Value} {M : y_M} {F : y_F} (h : y_pure nL i pc ls st M = some F) (h1 : y_oks n st = true) (h2 : y_okL n ls = true) : y_oks n F.2.2.1 = true ∧ y_okL n F.2.1 = true := by
  unfold y_pure at h
  split at h <;> first
    | (cases h; done)
    | (cases h; exact ⟨y_oks_cons rfl h1, h2⟩)
    | (obtain ⟨x, hg, rfl⟩ := y_loadI_spec h; exact ⟨y_oks_cons rfl h1, h2⟩)
    | (obtain ⟨x, hg, rfl⟩ := y_loadL_spec h; exact ⟨y_oks_cons rfl h1, h2⟩)
    | (rcases y_loadA_spec h with ⟨x, hg, rfl⟩ | ⟨hg, rfl⟩ <;> exact ⟨y_oks_cons (y_okL_get h2 hg) h1, h2⟩)
    | (obtain ⟨x, r, rfl, hl, rfl⟩ := y_storeI_spec h; exact ⟨y_oks_tl h1, y_okL_set h2 rfl⟩)
    | (obtain ⟨x, r, rfl, hl, rfl⟩ := y_storeL_spec h; exact ⟨y_oks_tl h1, y_okL_set2 h2 rfl⟩)
    | (rcases y_storeA_spec h with ⟨x, r, rfl, hl, rfl⟩ | ⟨r, rfl, hl, rfl⟩ <;> exact ⟨y_oks_tl h1, y_okL_set h2 (y_oks_hd h1)⟩)
    | (obtain ⟨x, hg, hl, rfl⟩ := y_inc_spec h; exact ⟨h1, y_okL_set h2 rfl⟩)
    | (obtain ⟨x, y, r, rfl, rfl⟩ := y_int2_spec h; exact ⟨y_oks_cons rfl (y_oks_tl (y_oks_tl h1)), h2⟩)
    | (obtain ⟨x, r, rfl, rfl⟩ := y_int_spec h; exact ⟨y_oks_cons rfl (y_oks_tl h1), h2⟩)
    | (obtain ⟨x, y, r, rfl, rfl⟩ := y_long2_spec h; exact ⟨y_oks_cons rfl (y_oks_tl (y_oks_tl h1)), h2⟩)
    | (obtain ⟨x, y, r, rfl, rfl⟩ := y_longI_spec h; exact ⟨y_oks_cons rfl (y_oks_tl (y_oks_tl h1)), h2⟩)
    | (obtain ⟨x, r, t, rfl, he, rfl⟩ := y_br1_spec h; exact ⟨y_oks_tl h1, h2⟩)
    | (obtain ⟨x, y, r, t, rfl, he, rfl⟩ := y_br2_spec h; exact ⟨y_oks_tl (y_oks_tl h1), h2⟩)
    | (rcases y_brN_spec h with ⟨r, t, rfl, he, rfl⟩ | ⟨a, r, t, rfl, he, rfl⟩ <;> exact ⟨y_oks_tl h1, h2⟩)
    | (obtain ⟨t, he, rfl⟩ := y_go_spec h; exact ⟨h1, h2⟩)
    | (split at h <;> cases h <;> first | exact ⟨y_oks_cons rfl (y_oks_tl h1), h2⟩ | exact ⟨y_oks_cons rfl (y_oks_tl (y_oks_tl h1)), h2⟩ | exact ⟨y_oks_cons (y_oks_hd h1) h1, h2⟩ | exact ⟨y_oks_tl h1, h2⟩)
theorem y_jump_of {pc : Nat} {off : Int} {t : Nat} (he : (pc : Int) + off = (t : Int)) : y_jump pc off = some t := by
  unfold y_jump
  rw [he]
theorem y_go_of {pc : Nat} {off : Int} {len t : Nat} {b : Bool} {ls : y_L} {st : List Value} {M : y_M} (he : (pc : Int) + off = (t : Int)) : y_go pc off len b ls st M = some (cond b t (pc + len), ls, st, M) := by
  unfold y_go
  rw [y_jump_of he]
theorem y_pure_D {nL : Nat} {i : Instr} {pc : Nat} {ls : y_L} {st : List Value} {M M' : y_M} {F : y_F} (h : y_pure nL i pc ls st M = some F) : y_pure nL i pc ls st M' = some (F.1, F.2.1, F.2.2.1, M') := by
  unfold y_pure at h ⊢
  split at h <;> first
    | (cases h; done)
    | (cases h; rfl)
    | (obtain ⟨x, hg, rfl⟩ := y_loadI_spec h; unfold y_loadI; rw [hg])
    | (obtain ⟨x, hg, rfl⟩ := y_loadL_spec h; unfold y_loadL; rw [hg])
    | (rcases y_loadA_spec h with ⟨x, hg, rfl⟩ | ⟨hg, rfl⟩ <;> (unfold y_loadA; rw [hg]))
    | (obtain ⟨x, r, rfl, hl, rfl⟩ := y_storeI_spec h; unfold y_storeI; exact if_pos hl)
    | (obtain ⟨x, r, rfl, hl, rfl⟩ := y_storeL_spec h; unfold y_storeL; exact if_pos hl)
    | (rcases y_storeA_spec h with ⟨x, r, rfl, hl, rfl⟩ | ⟨r, rfl, hl, rfl⟩ <;> (unfold y_storeA; exact if_pos hl))
    | (obtain ⟨x, hg, hl, rfl⟩ := y_inc_spec h; unfold y_inc; rw [hg]; exact if_pos hl)
    | (obtain ⟨x, y, r, rfl, rfl⟩ := y_int2_spec h; rfl)
    | (obtain ⟨x, r, rfl, rfl⟩ := y_int_spec h; rfl)
    | (obtain ⟨x, y, r, rfl, rfl⟩ := y_long2_spec h; rfl)
    | (obtain ⟨x, y, r, rfl, rfl⟩ := y_longI_spec h; rfl)
    | (obtain ⟨x, r, t, rfl, he, rfl⟩ := y_br1_spec h; exact y_go_of he)
    | (obtain ⟨x, y, r, t, rfl, he, rfl⟩ := y_br2_spec h; exact y_go_of he)
    | (rcases y_brN_spec h with ⟨r, t, rfl, he, rfl⟩ | ⟨a, r, t, rfl, he, rfl⟩ <;> exact y_go_of he)
    | (obtain ⟨t, he, rfl⟩ := y_go_spec h; exact y_go_of he)
    | (split at h <;> first | (cases h; done) | (cases h; rfl))
theorem y_switch_D {d lo hi : Int} {offs : Array Int} {pc : Nat} {ls : y_L} {st : List Value} {M M' : y_M} {F : y_F} (h : y_switch d lo hi offs pc ls st M = some F) : y_switch d lo hi offs pc ls st M' = some (F.1, F.2.1, F.2.2.1, M') ∧ F.2.1 = ls ∧ ∀ v ∈ F.2.2.1, v ∈ st := by
  unfold y_switch at h ⊢
  split at h
  · split at h
    · rename_i hq
      rw [if_pos hq]
      obtain ⟨t, he, rfl⟩ := y_go_spec h
      exact ⟨y_go_of he, rfl, fun _ h => List.mem_cons_of_mem _ h⟩
    · rename_i hq
      rw [if_neg hq]
      split at h
      · rename_i off ho
        obtain ⟨t, he, rfl⟩ := y_go_spec h
        exact ⟨y_go_of he, rfl, fun _ h => List.mem_cons_of_mem _ h⟩
      · cases h
  · cases h
theorem y_outs_D {O : Nat → Option y_C} {fld : Nat → Option (Nat × Nat × Nat × FieldType)} {con : Nat → Option Value} {i : Instr} {pc : Nat} {ls : y_L} {st : List Value} {M M' : y_M} {F : y_F} (h : y_outs O fld con i pc ls st M = some F) : y_outs O fld con i pc ls st M' = some (F.1, F.2.1, F.2.2.1, M') ∧ F.2.1 = ls ∧ ∃ v t, F.2.2.1 = v :: t ∧ ∀ x ∈ t, x ∈ st := by
  unfold y_outs at h ⊢
  split at h
  · split at h
    · split at h
      · split at h
        · cases h
          exact ⟨rfl, rfl, _, _, rfl, fun _ h => List.mem_cons_of_mem _ h⟩
        · cases h
      · cases h
    · cases h
  · split at h
    · split at h
      · split at h
        · cases h
          exact ⟨rfl, rfl, _, _, rfl, fun _ h => List.mem_cons_of_mem _ (List.mem_cons_of_mem _ h)⟩
        · cases h
      · cases h
    · cases h
  · split at h
    · split at h
      · split at h
        · cases h
          exact ⟨rfl, rfl, _, _, rfl, fun _ h => List.mem_cons_of_mem _ (List.mem_cons_of_mem _ h)⟩
        · cases h
      · cases h
    · cases h
  · split at h
    · split at h
      · cases h
        exact ⟨rfl, rfl, _, _, rfl, fun _ h => List.mem_cons_of_mem _ h⟩
      · cases h
        exact ⟨rfl, rfl, _, _, rfl, fun _ h => List.mem_cons_of_mem _ h⟩
      · cases h
    · cases h
  · split at h
    · cases h
      exact ⟨rfl, rfl, _, _, rfl, fun _ h => h⟩
    · cases h
  · split at h
    · cases h
      exact ⟨rfl, rfl, _, _, rfl, fun _ h => h⟩
    · cases h
      exact ⟨rfl, rfl, _, _, rfl, fun _ h => h⟩
    · cases h
  · cases h
end QFit
section QOk
variable {ρ : Type} {K : q_K ρ} {P : y_P}
theorem q_at {M : q_M ρ} {a : Nat} {c : q_C ρ} (h : M.1[a]? = some c) : (q_aM K M).1[a]? = some (q_aC K c) := by
  show (M.1.map (q_aC K))[a]? = _
  rw [List.getElem?_map, h]
  rfl
theorem q_len {M : q_M ρ} : (q_aM K M).1.length = M.1.length := List.length_map _
theorem q_set {M : q_M ρ} {a : Nat} {c : q_C ρ} : (q_aM K (M.1.set a c, M.2)) = ((q_aM K M).1.set a (q_aC K c), (q_aM K M).2) := by
  unfold q_aM
  rw [List.map_set]
theorem q_app {M : q_M ρ} {c : q_C ρ} {x y : Nat} : q_aM K (M.1 ++ [c], x, y) = ((q_aM K M).1 ++ [q_aC K c], x, y) := by
  unfold q_aM
  rw [List.map_append]
  rfl
theorem q_out_none {M : q_M ρ} {a : Nat} (hl : (q_aM K M).1.length < 1000000) (h : Nat.ble 1000000 a = true) : (q_aM K M).1[a]? = none := List.getElem?_eq_none (by have := Nat.ble_eq.mp h; omega)
theorem q_getf_ok {fld : Nat → Option (Nat × Nat × Nat × FieldType)} {idx pc : Nat} {ls : y_L} {st : List Value} {M : q_M ρ} {F : q_F ρ} (hw : y_wf ls st (q_aM K M).1 = true) (h : q_getf fld idx pc ls st M = some F) : y_getf fld idx pc ls st (q_aM K M) = some (q_aF K F) ∧ y_wf F.2.1 F.2.2.1 (q_aM K F.2.2.2).1 = true := by
  obtain ⟨w1, w2, w3, w4⟩ := y_wf_ok hw
  unfold q_getf at h
  split at h
  case h_2 => cases h
  rename_i a t
  split at h
  case h_2 => cases h
  rename_i ci fs cj k fin ty hM hf
  split at h
  case h_2 => cases h
  rename_i v hb hk
  cases h
  have hM' := q_at (K := K) hM
  refine ⟨?_, y_wf_mk w1 (y_oks_cons ?_ (y_oks_tl w2)) w3 w4⟩
  · unfold y_getf
    dsimp only
    rw [hM', hf]
    dsimp only [q_aC]
    rw [hb, hk]
    rfl
  · have := y_okM_at w4 hM'
    exact List.all_eq_true.mp (show y_oks _ fs = true from this) v (List.mem_of_getElem? hk)
theorem q_putf_ok {ini : Bool} {fld : Nat → Option (Nat × Nat × Nat × FieldType)} {idx pc : Nat} {ls : y_L} {st : List Value} {M : q_M ρ} {F : q_F ρ} (hw : y_wf ls st (q_aM K M).1 = true) (h : q_putf ini fld idx pc ls st M = some F) : y_putf ini fld idx pc ls st (q_aM K M) = some (q_aF K F) ∧ y_wf F.2.1 F.2.2.1 (q_aM K F.2.2.2).1 = true := by
  obtain ⟨w1, w2, w3, w4⟩ := y_wf_ok hw
  unfold q_putf at h
  split at h
  case h_2 => cases h
  rename_i v a t
  split at h
  case h_2 => cases h
  rename_i ci fs cj k fin ty hM hf
  split at h
  case h_2 => cases h
  rename_i hb
  cases h
  have hM' := q_at (K := K) hM
  have hC : y_okC (q_aM K M).1.length (.inr (ci, fs.set k v)) = true := by
    have h1 := y_okM_at w4 hM'
    refine List.all_eq_true.mpr fun q hq => ?_
    rcases List.mem_or_eq_of_mem_set hq with hq | rfl
    · exact List.all_eq_true.mp (show y_oks _ fs = true from h1) q hq
    · exact y_oks_hd w2
  refine ⟨?_, ?_⟩
  · unfold y_putf
    dsimp only
    rw [hM', hf]
    dsimp only [q_aC]
    rw [hb]
    dsimp only [q_aF]
    rw [q_set]
    rfl
  · dsimp only
    rw [q_set]
    exact y_wf_mk (by rw [List.length_set]; exact w1) (by rw [List.length_set]; exact y_oks_tl (y_oks_tl w2)) (by rw [List.length_set]; exact w3) (y_okM_set w4 hC)
theorem q_ald_ok {ty : FieldType} {pc : Nat} {ls : y_L} {st : List Value} {M : q_M ρ} {F : q_F ρ} (hw : y_wf ls st (q_aM K M).1 = true) (h : q_ald K ty pc ls st M = some F) : y_ald ty pc ls st (q_aM K M) = some (q_aF K F) ∧ y_wf F.2.1 F.2.2.1 (q_aM K F.2.2.2).1 = true := by
  obtain ⟨w1, w2, w3, w4⟩ := y_wf_ok hw
  unfold q_ald at h
  split at h
  case h_2 => cases h
  rename_i i a t
  split at h
  case h_2 => cases h
  rename_i ty' n f hM
  split at h
  case h_2 => cases h
  rename_i hb
  cases h
  have hM' := q_at (K := K) hM
  refine ⟨?_, y_wf_mk w1 (y_oks_cons rfl (y_oks_tl (y_oks_tl w2))) w3 w4⟩
  unfold y_ald
  dsimp only
  rw [hM']
  dsimp only [q_aC]
  rw [hb]
  rfl
theorem q_ast_ok (hK : q_law K) {ty : FieldType} {pc : Nat} {ls : y_L} {st : List Value} {M : q_M ρ} {F : q_F ρ} (hw : y_wf ls st (q_aM K M).1 = true) (h : q_ast K ty pc ls st M = some F) : y_ast ty pc ls st (q_aM K M) = some (q_aF K F) ∧ y_wf F.2.1 F.2.2.1 (q_aM K F.2.2.2).1 = true := by
  obtain ⟨w1, w2, w3, w4⟩ := y_wf_ok hw
  unfold q_ast at h
  split at h
  case h_2 => cases h
  rename_i x i a t
  split at h
  case h_2 => cases h
  rename_i ty' n f hM
  split at h
  case h_2 => cases h
  rename_i hb
  cases h
  have hM' := q_at (K := K) hM
  refine ⟨?_, ?_⟩
  · unfold y_ast
    dsimp only
    rw [hM']
    dsimp only [q_aC]
    rw [hb]
    dsimp only [q_aF]
    rw [q_set]
    dsimp only [q_aC]
    rw [hK.1]
  · dsimp only
    rw [q_set]
    exact y_wf_mk (by rw [List.length_set]; exact w1) (by rw [List.length_set]; exact y_oks_tl (y_oks_tl (y_oks_tl w2))) (by rw [List.length_set]; exact w3) (y_okM_set w4 rfl)
theorem q_alen_ok {pc : Nat} {ls : y_L} {st : List Value} {M : q_M ρ} {F : q_F ρ} (hw : y_wf ls st (q_aM K M).1 = true) (h : q_alen pc ls st M = some F) : y_alen pc ls st (q_aM K M) = some (q_aF K F) ∧ y_wf F.2.1 F.2.2.1 (q_aM K F.2.2.2).1 = true := by
  obtain ⟨w1, w2, w3, w4⟩ := y_wf_ok hw
  unfold q_alen at h
  split at h
  case h_2 => cases h
  rename_i a t
  split at h
  case h_2 => cases h
  rename_i ty n f hM
  split at h
  case h_2 => cases h
  rename_i hb
  cases h
  have hM' := q_at (K := K) hM
  refine ⟨?_, y_wf_mk w1 (y_oks_cons rfl (y_oks_tl w2)) w3 w4⟩
  unfold y_alen
  dsimp only
  rw [hM']
  dsimp only [q_aC]
  rw [hb]
  rfl
theorem q_new_wf {ls : y_L} {st st' : List Value} {M : q_M ρ} {c : q_C ρ} {x y : Nat} (hw : y_wf ls st (q_aM K M).1 = true) (hs : ∀ v ∈ st', v ∈ st) (hl : Nat.blt (M.1.length + 1) 1000000 = true) (hc : y_okC (M.1.length + 1) (q_aC K c) = true) : y_wf ls (.ref M.1.length :: st') (q_aM K (M.1 ++ [c], x, y)).1 = true := by
  obtain ⟨w1, w2, w3, w4⟩ := y_wf_ok hw
  have hl' := Nat.blt_eq.mp hl
  rw [q_app]
  have e1 : ((q_aM K M).1 ++ [q_aC K c]).length = M.1.length + 1 := by rw [List.length_append, q_len]; rfl
  rw [q_len] at w2 w3
  refine y_wf_mk (by rw [e1]; exact hl') (by
    rw [e1]
    refine y_oks_cons ?_ (y_oks_le (Nat.le_succ _) (y_oks_sub hs w2))
    exact Bool.or_eq_true_iff.mpr (Or.inl (Nat.blt_eq.mpr (Nat.lt_succ_self _)))) (by rw [e1]; exact y_okL_le (Nat.le_succ _) w3) (y_okM_app w4 (by rw [q_len]; exact hc))
theorem q_newa_ok (hK : q_law K) {ty : FieldType} {pc : Nat} {ls : y_L} {st : List Value} {M : q_M ρ} {F : q_F ρ} (hw : y_wf ls st (q_aM K M).1 = true) (h : q_newa K ty pc ls st M = some F) : y_newa ty pc ls st (q_aM K M) = some (q_aF K F) ∧ y_wf F.2.1 F.2.2.1 (q_aM K F.2.2.2).1 = true := by
  obtain ⟨w1, w2, w3, w4⟩ := y_wf_ok hw
  unfold q_newa at h
  split at h
  case h_2 => cases h
  rename_i n t
  split at h
  case h_2 => cases h
  rename_i hb
  cases h
  simp only [Bool.and_eq_true] at hb
  obtain ⟨⟨⟨b1, b2⟩, b3⟩, b4⟩ := hb
  refine ⟨?_, q_new_wf hw (fun _ h => List.mem_cons_of_mem _ h) b4 rfl⟩
  unfold y_newa
  dsimp only
  have hw2 : y_wf ls t (q_aM K M).1 = true := y_wf_mk w1 (y_oks_tl w2) w3 w4
  rw [hw2, b1, b2, b3]
  dsimp only [q_aF, Bool.and_self]
  rw [q_app, q_len]
  dsimp only [q_aC]
  rw [hK.2.1]
  rfl
theorem q_new_ok {cls : Nat → Option (Nat × List Value)} {idx ci : Nat} {fs : List Value} {pc : Nat} {ls : y_L} {st : List Value} {M : q_M ρ} {F : q_F ρ} (hc : cls idx = some (ci, fs)) (hw : y_wf ls st (q_aM K M).1 = true) (h : q_new ci fs pc ls st M = some F) : y_new cls idx pc ls st (q_aM K M) = some (q_aF K F) ∧ y_wf F.2.1 F.2.2.1 (q_aM K F.2.2.2).1 = true := by
  unfold q_new at h
  split at h
  case h_2 => cases h
  rename_i hb
  cases h
  simp only [Bool.and_eq_true] at hb
  obtain ⟨b1, b2⟩ := hb
  refine ⟨?_, q_new_wf hw (fun _ h => h) b2 (y_oks_le (Nat.zero_le _) b1)⟩
  unfold y_new
  rw [hc]
  dsimp only
  rw [hw, b1]
  dsimp only [q_aF, Bool.and_self]
  rw [q_app, q_len]
  rfl
theorem q_mkE_ok {mi idx : Nat} {pc : Nat} {ls : y_L} {st : List Value} {M : q_M ρ} {F : q_F ρ} (hw : y_wf ls st (q_aM K M).1 = true) (h : q_mkE P mi idx pc ls st M = some F) : y_mkE P mi (.new idx) pc ls st (q_aM K M) = some (q_aF K F) ∧ y_wf F.2.1 F.2.2.1 (q_aM K F.2.2.2).1 = true := by
  unfold q_mkE at h
  split at h
  case h_2 => cases h
  rename_i cE ic l1 ic' l2 h1 h2 h3
  split at h
  case h_2 => cases h
  rename_i hb
  cases h
  simp only [Bool.and_eq_true] at hb
  obtain ⟨⟨b1, b2⟩, b3⟩ := hb
  refine ⟨?_, q_new_wf hw (fun _ h => h) b3 rfl⟩
  unfold y_mkE
  dsimp only
  rw [h1, h2, h3]
  dsimp only
  rw [hw, b1, b2]
  dsimp only [q_aF, Bool.and_self]
  rw [q_app, q_len]
  rfl
theorem q_outC_ok {mi : Nat} {i : Instr} {pc : Nat} {ls : y_L} {st : List Value} {M : q_M ρ} {F : q_F ρ} (hw : y_wf ls st (q_aM K M).1 = true) (h : q_outC P mi i pc ls st M = some F) : y_outs (y_far0 P) (y_fld P mi) (y_con P mi) i pc ls st (q_aM K M) = some (q_aF K F) ∧ y_wf F.2.1 F.2.2.1 (q_aM K F.2.2.2).1 = true := by
  obtain ⟨w1, w2, w3, w4⟩ := y_wf_ok hw
  unfold q_outC at h
  split at h
  case h_2 => cases h
  rename_i F0 h0
  split at h
  case h_2 => cases h
  rename_i hb
  cases h
  obtain ⟨g1, g2, v, t, g3, g4⟩ := y_outs_D (M' := q_aM K M) h0
  refine ⟨g1, ?_⟩
  dsimp only
  rw [g3] at hb ⊢
  rw [g2]
  exact y_wf_mk w1 (y_oks_cons (y_ok_le (Nat.zero_le _) (y_oks_hd hb)) (y_oks_sub g4 w2)) w3 w4
theorem q_lift_ok {M : q_M ρ} {o : Option y_F} {F : q_F ρ} (h : q_lift M o = some F) : ∃ F0, o = some F0 ∧ F = (F0.1, F0.2.1, F0.2.2.1, M) := by
  unfold q_lift at h
  split at h
  · cases h
    exact ⟨_, rfl, rfl⟩
  · cases h
theorem q_other_ok (hK : q_law K) {mi : Nat} {i : Instr} {pc : Nat} {ls : y_L} {st : List Value} {M : q_M ρ} {F : q_F ρ} (hw : y_wf ls st (q_aM K M).1 = true) (h : q_other K P mi i pc ls st M = some F) :
    (y_cell P mi i pc ls st (q_aM K M) = some (q_aF K F) ∨ (y_cell P mi i pc ls st (q_aM K M) = none ∧ y_outs (y_far0 P) (y_fld P mi) (y_con P mi) i pc ls st (q_aM K M) = some (q_aF K F)) ∨ (y_cell P mi i pc ls st (q_aM K M) = none ∧ y_outs (y_far0 P) (y_fld P mi) (y_con P mi) i pc ls st (q_aM K M) = none ∧ y_mkE P mi i pc ls st (q_aM K M) = some (q_aF K F))) ∧ y_wf F.2.1 F.2.2.1 (q_aM K F.2.2.2).1 = true := by
  obtain ⟨w1, w2, w3, w4⟩ := y_wf_ok hw
  have ho1 : q_out1 st = true → ∃ a t, st = .ref a :: t ∧ (q_aM K M).1[a]? = none := fun hq => by
    unfold q_out1 at hq
    split at hq
    · exact ⟨_, _, rfl, q_out_none w1 hq⟩
    · cases hq
  have ho2 : q_out2 st = true → ∃ v a t, st = v :: .ref a :: t ∧ (q_aM K M).1[a]? = none := fun hq => by
    unfold q_out2 at hq
    split at hq
    · exact ⟨_, _, _, rfl, q_out_none w1 hq⟩
    · cases hq
  have hald : ∀ ty, q_out2 st = true → y_ald ty pc ls st (q_aM K M) = none := fun ty hq => by
    obtain ⟨v, a, t, rfl, hn⟩ := ho2 hq
    unfold y_ald
    split
    · rename_i i' a' t' he
      cases he
      rw [hn]
    · rfl
  unfold q_other at h
  split at h
  · rename_i idx
    cases hq : q_out1 st with
    | true =>
      rw [hq] at h
      obtain ⟨g1, g2⟩ := q_outC_ok hw h
      obtain ⟨a, t, rfl, hn⟩ := ho1 hq
      refine ⟨Or.inr (Or.inl ⟨?_, g1⟩), g2⟩
      unfold y_cell y_getf
      dsimp only
      rw [hn]
    | false =>
      rw [hq] at h
      obtain ⟨g1, g2⟩ := q_getf_ok hw h
      exact ⟨Or.inl g1, g2⟩
  · obtain ⟨g1, g2⟩ := q_putf_ok hw h
    exact ⟨Or.inl g1, g2⟩
  · cases hq : q_out2 st with
    | true =>
      rw [hq] at h
      obtain ⟨g1, g2⟩ := q_outC_ok hw h
      exact ⟨Or.inr (Or.inl ⟨hald .int hq, g1⟩), g2⟩
    | false =>
      rw [hq] at h
      obtain ⟨g1, g2⟩ := q_ald_ok hw h
      exact ⟨Or.inl g1, g2⟩
  · cases hq : q_out2 st with
    | true =>
      rw [hq] at h
      obtain ⟨g1, g2⟩ := q_outC_ok hw h
      exact ⟨Or.inr (Or.inl ⟨hald .byte hq, g1⟩), g2⟩
    | false =>
      rw [hq] at h
      obtain ⟨g1, g2⟩ := q_ald_ok hw h
      exact ⟨Or.inl g1, g2⟩
  · obtain ⟨g1, g2⟩ := q_ast_ok hK hw h
    exact ⟨Or.inl g1, g2⟩
  · obtain ⟨g1, g2⟩ := q_ast_ok hK hw h
    exact ⟨Or.inl g1, g2⟩
  · cases hq : q_out1 st with
    | true =>
      rw [hq] at h
      obtain ⟨g1, g2⟩ := q_outC_ok hw h
      obtain ⟨a, t, rfl, hn⟩ := ho1 hq
      refine ⟨Or.inr (Or.inl ⟨?_, g1⟩), g2⟩
      unfold y_cell y_alen
      dsimp only
      rw [hn]
    | false =>
      rw [hq] at h
      obtain ⟨g1, g2⟩ := q_alen_ok hw h
      exact ⟨Or.inl g1, g2⟩
  · rename_i idx
    cases hc : y_cls P mi idx with
    | some q =>
      obtain ⟨ci, fs⟩ := q
      rw [hc] at h
      obtain ⟨g1, g2⟩ := q_new_ok hc hw h
      exact ⟨Or.inl g1, g2⟩
    | none =>
      rw [hc] at h
      obtain ⟨g1, g2⟩ := q_mkE_ok hw h
      refine ⟨Or.inr (Or.inr ⟨?_, rfl, g1⟩), g2⟩
      unfold y_cell y_new
      dsimp only
      rw [hc]
  · obtain ⟨g1, g2⟩ := q_newa_ok hK hw h
    exact ⟨Or.inl g1, g2⟩
  · obtain ⟨g1, g2⟩ := q_newa_ok hK hw h
    exact ⟨Or.inl g1, g2⟩
  · rename_i idx
    split at h
    · rename_i v hc
      cases h
      refine ⟨Or.inl ?_, y_wf_mk w1 (y_oks_cons rfl w2) w3 w4⟩
      unfold y_cell
      dsimp only
      rw [hc]
      rfl
    · rename_i hc
      obtain ⟨g1, g2⟩ := q_outC_ok hw h
      refine ⟨Or.inr (Or.inl ⟨?_, g1⟩), g2⟩
      unfold y_cell
      dsimp only
      split
      · rename_i v hc'
        exact absurd hc' (hc v)
      · rfl
  · rename_i idx
    split at h
    · rename_i v hc
      cases h
      refine ⟨Or.inl ?_, y_wf_mk w1 (y_oks_cons rfl w2) w3 w4⟩
      unfold y_cell
      dsimp only
      rw [hc]
      rfl
    · cases h
  · rename_i idx
    split at h
    · rename_i v hc
      cases h
      refine ⟨Or.inl ?_, y_wf_mk w1 (y_oks_cons rfl w2) w3 w4⟩
      unfold y_cell
      dsimp only
      rw [hc]
      rfl
    · cases h
  · obtain ⟨g1, g2⟩ := q_outC_ok hw h
    exact ⟨Or.inr (Or.inl ⟨rfl, g1⟩), g2⟩
  · obtain ⟨F0, h0, rfl⟩ := q_lift_ok h
    obtain ⟨g1, g2, g3⟩ := y_switch_D (M' := q_aM K M) h0
    refine ⟨Or.inl g1, ?_⟩
    dsimp only
    rw [g2]
    exact y_wf_mk w1 (y_oks_sub g3 w2) w3 w4
  · obtain ⟨F0, h0, rfl⟩ := q_lift_ok h
    obtain ⟨g2, g3⟩ := y_pure_wf h0 w2 w3
    refine ⟨Or.inl ?_, y_wf_mk w1 g2 g3 w4⟩
    have g1 := y_pure_D (M' := q_aM K M) h0
    unfold y_cell
    split
    all_goals first
      | exact g1
      | (exfalso; rename_i hne; first | exact hne _ rfl | exact hne rfl | exact hne _ _ _ _ rfl)
      | (cases h0; done)
def q_vals : Option Value ⊕ Nat → List Value
  | .inl v => v.toList
  | .inr a => [.ref a]
theorem q_recv_ok {ci : Nat} {as : List Value} {M : q_M ρ} (h : q_recv ci as M.1 = true) : y_recv ci as (q_aM K M).1 = true := by
  unfold q_recv at h
  split at h
  · split at h
    · rename_i hM
      unfold y_recv
      dsimp only
      rw [q_at hM]
      exact h
    · cases h
  · cases h
theorem q_copy_ok (hK : q_law K) {st t : List Value} {M M' : q_M ρ} {ls : y_L} (hw : y_wf ls st (q_aM K M).1 = true) (h : q_copy K st M = some (t, M')) : y_copy st (q_aM K M) = some (t, q_aM K M') ∧ y_wf ls t (q_aM K M').1 = true := by
  obtain ⟨w1, w2, w3, w4⟩ := y_wf_ok hw
  unfold q_copy at h
  split at h
  case h_2 => cases h
  rename_i n dp a1 sp a0 t'
  split at h
  case h_2 => cases h
  rename_i n0 f n1 g hM0 hM1
  split at h
  case h_2 => cases h
  rename_i hb
  split at h
  case h_2 => cases h
  rename_i hh hcp
  cases h
  refine ⟨?_, ?_⟩
  · unfold y_copy
    dsimp only
    rw [q_at hM0, q_at hM1]
    dsimp only [q_aC]
    rw [hb]
    dsimp only
    rw [q_set]
    dsimp only [q_aC]
    rw [hK.2.2 _ _ _ _ _ _ hcp]
  · rw [q_set]
    exact y_wf_mk (by rw [List.length_set]; exact w1) (by rw [List.length_set]; exact y_oks_sub (fun v hv => by simp [hv]) w2) (by rw [List.length_set]; exact w3) (y_okM_set w4 rfl)
theorem y_math_oks {cm n : Nat} {st t : List Value} {v : Value} (h : y_math cm st = some (v, t)) (w : y_oks n st = true) : y_oks n (v :: t) = true := by
  unfold y_math at h
  split at h
  · cases h; exact y_oks_cons rfl (y_oks_tl (y_oks_tl w))
  · cases h; exact y_oks_cons rfl (y_oks_tl (y_oks_tl w))
  · cases h; exact y_oks_cons rfl (y_oks_tl (y_oks_tl w))
  · cases h
theorem q_call_ok (hK : q_law K) {n d mi kd idx pc : Nat} {ls : y_L} {st : List Value} {M : q_M ρ} {res : q_R ρ}
    (ih : ∀ {d mi : Nat} {F : q_F ρ} {res : q_R ρ}, q_run K P n d mi F = some res → y_wf F.2.1 F.2.2.1 (q_aM K F.2.2.2).1 = true → y_run P n d mi (q_aF K F) = some (q_aR K res) ∧ y_wf [] (q_vals res.1) (q_aM K res.2).1 = true)
    (hw : y_wf ls st (q_aM K M).1 = true) (h : q_call K P (q_run K P n) d mi kd idx pc ls st M = some res) : y_call P (y_run P n) d mi kd idx pc ls st (q_aM K M) = some (q_aR K res) ∧ y_wf [] (q_vals res.1) (q_aM K res.2).1 = true := by
  obtain ⟨w1, w2, w3, w4⟩ := y_wf_ok hw
  unfold q_call at h
  unfold y_call
  cases hc : y_cal P mi idx with
  | none => rw [hc] at h; cases h
  | some q =>
    obtain ⟨kind, cm, k, ci⟩ := q
    rw [hc] at h
    dsimp only at h ⊢
    cases h3 : Nat.beq kind 3 with
    | true =>
      rw [h3, cond_true] at h
      rw [if_pos (Nat.eq_of_beq_eq_true h3)]
      split at h
      case h_2 => cases h
      rename_i a t
      cases hb : (Nat.beq kd 2 && Nat.ble (y_words t) 8) with
      | false => rw [hb] at h; cases h
      | true =>
        rw [hb, cond_true] at h
        rw [Bool.and_eq_true] at hb
        dsimp only
        rw [if_pos ⟨Nat.eq_of_beq_eq_true hb.1, Nat.ble_eq.mp hb.2⟩]
        exact ih h (y_wf_mk w1 (y_oks_tl w2) w3 w4)
    | false =>
      rw [h3, cond_false] at h
      rw [if_neg (Nat.ne_of_beq_eq_false h3)]
      cases h5 : Nat.beq kind 5 with
      | true =>
        rw [h5, cond_true] at h
        rw [if_pos (Nat.eq_of_beq_eq_true h5)]
        cases hmm : y_math cm st with
        | none => rw [hmm] at h; cases h
        | some q =>
          obtain ⟨v, t⟩ := q
          rw [hmm] at h
          dsimp only at h ⊢
          cases hb : (Nat.beq kd 1 && Nat.ble (y_words t) 8) with
          | false => rw [hb] at h; cases h
          | true =>
            rw [hb, cond_true] at h
            rw [Bool.and_eq_true] at hb
            rw [if_pos ⟨Nat.eq_of_beq_eq_true hb.1, Nat.ble_eq.mp hb.2⟩]
            exact ih h (y_wf_mk w1 (y_math_oks hmm w2) w3 w4)
      | false =>
        rw [h5, cond_false] at h
        rw [if_neg (Nat.ne_of_beq_eq_false h5)]
        cases h6 : Nat.beq kind 6 with
        | true =>
          rw [h6, cond_true] at h
          rw [if_pos (Nat.eq_of_beq_eq_true h6)]
          split at h
          case h_2 => cases h
          rename_i t M' hcp
          obtain ⟨c1, c2⟩ := q_copy_ok hK hw hcp
          rw [c1]
          dsimp only
          cases hb : (Nat.beq kd 1 && Nat.ble (y_words t) 8) with
          | false => rw [hb] at h; cases h
          | true =>
            rw [hb, cond_true] at h
            rw [Bool.and_eq_true] at hb
            rw [if_pos ⟨Nat.eq_of_beq_eq_true hb.1, Nat.ble_eq.mp hb.2⟩]
            exact ih h c2
        | false =>
          rw [h6, cond_false] at h
          rw [if_neg (Nat.ne_of_beq_eq_false h6)]
          cases hf : q_fitB P kind kd cm k ci st M with
          | false => rw [hf] at h; cases h
          | true =>
            rw [hf, cond_true] at h
            have hdr : y_wf ls (st.drop k) (q_aM K M).1 = true := y_wf_mk w1 (y_oks_sub (fun v hv => List.mem_of_mem_drop hv) w2) w3 w4
            unfold q_fitB at hf
            simp only [Bool.and_eq_true, Bool.or_eq_true] at hf
            obtain ⟨⟨⟨⟨f1, f2⟩, f3⟩, f4⟩, f5⟩ := hf
            have hcond : (kind = kd ∨ (kind = 4 ∧ kd = 0)) ∧ k ≤ st.length ∧ y_words (st.drop k) ≤ 8 ∧ y_wf ls (st.drop k) (q_aM K M).1 = true ∧ (lg_sl (st.take k).reverse).length ≤ (y_met P cm).1 ∧ (kind = 0 → y_recv ci (st.take k).reverse (q_aM K M).1 = true) ∧ (kind = 2 → y_isRef (st.take k).reverse = true) ∧ (kind = 4 → y_recvO (y_far0 P) ci (st.take k).reverse = true) := by
              refine ⟨?_, Nat.ble_eq.mp f2, Nat.ble_eq.mp f3, hdr, Nat.ble_eq.mp f4, fun e => ?_, fun e => ?_, fun e => ?_⟩
              · rcases f1 with f1 | f1
                · exact Or.inl (Nat.eq_of_beq_eq_true f1)
                · exact Or.inr ⟨Nat.eq_of_beq_eq_true f1.1, Nat.eq_of_beq_eq_true f1.2⟩
              · subst e; exact q_recv_ok f5
              · subst e; exact f5
              · subst e; exact f5
            rw [if_pos hcond]
            cases d with
            | zero => cases h
            | succ d' =>
              dsimp only at h ⊢
              cases hr : q_run K P n d' cm (0, lv_args 0 (st.take k).reverse, [], M) with
              | none => rw [hr] at h; cases h
              | some r1 =>
                rw [hr] at h
                have hwc : y_wf (lv_args 0 (st.take k).reverse) [] (q_aM K M).1 = true := y_wf_mk w1 rfl (y_okL_args (y_oks_sub (fun v hv => List.mem_of_mem_take (List.mem_reverse.mp hv)) w2)) w4
                obtain ⟨i1, i2⟩ := ih hr hwc
                have hle := y_run_M i1
                obtain ⟨q1, M'⟩ := r1
                have i1' : y_run P n d' cm (0, lv_args 0 (st.take k).reverse, [], q_aM K M) = some (q1, q_aM K M') := i1
                rw [i1']
                obtain ⟨v1, v2, v3, v4⟩ := y_wf_ok i2
                have hll : (q_aM K M).1.length ≤ (q_aM K M').1.length := hle.1
                cases q1 with
                | inl v =>
                  dsimp only at h ⊢
                  refine ih h (y_wf_mk v1 ?_ (y_okL_le hll w3) v4)
                  refine List.all_eq_true.mpr fun x hx => ?_
                  rcases List.mem_append.mp hx with hx | hx
                  · exact List.all_eq_true.mp v2 x hx
                  · exact y_ok_le hll (List.all_eq_true.mp w2 x (List.mem_of_mem_drop hx))
                | inr a =>
                  dsimp only at h ⊢
                  cases hh : y_han P mi pc with
                  | none =>
                    rw [hh] at h
                    cases h
                    exact ⟨rfl, i2⟩
                  | some hq =>
                    obtain ⟨hp, cE⟩ := hq
                    rw [hh] at h
                    dsimp only at h ⊢
                    split at h
                    · rename_i cj fs hM
                      rw [q_at hM]
                      dsimp only [q_aC]
                      cases hb : Nat.beq cE cj with
                      | false => rw [hb] at h; cases h
                      | true =>
                        rw [hb, cond_true] at h
                        rw [if_pos (Nat.eq_of_beq_eq_true hb)]
                        exact ih h (y_wf_mk v1 v2 (y_okL_le hll w3) v4)
                    · cases h
theorem q_one_other {go : Nat → Nat → q_F ρ → Option (q_R ρ)} {d mi pc len : Nat} {i : Instr} {ls : y_L} {st : List Value} {M : q_M ρ} (hi : y_ins P mi pc = some (i, len)) (hc : y_isCtl i = false) : q_one K P go d mi (pc, ls, st, M) = (match q_other K P mi i pc ls st M with
    | some F' => go d mi F'
    | none => none) := by
  unfold q_one
  dsimp only
  rw [hi]
  dsimp only
  cases i <;> first | (cases hc; done) | rfl
theorem q_run_ok (hK : q_law K) : ∀ {n d mi : Nat} {F : q_F ρ} {res : q_R ρ}, q_run K P n d mi F = some res → y_wf F.2.1 F.2.2.1 (q_aM K F.2.2.2).1 = true → y_run P n d mi (q_aF K F) = some (q_aR K res) ∧ y_wf [] (q_vals res.1) (q_aM K res.2).1 = true
  | 0, _, _, _, _, h, _ => by cases h
  | n + 1, d, mi, (pc, ls, st, M), res, h, hw => by
    have ih : ∀ {d mi : Nat} {F : q_F ρ} {res : q_R ρ}, q_run K P n d mi F = some res → y_wf F.2.1 F.2.2.1 (q_aM K F.2.2.2).1 = true → y_run P n d mi (q_aF K F) = some (q_aR K res) ∧ y_wf [] (q_vals res.1) (q_aM K res.2).1 = true := fun h hw => q_run_ok hK h hw
    rw [q_run_s] at h
    rw [y_run_s]
    dsimp only at hw
    obtain ⟨w1, w2, w3, w4⟩ := y_wf_ok hw
    show y_one P (y_run P n) d mi (pc, ls, st, q_aM K M) = _ ∧ _
    cases hi : y_ins P mi pc with
    | none =>
      unfold q_one at h
      dsimp only at h
      rw [hi] at h; cases h
    | some q =>
      obtain ⟨i, len⟩ := q
      cases hctl : y_isCtl i with
      | false =>
        rw [q_one_other hi hctl] at h
        rw [y_one_other hi hctl]
        cases ho : q_other K P mi i pc ls st M with
        | none => rw [ho] at h; cases h
        | some F' =>
          rw [ho] at h
          obtain ⟨g, hw'⟩ := q_other_ok hK hw ho
          obtain ⟨k1, k2⟩ := ih h hw'
          refine ⟨?_, k2⟩
          rcases g with g | ⟨g, g'⟩ | ⟨g, g', g''⟩
          · rw [g]; exact k1
          · rw [g, g']; exact k1
          · rw [g, g', g'']; exact k1
      | true =>
        unfold q_one at h
        unfold y_one
        dsimp only at h ⊢
        rw [hi] at h ⊢
        dsimp only at h ⊢
        cases i <;> first | (cases hctl; done) | skip
        case ireturn =>
          dsimp only at h ⊢
          split at h
          · rename_i v ty hty
            cases hb : y_narB ty v with
            | false => rw [hb] at h; cases h
            | true =>
              rw [hb, cond_true] at h
              cases h
              rw [hty]
              dsimp only
              rw [if_pos hb]
              exact ⟨rfl, y_wf_mk w1 (y_oks_cons rfl rfl) rfl w4⟩
          · cases h
        case lreturn =>
          dsimp only at h ⊢
          split at h
          · rename_i v hty
            cases h
            rw [hty]
            exact ⟨rfl, y_wf_mk w1 (y_oks_cons rfl rfl) rfl w4⟩
          · cases h
        case return_ =>
          dsimp only at h ⊢
          split at h
          · rename_i hty
            cases h
            rw [hty]
            exact ⟨rfl, y_wf_mk w1 rfl rfl w4⟩
          · cases h
        case athrow =>
          dsimp only at h ⊢
          split at h
          · rename_i a t hty
            cases h
            rw [hty]
            exact ⟨rfl, y_wf_mk w1 (y_oks_cons (y_oks_hd w2) rfl) rfl w4⟩
          · cases h
        case invokevirtual idx => exact q_call_ok hK ih hw h
        case invokestatic idx => exact q_call_ok hK ih hw h
        case invokespecial idx => exact q_call_ok hK ih hw h
end QOk
section QForms
/-- arrays as lists of what was written -/
def q_fn : List (Nat × Int32) → Nat → Int32
  | [], _ => 0
  | (k, v) :: t, j => bif Nat.beq j k then v else q_fn t j
def q_put (i : Nat) (v : Int32) : List (Nat × Int32) → List (Nat × Int32)
  | [] => [(i, v)]
  | (k, w) :: t => bif Nat.beq i k then (i, v) :: t else (k, w) :: q_put i v t
theorem q_fn_put {i : Nat} {v : Int32} {j : Nat} : ∀ {l : List (Nat × Int32)}, q_fn (q_put i v l) j = if j = i then v else q_fn l j
  | [] => by
    unfold q_put q_fn
    cases h : Nat.beq j i with
    | true => rw [if_pos (Nat.eq_of_beq_eq_true h)]; rfl
    | false => rw [if_neg (Nat.ne_of_beq_eq_false h)]; rfl
  | (k, w) :: t => by
    unfold q_put
    cases h : Nat.beq i k with
    | true =>
      have e := Nat.eq_of_beq_eq_true h
      subst e
      rw [cond_true]
      show (bif Nat.beq j i then v else q_fn t j) = if j = i then v else (bif Nat.beq j i then w else q_fn t j)
      cases h2 : Nat.beq j i with
      | true => rw [if_pos (Nat.eq_of_beq_eq_true h2)]; rfl
      | false => rw [if_neg (Nat.ne_of_beq_eq_false h2)]; rfl
    | false =>
      rw [cond_false]
      show (bif Nat.beq j k then w else q_fn (q_put i v t) j) = if j = i then v else (bif Nat.beq j k then w else q_fn t j)
      rw [q_fn_put]
      cases h2 : Nat.beq j k with
      | true =>
        have e := Nat.eq_of_beq_eq_true h2
        subst e
        have hne : ¬ j = i := fun q => Nat.ne_of_beq_eq_false h q.symm
        simp only [if_neg hne]
      | false => rfl
def q_KL : q_K (List (Nat × Int32)) := (q_fn, fun l i v => q_put i v l, [], fun _ _ _ _ _ => none)
theorem q_KL_law : q_law q_KL := ⟨fun f i v => by
  funext j
  exact q_fn_put, rfl, fun _ _ _ _ _ _ h => by cases h⟩
/-- arrays as functions -/
def q_KF : q_K (Nat → Int32) := (fun f => f, upd, fun _ => 0, fun f g a b n => some (va_cpy f g a b n))
theorem q_KF_law : q_law q_KF := ⟨fun _ _ _ => rfl, rfl, fun _ _ _ _ _ _ h => by cases h; rfl⟩
end QForms
