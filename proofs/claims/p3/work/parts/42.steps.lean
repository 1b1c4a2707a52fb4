/-! STEPS: instructions over a memory that holds what the tables say; calls. -/
section WSteps
variable {P : y_P} {d mi : Nat} {Q : w_X → w_M → Prop} {T : w_T} {fr : Nat → Bool} {X : Nat → Option (q_C (Nat → Int32))} {u l : Nat} {I : Nat → Int} {A : Nat → Int → Int} {B C : Nat → Nat} {M : w_M} {ls : y_L} {t : List Value}
theorem w_gf {pc len a cj k fin idx : Nat} {ty : FieldType} {ds : List (Value ⊕ Bool)} {v : Value} (h : w_Rep T fr X u l I A B C M) (hins : y_ins P mi pc = some (.getfield idx, len)) (hf : y_fld P mi idx = some (cj, k, fin, ty)) (hT : T.1 a = some (cj, ds)) (hk : (w_fs I B a 0 ds)[k]? = some v) (h2 : w_W P d mi (pc + 3, ls, v :: t, M) Q) : w_W P d mi (pc, ls, .ref a :: t, M) Q := w_getf hins hf h.len2 (h.o hT) hk h2
theorem w_pf {pc len a cj k idx : Nat} {ds : List (Value ⊕ Bool)} {v : Int} (h : w_Rep T fr X u l I A B C M) (hins : y_ins P mi pc = some (.putfield idx, len)) (hf : y_fld P mi idx = some (cj, k, 0, .int)) (hT : T.1 a = some (cj, ds)) (hk : ds[k]? = some (.inr false)) (hv : w_in v) (hz : a ∈ T.2.2 → k = 1 → 0 ≤ v ∧ v ≤ C a) (h2 : ∀ M', w_Rep T fr X u l (w_up I (64 * a + k) v) A B C M' → w_W P d mi (pc + 3, ls, t, M') Q) : w_W P d mi (pc, ls, .int (Int32.ofInt v) :: .ref a :: t, M) Q := by
  refine w_putf hins hf (h.o hT) rfl rfl ?_ (h2 _ (h.put hT hk hv hz))
  rw [w_fs_len]
  obtain ⟨q, -⟩ := List.getElem?_eq_some_iff.mp hk
  exact q
theorem w_la {pc len k n : Nat} {i : Int} {ty : FieldType} {ins : Instr} (h : w_Rep T fr X u l I A B C M) (hins : y_ins P mi pc = some (ins, len)) (hty : (ins = .iaload ∧ ty = .int) ∨ (ins = .baload ∧ ty = .byte)) (hT : T.2.1 k = some (ty, n)) (h0 : 0 ≤ i) (h1 : i < n) (h9 : n ≤ 2147483647) (h2 : w_W P d mi (pc + 1, ls, .int (Int32.ofInt (A k i)) :: t, M) Q) : w_W P d mi (pc, ls, .int (Int32.ofInt i) :: .ref k :: t, M) Q := w_ald hins hty h.len2 (h.a hT) ⟨by omega, by omega⟩ h0 h1 h2
theorem w_lr {pc len k : Nat} {i : Int} (h : w_Rep T fr X u l I A B C M) (hins : y_ins P mi pc = some (.iaload, len)) (hk : k ∈ T.2.2) (h0 : 0 ≤ i) (h1 : i < C k) (h2 : w_W P d mi (pc + 1, ls, .int (Int32.ofInt (A k i)) :: t, M) Q) : w_W P d mi (pc, ls, .int (Int32.ofInt i) :: .ref (B k) :: t, M) Q := by
  have := h.cap hk
  exact w_ald hins (Or.inl ⟨rfl, rfl⟩) h.len2 (h.r hk) ⟨by omega, by omega⟩ h0 h1 h2
theorem w_sai {pc len k n : Nat} {i v : Int} (h : w_Rep T fr X u l I A B C M) (hins : y_ins P mi pc = some (.iastore, len)) (hT : T.2.1 k = some (.int, n)) (h0 : 0 ≤ i) (h1 : i < n) (h9 : n ≤ 2147483647) (hv : w_in v) (h2 : ∀ M', w_Rep T fr X u l I (w_upF A k (w_upA (A k) i v)) B C M' → w_W P d mi (pc + 1, ls, t, M') Q) : w_W P d mi (pc, ls, .int (Int32.ofInt v) :: .int (Int32.ofInt i) :: .ref k :: t, M) Q := w_asti hins (h.a hT) ⟨by omega, by omega⟩ h0 h1 (h2 _ (h.seta hT hv))
theorem w_nb_in (v : Int) : w_in (w_nb v) := by
  unfold w_nb
  have h1 := Int8.le_toInt (Int32.ofInt v).toInt8
  have h2 := Int8.toInt_lt (Int32.ofInt v).toInt8
  exact ⟨by omega, by omega⟩
theorem w_sab {pc len k n : Nat} {i v : Int} (h : w_Rep T fr X u l I A B C M) (hins : y_ins P mi pc = some (.bastore, len)) (hT : T.2.1 k = some (.byte, n)) (h0 : 0 ≤ i) (h1 : i < n) (h9 : n ≤ 2147483647) (h2 : ∀ M', w_Rep T fr X u l I (w_upF A k (w_upA (A k) i (w_nb v))) B C M' → w_W P d mi (pc + 1, ls, t, M') Q) : w_W P d mi (pc, ls, .int (Int32.ofInt v) :: .int (Int32.ofInt i) :: .ref k :: t, M) Q := w_astb hins (h.a hT) ⟨by omega, by omega⟩ h0 h1 (h2 _ (h.seta hT (w_nb_in v)))
theorem w_sr {pc len k : Nat} {i v : Int} (h : w_Rep T fr X u l I A B C M) (hins : y_ins P mi pc = some (.iastore, len)) (hk : k ∈ T.2.2) (h0 : 0 ≤ i) (h1 : i < C k) (hv : w_in v) (h2 : ∀ M', w_Rep T fr X u l I (w_upF A k (w_upA (A k) i v)) B C M' → w_W P d mi (pc + 1, ls, t, M') Q) : w_W P d mi (pc, ls, .int (Int32.ofInt v) :: .int (Int32.ofInt i) :: .ref (B k) :: t, M) Q := by
  have := h.cap hk
  exact w_asti hins (h.r hk) ⟨by omega, by omega⟩ h0 h1 (h2 _ (h.setr hk hv))
theorem w_lena {pc len k n : Nat} {ty : FieldType} (h : w_Rep T fr X u l I A B C M) (hins : y_ins P mi pc = some (.arraylength, len)) (hT : T.2.1 k = some (ty, n)) (hty : y_tyEq ty ty = true) (h2 : w_W P d mi (pc + 1, ls, .int (Int32.ofInt (n : Int)) :: t, M) Q) : w_W P d mi (pc, ls, .ref k :: t, M) Q := w_alen hins h.len2 (h.a hT) hty h2
theorem w_lenr {pc len k : Nat} (h : w_Rep T fr X u l I A B C M) (hins : y_ins P mi pc = some (.arraylength, len)) (hk : k ∈ T.2.2) (h2 : w_W P d mi (pc + 1, ls, .int (Int32.ofInt (C k : Int)) :: t, M) Q) : w_W P d mi (pc, ls, .ref (B k) :: t, M) Q := w_alen hins h.len2 (h.r hk) rfl h2
/-- what a call begins with: the method, its locals, what is left, and for a call on a cell the class and the cell -/
def w_ent1 (P : y_P) (mi kd idx : Nat) (st : List Value) : Option (Nat × y_L × List Value × Option (Nat × Nat)) := match y_cal P mi idx with
  | some (kind, cm, k, ci) => bif Nat.ble k st.length && Nat.ble (y_words (st.drop k)) 8 && Nat.ble (lg_sl (st.take k).reverse).length (y_met P cm).1 then
      (bif Nat.beq kind 0 && Nat.beq kd 0 then (match (st.take k).reverse with
        | .ref a :: _ => some (cm, lv_args 0 (st.take k).reverse, st.drop k, some (ci, a))
        | _ => none)
      else bif Nat.beq kind 1 && Nat.beq kd 1 then some (cm, lv_args 0 (st.take k).reverse, st.drop k, none)
      else none) else none
  | none => none
def w_ent (P : y_P) (mi pc : Nat) (st : List Value) : Option (Nat × y_L × List Value × Option (Nat × Nat)) := match y_ins P mi pc with
  | some (.invokevirtual idx, _) => w_ent1 P mi 0 idx st
  | some (.invokestatic idx, _) => w_ent1 P mi 1 idx st
  | _ => none
def w_fitO (o : Option (Nat × Nat)) (M : w_M) : Prop := match o with
  | none => True
  | some (ci, a) => ∃ fs, M.1[a]? = some (.inr (ci, fs))
theorem w_ent1_ok {kd idx cm : Nat} {st rest : List Value} {as : y_L} {o : Option (Nat × Nat)} (h : w_ent1 P mi kd idx st = some (cm, as, rest, o)) (hM : w_fitO o M) : q_ent1 P mi kd idx st M = some (cm, (0, as, [], M), rest) := by
  unfold w_ent1 at h
  unfold q_ent1
  cases hc : y_cal P mi idx with
  | none => rw [hc] at h; cases h
  | some q =>
    obtain ⟨kind, cm', k, ci⟩ := q
    rw [hc] at h
    dsimp only at h ⊢
    cases hf : (Nat.ble k st.length && Nat.ble (y_words (st.drop k)) 8 && Nat.ble (lg_sl (st.take k).reverse).length (y_met P cm').1) with
    | false => rw [hf] at h; cases h
    | true =>
      rw [hf, cond_true] at h
      obtain ⟨hf1, hf3⟩ := Bool.and_eq_true_iff.mp hf
      obtain ⟨hf1, hf2⟩ := Bool.and_eq_true_iff.mp hf1
      cases hb : (Nat.beq kind 0 && Nat.beq kd 0) with
      | true =>
        rw [hb, cond_true] at h
        obtain ⟨e1, e2⟩ := Bool.and_eq_true_iff.mp hb
        have e1 := Nat.eq_of_beq_eq_true e1
        have e2 := Nat.eq_of_beq_eq_true e2
        subst e1; subst e2
        split at h
        case h_2 => cases h
        rename_i a as' hrev
        cases h
        obtain ⟨fs, hM⟩ := hM
        have hfit : q_fitB P 0 0 cm k ci st M = true := by
          unfold q_fitB
          rw [hf1, hf2, hf3]
          show q_recv ci (st.take k).reverse M.1 = true
          rw [hrev]
          unfold q_recv
          dsimp only
          rw [hM]
          exact Nat.beq_refl ci
        rw [hfit]
        rfl
      | false =>
        rw [hb, cond_false] at h
        cases hb1 : (Nat.beq kind 1 && Nat.beq kd 1) with
        | false => rw [hb1] at h; cases h
        | true =>
          rw [hb1, cond_true] at h
          obtain ⟨e1, e2⟩ := Bool.and_eq_true_iff.mp hb1
          have e1 := Nat.eq_of_beq_eq_true e1
          have e2 := Nat.eq_of_beq_eq_true e2
          subst e1; subst e2
          cases h
          have hfit : q_fitB P 1 1 cm k ci st M = true := by
            unfold q_fitB
            rw [hf1, hf2, hf3]
            rfl
          rw [hfit]
          rfl
theorem w_ent_ok {pc cm : Nat} {st rest : List Value} {as : y_L} {o : Option (Nat × Nat)} (h : w_ent P mi pc st = some (cm, as, rest, o)) (hM : w_fitO o M) : q_ent P mi pc st M = some (cm, (0, as, [], M), rest) := by
  unfold w_ent at h
  unfold q_ent
  split at h
  · rename_i hi
    rw [hi]
    exact w_ent1_ok h hM
  · rename_i hi
    rw [hi]
    exact w_ent1_ok h hM
  · cases h
theorem q_ent1_okX {ρ : Type} {K : q_K ρ} {go : Nat → Nat → q_F ρ → Option (q_R ρ)} {mi kd idx pc cm d a : Nat} {ls : y_L} {st r : List Value} {M M' : q_M ρ} {F0 : q_F ρ} (h : q_ent1 P mi kd idx st M = some (cm, F0, r)) (h1 : go d cm F0 = some (.inr a, M')) : q_call K P go (d + 1) mi kd idx pc ls st M = (match y_han P mi pc with
          | none => some (.inr a, M')
          | some (h, cE) => (match M'.1[a]? with
            | some (.inr (cj, _)) => bif Nat.beq cE cj then go (d + 1) mi (h, ls, [.ref a], M') else none
            | _ => none)) := by
  unfold q_ent1 at h
  unfold q_call
  cases hc : y_cal P mi idx with
  | none => rw [hc] at h; cases h
  | some q =>
    obtain ⟨kind, cm', k, ci⟩ := q
    rw [hc] at h
    dsimp only at h ⊢
    cases h3 : Nat.beq kind 3 with
    | true => rw [h3] at h; cases h
    | false =>
      cases h5 : Nat.beq kind 5 with
      | true => rw [h3, h5] at h; cases h
      | false =>
        cases h6 : Nat.beq kind 6 with
        | true => rw [h3, h5, h6] at h; cases h
        | false =>
          rw [h3, h5, h6] at h
          cases hf : q_fitB P kind kd cm' k ci st M with
          | false => rw [hf] at h; cases h
          | true =>
            rw [hf] at h
            cases h
            dsimp only [cond_true, cond_false]
            rw [h1]
            dsimp only
            cases y_han P mi pc with
            | none => rfl
            | some q =>
              obtain ⟨hp, cE⟩ := q
              dsimp only
              cases M'.1[a]? with
              | none => rfl
              | some c =>
                cases c with
                | inl _ => rfl
                | inr q => rfl
theorem q_Runs.callX {ρ : Type} {K : q_K ρ} {pc cm a : Nat} {ls : y_L} {st r : List Value} {M M' : q_M ρ} {F0 : q_F ρ} (h : q_ent P mi pc st M = some (cm, F0, r)) (hh : y_han P mi pc = none) (h1 : q_Runs K P d cm F0 (.inr a, M')) : q_Runs K P (d + 1) mi (pc, ls, st, M) (.inr a, M') := by
  obtain ⟨n1, h1⟩ := h1
  refine ⟨n1 + 1, ?_⟩
  rw [q_run_s]
  unfold q_ent at h
  unfold q_one
  dsimp only
  split at h
  · rename_i hi
    rw [hi]
    refine (q_ent1_okX h h1).trans ?_
    rw [hh]
  · rename_i hi
    rw [hi]
    refine (q_ent1_okX h h1).trans ?_
    rw [hh]
  · rename_i hi
    rw [hi]
    refine (q_ent1_okX h h1).trans ?_
    rw [hh]
  · cases h
theorem q_Runs.callH {ρ : Type} {K : q_K ρ} {pc cm a hp cE : Nat} {ls : y_L} {st r fs : List Value} {M M' : q_M ρ} {F0 : q_F ρ} {res : q_R ρ} (h : q_ent P mi pc st M = some (cm, F0, r)) (hh : y_han P mi pc = some (hp, cE)) (h1 : q_Runs K P d cm F0 (.inr a, M')) (hM : M'.1[a]? = some (.inr (cE, fs))) (h2 : q_Runs K P (d + 1) mi (hp, ls, [.ref a], M') res) : q_Runs K P (d + 1) mi (pc, ls, st, M) res := by
  obtain ⟨n1, h1⟩ := h1
  obtain ⟨n2, h2⟩ := h2
  have g1 := q_run_le n1 n2 h1
  have g2 := q_run_le n2 n1 h2
  rw [Nat.add_comm] at g2
  refine ⟨n1 + n2 + 1, ?_⟩
  rw [q_run_s]
  unfold q_ent at h
  unfold q_one
  dsimp only
  have fin : (match y_han P mi pc with
          | none => some (.inr a, M')
          | some (h, cE) => (match M'.1[a]? with
            | some (.inr (cj, _)) => bif Nat.beq cE cj then q_run K P (n1 + n2) (d + 1) mi (h, ls, [.ref a], M') else none
            | _ => none)) = some res := by
    rw [hh]
    dsimp only
    rw [hM]
    dsimp only
    rw [Nat.beq_refl, cond_true]
    exact g2
  split at h
  · rename_i hi
    rw [hi]
    exact (q_ent1_okX h g1).trans fin
  · rename_i hi
    rw [hi]
    exact (q_ent1_okX h g1).trans fin
  · rename_i hi
    rw [hi]
    exact (q_ent1_okX h g1).trans fin
  · cases h
def w_aft (P : y_P) (d mi pc : Nat) (ls : y_L) (rest : List Value) (r : w_X) (M' : w_M) (Q : w_X → w_M → Prop) : Prop := match r with
  | .inl none => w_W P d mi (pc + 3, ls, rest, M') Q
  | .inl (some v) => w_W P d mi (pc + 3, ls, .int (Int32.ofInt v) :: rest, M') Q
  | .inr a => (match y_han P mi pc with
    | none => Q (.inr a) M'
    | some (h, cE) => (∃ fs, M'.1[a]? = some (.inr (cE, fs))) ∧ w_W P d mi (h, ls, [.ref a], M') Q)
theorem w_call {pc cm : Nat} {st rest : List Value} {as : y_L} {o : Option (Nat × Nat)} {Q1 : w_X → w_M → Prop} (he : w_ent P mi pc st = some (cm, as, rest, o)) (hM : w_fitO o M) (h : w_W P d cm (0, as, [], M) Q1) (h2 : ∀ r M', Q1 r M' → w_aft P (d + 1) mi pc ls rest r M' Q) : w_W P (d + 1) mi (pc, ls, st, M) Q := by
  obtain ⟨r, M', h3, h4⟩ := h
  have h5 := h2 r M' h4
  have he' := w_ent_ok he hM
  match r, h3, h5 with
  | .inl none, h3, h5 =>
    obtain ⟨r', M2, h6, h7⟩ := h5
    exact ⟨r', M2, q_Runs.call he' h3 h6, h7⟩
  | .inl (some v), h3, h5 =>
    obtain ⟨r', M2, h6, h7⟩ := h5
    exact ⟨r', M2, q_Runs.call he' h3 h6, h7⟩
  | .inr a, h3, h5 =>
    unfold w_aft at h5
    dsimp only at h5
    cases hh : y_han P mi pc with
    | none =>
      rw [hh] at h5
      exact ⟨.inr a, M', q_Runs.callX he' hh h3, h5⟩
    | some q =>
      obtain ⟨hp, cE⟩ := q
      rw [hh] at h5
      obtain ⟨⟨fs, hM2⟩, r', M2, h6, h7⟩ := h5
      exact ⟨r', M2, q_Runs.callH he' hh h3 hM2 h6, h7⟩
theorem w_fitR {a ci : Nat} {ds : List (Value ⊕ Bool)} (h : w_Rep T fr X u l I A B C M) (hT : T.1 a = some (ci, ds)) : w_fitO (some (ci, a)) M := ⟨_, h.o hT⟩
theorem w_thr {pc len a : Nat} {st : List Value} (hins : y_ins P mi pc = some (.athrow, len)) (hh : y_han P mi pc = none) (h : Q (.inr a) M) : w_W P d mi (pc, ls, .ref a :: st, M) Q := by
  refine ⟨.inr a, M, ⟨1, ?_⟩, h⟩
  rw [q_run_s]
  unfold q_one
  dsimp only
  rw [hins]
  dsimp only
  rw [hh]
  rfl
end WSteps
theorem w_copy {P : y_P} {d mi : Nat} {Q : w_X → w_M → Prop} {ls : y_L} {pc idx len cm k ci : Nat} {st t : List Value} {M M' : w_M} (hins : y_ins P mi pc = some (.invokestatic idx, len)) (hc : y_cal P mi idx = some (6, cm, k, ci)) (h : q_copy q_KF st M = some (t, M')) (hw : Nat.ble (y_words t) 8 = true) (h2 : w_W P d mi (pc + 3, ls, t, M') Q) : w_W P d mi (pc, ls, st, M) Q := by
  obtain ⟨r, M2, ⟨n, h3⟩, h4⟩ := h2
  refine ⟨r, M2, ⟨n + 1, ?_⟩, h4⟩
  rw [q_run_s]
  unfold q_one
  dsimp only
  rw [hins]
  dsimp only
  unfold q_call
  rw [hc]
  dsimp only
  show (bif Nat.beq 6 3 then _ else bif Nat.beq 6 5 then _ else bif Nat.beq 6 6 then _ else _) = _
  rw [show Nat.beq 6 3 = false from rfl, show Nat.beq 6 5 = false from rfl, show Nat.beq 6 6 = true from rfl, cond_false, cond_false, cond_true, h]
  dsimp only
  rw [hw]
  exact h3
