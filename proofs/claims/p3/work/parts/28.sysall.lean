/-! SYS3: handlers, exceptions; y_Sys. -/
section ZSysAll
set_option maxRecDepth 1000000 in
theorem z_ini_ok : (List.range 313).all (fun mi => !(z_met mi).2.1 || decide ((z_nm mi).name = "<init>")) = true := by decide +kernel
theorem z_S7 {mi : Nat} (h : (z_met mi).2.1 = true) : (z_nm mi).name = "<init>" := by
  by_cases hm : mi < 313
  · have h1 := List.all_eq_true.mp z_ini_ok mi (List.mem_range.mpr hm)
    rw [h] at h1
    exact of_decide_eq_true h1
  · unfold z_met at h
    have : Nat.blt mi 313 = false := by
      cases hb : Nat.blt mi 313 with
      | false => rfl
      | true => exact absurd (Nat.blt_eq.mp hb) hm
    rw [this] at h
    cases h
def z_exN : List String := ["java/lang/RuntimeException", "java/lang/Exception"]
def z_exPr (a : Cond) : Prop := ((∃ w, z_tb w = some a) ∧ goodWord a = true) ∨ a = .isRef (.static Bundle.tN "UNASSIGNED_STACK" Bundle.steD) ∨ a = .isRef (.static Bundle.tN "SUPPRESSED_SENTINEL" Bundle.listD) ∨ ((∃ w, z_tb w = some a) ∧ z_face a = true) ∨ a = .laysStatic Bundle.tN "UNASSIGNED_STACK" Bundle.steD ∨ a = .laysStatic Bundle.tN "SUPPRESSED_SENTINEL" Bundle.listD
theorem z_exW {a : Cond} (w : Nat) (h : z_tb w = some a) (hg : goodWord a = true) : z_exPr a := Or.inl ⟨⟨w, h⟩, hg⟩
def z_excPr (o : Nat) (e : Nat × (Nat × Nat)) : Prop := ∃ own w, z_owns[o]? = some own ∧ e.2.1 = 11 ∧ z_tb w = some (.classLink own e.1 "java/lang/IllegalStateException") ∧ z_inP z_exPr (Bundle.ownAtoms0 own e.2.2 "java/lang/IllegalStateException" z_exN)
set_option maxRecDepth 100000 in
theorem z_exa14 : z_inP z_exPr (Bundle.ownAtoms0 "FlowReader$Parser" 69 "java/lang/IllegalStateException" z_exN) := z_in1 (z_exW 183 rfl rfl) (z_in1 (z_exW 812 rfl rfl) (z_in1 (z_exW 821 rfl rfl) (z_in1 (z_exW 823 rfl rfl) (z_in1 (z_exW 826 rfl rfl) (z_in1 (z_exW 828 rfl rfl) (z_in1 (z_exW 813 rfl rfl) (z_in1 (z_exW 814 rfl rfl) (z_in1 (z_exW 196 rfl rfl) (z_in1 (z_exW 197 rfl rfl) (z_in1 (z_exW 815 rfl rfl) (z_in1 (z_exW 820 rfl rfl) (z_in1 (z_exW 824 rfl rfl) (z_in1 (z_exW 840 rfl rfl) (z_in1 (z_exW 802 rfl rfl) (z_in1 (z_exW 841 rfl rfl) (z_in1 (z_exW 804 rfl rfl) (z_in1 (z_exW 842 rfl rfl) (z_in1 (z_exW 806 rfl rfl) (z_in1 (z_exW 816 rfl rfl) (z_in1 (Or.inr (Or.inr (Or.inr (Or.inr (Or.inl rfl))))) (z_in1 (z_exW 818 rfl rfl) (z_in1 (Or.inr (Or.inr (Or.inr (Or.inr (Or.inr rfl))))) (z_in1 (z_exW 808 rfl rfl) (z_in1 (z_exW 830 rfl rfl) (z_in1 (z_exW 831 rfl rfl) (z_in1 (z_exW 832 rfl rfl) (z_in1 (z_exW 833 rfl rfl) (z_in1 (Or.inr (Or.inr (Or.inr (Or.inl ⟨⟨793, rfl⟩, rfl⟩)))) (z_in1 (z_exW 833 rfl rfl) (z_in1 (z_exW 834 rfl rfl) (z_in1 (z_exW 835 rfl rfl) (z_in1 (z_exW 836 rfl rfl) (z_in1 (Or.inr (Or.inr (Or.inr (Or.inl ⟨⟨795, rfl⟩, rfl⟩)))) (z_in1 (z_exW 836 rfl rfl) (z_in1 (z_exW 837 rfl rfl) (z_in1 (z_exW 838 rfl rfl) (z_in1 (z_exW 813 rfl rfl) (z_in1 (Or.inr (Or.inr (Or.inr (Or.inl ⟨⟨797, rfl⟩, rfl⟩)))) (z_in1 (z_exW 829 rfl rfl) (z_in1 (z_exW 791 rfl rfl) (z_in1 (Or.inr (Or.inr (Or.inr (Or.inl ⟨⟨792, rfl⟩, rfl⟩)))) (z_in1 (z_exW 799 rfl rfl) (z_in1 (z_exW 800 rfl rfl) (z_in1 (z_exW 801 rfl rfl) (z_in1 (z_exW 803 rfl rfl) (z_in1 (z_exW 805 rfl rfl) (z_in1 (z_exW 807 rfl rfl) (z_in1 (Or.inr (Or.inl rfl)) (z_in1 (Or.inr (Or.inr (Or.inl rfl))) (z_in1 (z_exW 811 rfl rfl) (z_in1 (z_exW 810 rfl rfl) (z_in1 (z_exW 809 rfl rfl) (z_in0)))))))))))))))))))))))))))))))))))))))))))))))))))))
set_option maxRecDepth 100000 in
theorem z_exa22 : z_inP z_exPr (Bundle.ownAtoms0 "FlowReaderModel" 68 "java/lang/IllegalStateException" z_exN) := z_in1 (z_exW 183 rfl rfl) (z_in1 (z_exW 812 rfl rfl) (z_in1 (z_exW 821 rfl rfl) (z_in1 (z_exW 823 rfl rfl) (z_in1 (z_exW 826 rfl rfl) (z_in1 (z_exW 828 rfl rfl) (z_in1 (z_exW 813 rfl rfl) (z_in1 (z_exW 814 rfl rfl) (z_in1 (z_exW 196 rfl rfl) (z_in1 (z_exW 197 rfl rfl) (z_in1 (z_exW 815 rfl rfl) (z_in1 (z_exW 820 rfl rfl) (z_in1 (z_exW 824 rfl rfl) (z_in1 (z_exW 840 rfl rfl) (z_in1 (z_exW 802 rfl rfl) (z_in1 (z_exW 841 rfl rfl) (z_in1 (z_exW 804 rfl rfl) (z_in1 (z_exW 842 rfl rfl) (z_in1 (z_exW 806 rfl rfl) (z_in1 (z_exW 816 rfl rfl) (z_in1 (Or.inr (Or.inr (Or.inr (Or.inr (Or.inl rfl))))) (z_in1 (z_exW 818 rfl rfl) (z_in1 (Or.inr (Or.inr (Or.inr (Or.inr (Or.inr rfl))))) (z_in1 (z_exW 808 rfl rfl) (z_in1 (z_exW 830 rfl rfl) (z_in1 (z_exW 831 rfl rfl) (z_in1 (z_exW 832 rfl rfl) (z_in1 (z_exW 833 rfl rfl) (z_in1 (Or.inr (Or.inr (Or.inr (Or.inl ⟨⟨793, rfl⟩, rfl⟩)))) (z_in1 (z_exW 833 rfl rfl) (z_in1 (z_exW 834 rfl rfl) (z_in1 (z_exW 835 rfl rfl) (z_in1 (z_exW 836 rfl rfl) (z_in1 (Or.inr (Or.inr (Or.inr (Or.inl ⟨⟨795, rfl⟩, rfl⟩)))) (z_in1 (z_exW 836 rfl rfl) (z_in1 (z_exW 837 rfl rfl) (z_in1 (z_exW 838 rfl rfl) (z_in1 (z_exW 813 rfl rfl) (z_in1 (Or.inr (Or.inr (Or.inr (Or.inl ⟨⟨797, rfl⟩, rfl⟩)))) (z_in1 (z_exW 1358 rfl rfl) (z_in1 (z_exW 791 rfl rfl) (z_in1 (Or.inr (Or.inr (Or.inr (Or.inl ⟨⟨792, rfl⟩, rfl⟩)))) (z_in1 (z_exW 799 rfl rfl) (z_in1 (z_exW 800 rfl rfl) (z_in1 (z_exW 801 rfl rfl) (z_in1 (z_exW 803 rfl rfl) (z_in1 (z_exW 805 rfl rfl) (z_in1 (z_exW 807 rfl rfl) (z_in1 (Or.inr (Or.inl rfl)) (z_in1 (Or.inr (Or.inr (Or.inl rfl))) (z_in1 (z_exW 811 rfl rfl) (z_in1 (z_exW 810 rfl rfl) (z_in1 (z_exW 809 rfl rfl) (z_in0)))))))))))))))))))))))))))))))))))))))))))))))))))))
set_option maxRecDepth 100000 in
theorem z_exc_ok : z_allP z_excPr 0 z_excL := z_al1 (z_in0) (z_al1 (z_in0) (z_al1 (z_in0) (z_al1 (z_in0) (z_al1 (z_in0) (z_al1 (z_in0) (z_al1 (z_in0) (z_al1 (z_in0) (z_al1 (z_in0) (z_al1 (z_in0) (z_al1 (z_in0) (z_al1 (z_in0) (z_al1 (z_in0) (z_al1 (z_in0) (z_al1 (z_in1 ⟨_, 790, rfl, rfl, rfl, z_exa14⟩ (z_in0)) (z_al1 (z_in0) (z_al1 (z_in0) (z_al1 (z_in0) (z_al1 (z_in0) (z_al1 (z_in0) (z_al1 (z_in0) (z_al1 (z_in0) (z_al1 (z_in1 ⟨_, 1357, rfl, rfl, rfl, z_exa22⟩ (z_in0)) (z_al1 (z_in0) ( z_al0))))))))))))))))))))))))
theorem z_excI : Cond.initialized "java/lang/IllegalStateException" ∈ z_Ts := z_ts_at (i := 186) rfl rfl
theorem z_faceA {w : Cond} {args : Array Value} {s : State} (hf : z_face w = true) (h : w.before #[] s = true) : w.before args s = true := by
  cases w <;> first | (cases hf; done) | exact h
theorem z_faceK {w : Cond} {s U : State} (hf : z_face w = true) (hal : s.vm.Alike U.vm) (h : w.before #[] s = true) : w.before #[] U = true := by
  have h1 : w.faceAtom = true := by cases w <;> first | (cases hf; done) | rfl
  have h2 := Cond.faceAtom_setVm (args := #[]) hal w h1 h
  cases w <;> first | (cases hf; done) | exact h2
theorem z_nest {w : Cond} {args : Array Value} {s : State} (hn : y_isN w = true) (h : va_Nw w s) : w.before args s = true := by
  cases w <;> first | (cases hn; done) | exact h
variable {D : va_G} {kA : FieldType → ClassId} {A : Nat → Prop} {adK adV : Nat → Nat} {b : Nat} {op : Nat → Nat} {L : Nat} {xs : Nat → Int32}
theorem z_tv_or {ρ : Nat → Nat} {k : Nat} : y_tv ρ (.retAddr k) = .null ∨ ∃ t, y_tv ρ (.retAddr k) = .ref t := by
  unfold y_tv
  dsimp only
  cases h : ρ (2000000 + k) with
  | zero => exact Or.inl rfl
  | succ n => exact Or.inr ⟨n, rfl⟩
theorem z_hh0 {mi : Nat} (h1 : ¬ mi = 311) (h2 : ¬ mi = 312) : z_hh mi = [] := by
  unfold z_hh
  cases c1 : Nat.blt mi 312 with
  | true =>
    cases c2 : Nat.beq mi 311 with
    | true => exact absurd (Nat.eq_of_beq_eq_true c2) h1
    | false => rfl
  | false =>
    cases c2 : Nat.beq mi 312 with
    | true => exact absurd (Nat.eq_of_beq_eq_true c2) h2
    | false => rfl
theorem z_han0 {mi pc : Nat} (h1 : ¬ mi = 311) (h2 : ¬ mi = 312) : z_han mi pc = none := by
  unfold z_han
  cases c1 : Nat.blt mi 312 with
  | true =>
    cases c2 : Nat.beq mi 311 with
    | true => exact absurd (Nat.eq_of_beq_eq_true c2) h1
    | false => rfl
  | false =>
    cases c2 : Nat.beq mi 312 with
    | true => exact absurd (Nat.eq_of_beq_eq_true c2) h2
    | false => rfl
theorem z_hanA {pc : Nat} : z_han 311 pc = bif Nat.ble 18 pc && Nat.blt pc 26 then some (29, 11) else none := by
  unfold z_han
  rw [show Nat.blt 311 312 = true from rfl, cond_true, show Nat.beq 311 311 = true from rfl, cond_true]
theorem z_hanB {pc : Nat} : z_han 312 pc = bif Nat.ble 92 pc && Nat.blt pc 119 then some (120, 11) else none := by
  unfold z_han
  rw [show Nat.blt 312 312 = false from rfl, cond_false, show Nat.beq 312 312 = true from rfl, cond_true]
theorem z_S8 {mi pc : Nat} (hn : z_han mi pc = none) : ∀ h ∈ z_hh mi, ¬ (h.1 ≤ pc ∧ pc < h.2.1) := by
  intro h hm ⟨g1, g2⟩
  by_cases e1 : mi = 311
  · subst e1
    have hm' : h ∈ [(18, 26, 29, 86)] := hm
    have e := List.mem_singleton.mp hm'
    subst e
    rw [z_hanA, Nat.ble_eq.mpr g1, Nat.blt_eq.mpr g2] at hn
    cases hn
  · by_cases e2 : mi = 312
    · subst e2
      have hm' : h ∈ [(92, 119, 120, 66)] := hm
      have e := List.mem_singleton.mp hm'
      subst e
      rw [z_hanB, Nat.ble_eq.mpr g1, Nat.blt_eq.mpr g2] at hn
      cases hn
    · rw [z_hh0 e1 e2] at hm
      cases hm
set_option maxRecDepth 100000 in
theorem z_hwA : z_tb 627 = some (.classLink (z_nm 311).cls 86 "java/lang/IllegalStateException") := rfl
set_option maxRecDepth 100000 in
theorem z_hwB : z_tb 1357 = some (.classLink (z_nm 312).cls 66 "java/lang/IllegalStateException") := rfl
theorem z_S9 {mi pc h cE : Nat} {s : State} {args : Array Value} (hts : ∀ w ∈ z_Ts, w.before args s = true) (hh : z_han mi pc = some (h, cE)) : ∃ (t1 t2 ty : Nat) (rest : List (Nat × Nat × Nat × Nat)) (C : String) (T : u_T) (N : Nat), z_hh mi = (t1, t2, h, ty) :: rest ∧ t1 ≤ pc ∧ pc < t2 ∧ ty ≠ 0 ∧ (Cond.classLink (z_nm mi).cls ty C).before args s = true ∧ z_cl[cE]? = some (C, T, N) := by
  by_cases e1 : mi = 311
  · subst e1
    rw [z_hanA] at hh
    cases hb : (Nat.ble 18 pc && Nat.blt pc 26) with
    | false => rw [hb] at hh; cases hh
    | true =>
      rw [hb] at hh
      cases hh
      obtain ⟨g1, g2⟩ := Bool.and_eq_true_iff.mp hb
      exact ⟨18, 26, 86, [], _, _, _, rfl, Nat.ble_eq.mp g1, Nat.blt_eq.mp g2, by decide, hts _ (z_ts_at z_hwA rfl), rfl⟩
  · by_cases e2 : mi = 312
    · subst e2
      rw [z_hanB] at hh
      cases hb : (Nat.ble 92 pc && Nat.blt pc 119) with
      | false => rw [hb] at hh; cases hh
      | true =>
        rw [hb] at hh
        cases hh
        obtain ⟨g1, g2⟩ := Bool.and_eq_true_iff.mp hb
        exact ⟨92, 119, 66, [], _, _, _, rfl, Nat.ble_eq.mp g1, Nat.blt_eq.mp g2, by decide, hts _ (z_ts_at z_hwB rfl), rfl⟩
    · rw [z_han0 e1 e2] at hh
      cases hh
theorem z_S10 {mi idx cE ic : Nat} {s : State} {args : Array Value} (hX : z_X D kA A adK adV b op L xs s) (hts : ∀ w ∈ z_Ts, w.before args s = true) (hf : z_exc mi idx = some (cE, ic)) : ∃ (C : String) (T : u_T) (names : List String), z_cl[cE]? = some (C, T, 0) ∧ Bundle.fit C = true ∧ (∀ n ∈ names, Bundle.fit n = true) ∧ names.length ≤ 3 ∧ (∀ a ∈ Bundle.ownAtoms0 (z_nm mi).cls ic C names, a.before args s = true) ∧ (∃ vz, va_Z Bundle.tN "UNASSIGNED_STACK" Bundle.steD vz A s s.heap) ∧ (Cond.classLink (z_nm mi).cls idx C).before args s = true ∧ (Cond.initialized C).before args s = true := by
  obtain ⟨⟨-, -, -, -, hS, hR, hZ, hT⟩, hcast, hLU, hLV⟩ := hX
  obtain ⟨hmi, hm⟩ := z_in rfl hf
  have hc := z_allP_at (o := 0) z_exc_ok hm
  rw [Nat.zero_add] at hc
  obtain ⟨own, w, h1, h2, h3, h4⟩ := hc
  rw [z_own_at hmi] at h1
  cases h1
  dsimp only at h2
  subst h2
  have hU := hZ _ (List.mem_map.mpr ⟨_, List.mem_of_getElem? (show z_statL[5]? = some _ from rfl), rfl⟩)
  have hV := hZ _ (List.mem_map.mpr ⟨_, List.mem_of_getElem? (show z_statL[4]? = some _ from rfl), rfl⟩)
  refine ⟨"java/lang/IllegalStateException", _, z_exN, rfl, by decide, by decide, by decide, fun a ha => ?_, ⟨_, hU⟩, hts _ (z_ts_at h3 rfl), hts _ z_excI⟩
  rcases z_inP_at h4 ha with ⟨⟨w', h5⟩, h6⟩ | h5 | h5 | h5 | h5 | h5
  · exact hts _ (z_ts_at h5 h6)
  · rw [h5]
    exact y_statRef hU z_tv_or
  · rw [h5]
    exact y_statRef hV z_tv_or
  · obtain ⟨⟨w', h6⟩, h7⟩ := h5
    exact z_faceA h7 (hcast _ (z_tb_mem h6) h7)
  · rw [h5]
    exact z_layP_word hLU
  · rw [h5]
    exact z_layP_word hLV
theorem z_Sys : y_Sys (z_P L xs) z_nm z_cd z_hh z_Ts (z_X D kA A adK adV b op L xs) D z_cl kA [(kA .int, .int), (kA .byte, .byte)] A (z_rho adK adV b op) := by
  refine ⟨fun mi pc len i h => z_S1 h, fun mi s args hX hts => ?_, fun s args hX hts => ?_, fun s U hX hW hz hq => ⟨y_X_kept hX.1 hW hz hq, fun w hw hf => z_faceK hf hW.alike (hX.2.1 w hw hf), z_layP_kept hW.alike hq hX.2.2.1, z_layP_kept hW.alike hq hX.2.2.2⟩, fun mi idx kind cm k ci hf hk => z_S5 hf hk, fun w hw => good_of_word (List.mem_filter.mp hw).2, fun mi h => z_S7 h, fun mi pc h => z_S8 h, fun mi pc h cE s args hX hts hh => z_S9 hts hh, fun mi idx cE ic s args hX hts hf => z_S10 hX hts hf⟩
  · have hnw : ∀ w ∈ lw_tbl, y_isN w = true → w.before args s = true := fun w hw hn => z_nest hn (hX.1.2.2.2.1 w (List.mem_filter.mpr ⟨hw, hn⟩)).2
    refine ⟨z_fldOk hts hnw, z_clsOk hts, z_outOk hX hts, z_conOk hts, z_calOk hts hnw fun a fs hO => ?_⟩
    obtain ⟨⟨-, -, -, -, hS, -⟩, -⟩ := hX
    rcases z_far_spec hO with ⟨-, h⟩ | ⟨h1, h2, ⟨h3, h⟩ | ⟨-, h⟩⟩
    · cases h
    · refine ⟨h1, ?_⟩
      rw [z_rho_K h1 (by omega) h3]
      exact (hS.1 ((a - 1000000) / 2) (by omega)).1
    · cases h
  · obtain ⟨⟨x1, x2, x3, -⟩, -⟩ := hX
    exact ⟨x1, rfl, rfl, x2, x3, hts _ (z_ts_at (i := 344) rfl rfl), hts _ (z_ts_at (i := 211) rfl rfl)⟩
end ZSysAll
