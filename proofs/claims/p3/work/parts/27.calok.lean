/-! SYS: all that the small machine needs of its tables. -/
section ZCalls
theorem z_w0_good {P : y_P} {nm : Nat → MethodName} {cd : Nat → ByteArray} {hh : Nat → List (Nat × Nat × Nat × Nat)} {mi : Nat} : goodWord (y_w0 P nm cd hh mi) = true := by
  unfold y_w0
  split <;> rfl
theorem z_ts_at {w : Cond} {i : Nat} (h : z_tb i = some w) (hg : goodWord w = true) : w ∈ z_Ts := List.mem_filter.mpr ⟨z_tb_mem h, hg⟩
theorem z_oI : z_tb 196 = some (.instanceMethod objectInit) := rfl
theorem z_oC : z_tb 197 = some (.code objectInit ⟨#[0xb1]⟩ 1 none) := rfl
theorem z_mS : z_tb 691 = some (.static Lib.MathLoose.min_long.x) := rfl
theorem z_mI : z_tb 188 = some (.initialized "java/lang/Math") := rfl
theorem z_mC : z_tb 692 = some (.code Lib.MathLoose.min_long.x Lib.MathLoose.min_long.code 4 (some .long)) := rfl
theorem z_mS1 : z_tb 716 = some (.static Lib.Math.max.name) := rfl
theorem z_mC1 : z_tb 717 = some (.code Lib.Math.max.name Lib.Math.max.code 2 (some .int)) := rfl
theorem z_mS2 : z_tb 719 = some (.static Lib.Math.min.name) := rfl
theorem z_mC2 : z_tb 720 = some (.code Lib.Math.min.name Lib.Math.min.code 2 (some .int)) := rfl
theorem z_aN : z_tb 1373 = some (.native arraycopyName) := rfl
theorem z_aS : z_tb 1372 = some (.static arraycopyName) := rfl
theorem z_aI : z_tb 187 = some (.initialized "java/lang/System") := rfl
theorem z_cal_at {mi idx kind cm k ci : Nat} (hf : z_cal mi idx = some (kind, cm, k, ci)) : ∃ w, (kind = 3 ∧ z_tb w = some (.methodLink (z_nm mi).cls idx objectInit)) ∨ (kind = 5 ∧ cm < 3 ∧ z_tb w = some (.methodLink (z_nm mi).cls idx (y_mname cm))) ∨ (kind = 6 ∧ z_tb w = some (.methodLink (z_nm mi).cls idx arraycopyName)) ∨
  ((z_tb w = some (.methodLink (z_nm mi).cls idx (z_nm cm)) ∨ ∃ host, z_tb w = some (.methodLinkNest (z_nm mi).cls idx (z_nm cm) host) ∧ kind ≠ 0 ∧ kind ≠ 4) ∧ z_mPr kind cm k ci) := by
  obtain ⟨hmi, hm⟩ := z_in rfl hf
  have hc := z_allP_at (o := 0) z_cal_ok hm
  rw [Nat.zero_add] at hc
  obtain ⟨own, w, h1, h2⟩ := hc
  rw [z_own_at hmi] at h1
  cases h1
  exact ⟨w, h2⟩
theorem z_gen_at {mi idx kind cm k ci : Nat} (hf : z_cal mi idx = some (kind, cm, k, ci)) (hk : kind ≠ 3 ∧ kind ≠ 5 ∧ kind ≠ 6) : ∃ w, (z_tb w = some (.methodLink (z_nm mi).cls idx (z_nm cm)) ∨ ∃ host, z_tb w = some (.methodLinkNest (z_nm mi).cls idx (z_nm cm) host) ∧ kind ≠ 0 ∧ kind ≠ 4) ∧ z_mPr kind cm k ci := by
  obtain ⟨w, ⟨h, -⟩ | ⟨h, -⟩ | ⟨h, -⟩ | h⟩ := z_cal_at hf
  · exact absurd h hk.1
  · exact absurd h hk.2.1
  · exact absurd h hk.2.2
  · exact ⟨w, h⟩
theorem z_S5 {mi idx kind cm k ci : Nat} (hf : z_cal mi idx = some (kind, cm, k, ci)) (hk : kind ≠ 3 ∧ kind ≠ 5 ∧ kind ≠ 6) : y_w0 z_P0 z_nm z_cd z_hh cm ∈ z_Ts ∧ Cond.initialized (z_nm cm).cls ∈ z_Ts ∧ plainName (z_nm cm).cls = true ∧ ((z_nm cm).cls ≠ "java/lang/invoke/MethodHandle" ∧ (z_nm cm).cls ≠ "java/lang/invoke/VarHandle") ∧ (z_met cm).1 ≤ 45 := by
  obtain ⟨w, -, ⟨w0, a1⟩, ⟨wi, a2⟩, ⟨a3, a4⟩, a5, -⟩ := z_gen_at hf hk
  exact ⟨z_ts_at a1 z_w0_good, z_ts_at a2 rfl, a3, a4, a5⟩
theorem z_calOk {L : Nat} {xs : Nat → Int32} {A : Nat → Prop} {ρ : Nat → Nat} {mi : Nat} {s : State} {args : Array Value} (hts : ∀ w ∈ z_Ts, w.before args s = true) (hnw : ∀ w ∈ lw_tbl, y_isN w = true → w.before args s = true) (hstr : ∀ (a : Nat) (fs : List Value), y_far0 (z_P L xs) a = some (.inr (100, fs)) → 1000000 ≤ a ∧ va_O "java/lang/String" (ρ a) A s s.heap) : y_CalOk (z_P L xs) z_nm z_hh z_cl A ρ mi s args := by
  intro idx kind cm k ci hf
  have hlink : ∀ {w : Nat}, (z_tb w = some (.methodLink (z_nm mi).cls idx (z_nm cm)) ∨ ∃ host, z_tb w = some (.methodLinkNest (z_nm mi).cls idx (z_nm cm) host) ∧ kind ≠ 0 ∧ kind ≠ 4) → ((Cond.methodLink (z_nm mi).cls idx (z_nm cm)).before args s = true ∨ ∃ host, (Cond.methodLinkNest (z_nm mi).cls idx (z_nm cm) host).before args s = true) := fun {w} h => by
    rcases h with h | ⟨host, h, -⟩
    · exact Or.inl (hts _ (z_ts_at h rfl))
    · exact Or.inr ⟨host, hnw _ (z_tb_mem h) rfl⟩
  have hlin0 : ∀ {w : Nat}, (kind = 0 ∨ kind = 4) → (z_tb w = some (.methodLink (z_nm mi).cls idx (z_nm cm)) ∨ ∃ host, z_tb w = some (.methodLinkNest (z_nm mi).cls idx (z_nm cm) host) ∧ kind ≠ 0 ∧ kind ≠ 4) → (Cond.methodLink (z_nm mi).cls idx (z_nm cm)).before args s = true := fun {w} e h => by
    rcases h with h | ⟨host, -, h0, h4⟩
    · exact hts _ (z_ts_at h rfl)
    · rcases e with e | e
      · exact absurd e h0
      · exact absurd e h4
  refine ⟨fun e => ?_, fun e => ?_, fun e => ?_, fun e => ?_, fun e => ?_, fun e => ?_, fun e => ?_⟩
  · obtain ⟨w, ⟨-, h⟩ | ⟨h, -⟩ | ⟨h, -⟩ | ⟨-, h⟩⟩ := z_cal_at hf
    · exact ⟨hts _ (z_ts_at h rfl), hts _ (z_ts_at z_oI rfl), hts _ (z_ts_at z_oC rfl)⟩
    · omega
    · omega
    · obtain ⟨-, -, -, -, ⟨h, -⟩ | ⟨h, -⟩ | ⟨h, -⟩ | ⟨h, -⟩⟩ := h <;> omega
  · obtain ⟨w, ⟨h, -⟩ | ⟨-, hcm, h⟩ | ⟨h, -⟩ | ⟨-, h⟩⟩ := z_cal_at hf
    · omega
    · rcases (show cm = 0 ∨ cm = 1 ∨ cm = 2 by omega) with rfl | rfl | rfl
      · exact ⟨hts _ (z_ts_at h rfl), hts _ (z_ts_at z_mS rfl), hts _ (z_ts_at z_mI rfl), fun _ => hts _ (z_ts_at z_mC rfl), fun q => by omega, fun q => by omega⟩
      · exact ⟨hts _ (z_ts_at h rfl), hts _ (z_ts_at z_mS1 rfl), hts _ (z_ts_at z_mI rfl), fun q => by omega, fun _ => hts _ (z_ts_at z_mC1 rfl), fun q => by omega⟩
      · exact ⟨hts _ (z_ts_at h rfl), hts _ (z_ts_at z_mS2 rfl), hts _ (z_ts_at z_mI rfl), fun q => by omega, fun q => by omega, fun _ => hts _ (z_ts_at z_mC2 rfl)⟩
    · omega
    · obtain ⟨-, -, -, -, ⟨h, -⟩ | ⟨h, -⟩ | ⟨h, -⟩ | ⟨h, -⟩⟩ := h <;> omega
  · obtain ⟨w, ⟨h, -⟩ | ⟨h, -⟩ | ⟨-, h⟩ | ⟨-, h⟩⟩ := z_cal_at hf
    · omega
    · omega
    · exact ⟨hts _ (z_ts_at h rfl), hts _ (z_ts_at z_aN rfl), hts _ (z_ts_at z_aS rfl), hts _ (z_ts_at z_aI rfl)⟩
    · obtain ⟨-, -, -, -, ⟨h, -⟩ | ⟨h, -⟩ | ⟨h, -⟩ | ⟨h, -⟩⟩ := h <;> omega
  · obtain ⟨w, hl, -, -, -, -, ⟨-, ⟨wm, a6⟩, ⟨n, a7, a8⟩, C, T, N, ws, b1, b2⟩ | ⟨h, -⟩ | ⟨h, -⟩ | ⟨h, -⟩⟩ := z_gen_at hf (by omega)
    · exact ⟨⟨C, T, N, b1, hts _ (z_ts_at b2 rfl)⟩, hlin0 (Or.inl e) hl, hts _ (z_ts_at a6 rfl), fun sig hs => by rw [a7, a8 sig hs]⟩
    · omega
    · omega
    · omega
  · obtain ⟨w, hl, -, -, -, -, ⟨h, -⟩ | ⟨-, ⟨wm, a6⟩, ⟨n, a7, a8⟩, b1, ws, b2⟩ | ⟨h, -⟩ | ⟨h, -⟩⟩ := z_gen_at hf (by omega)
    · omega
    · subst b1
      exact ⟨⟨_, hts _ (z_ts_at b2 rfl), hstr⟩, hlin0 (Or.inr e) hl, hts _ (z_ts_at a6 rfl), fun sig hs => by rw [a7, a8 sig hs]⟩
    · omega
    · omega
  · obtain ⟨w, hl, -, -, -, -, ⟨h, -⟩ | ⟨h, -⟩ | ⟨-, ⟨wm, a6⟩, a7, b1⟩ | ⟨h, -⟩⟩ := z_gen_at hf (by omega)
    · omega
    · omega
    · exact ⟨b1, hlink hl, hts _ (z_ts_at a6 rfl), fun sig hs => a7 sig hs⟩
    · omega
  · obtain ⟨w, hl, -, -, -, -, ⟨h, -⟩ | ⟨h, -⟩ | ⟨h, -⟩ | ⟨-, ⟨wm, a6⟩, ⟨n, a7, a8⟩, b1, b2, b3⟩⟩ := z_gen_at hf (by omega)
    · omega
    · omega
    · omega
    · exact ⟨b1, b2, b3, hlink hl, hts _ (z_ts_at a6 rfl), fun sig hs => by rw [a7, a8 sig hs]⟩
end ZCalls
