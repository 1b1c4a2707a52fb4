/-! FIND: lookups in lists, with what is found. -/
section ZFind
noncomputable def z_find {α : Type} (l : List (Nat × α)) (i : Nat) : Option α := List.rec (motive := fun _ => Option α) none (fun e _ ih => bif Nat.beq e.1 i then some e.2 else ih) l
theorem z_find_mem {α : Type} {i : Nat} {v : α} : ∀ {l : List (Nat × α)}, z_find l i = some v → (i, v) ∈ l
  | [], h => by cases h
  | (k, w) :: t, h => by
    have h : (bif Nat.beq k i then some w else z_find t i) = some v := h
    cases hk : Nat.beq k i with
    | true =>
      rw [hk] at h
      cases h
      have := Nat.eq_of_beq_eq_true hk
      subst this
      exact List.mem_cons_self
    | false =>
      rw [hk] at h
      exact List.mem_cons_of_mem _ (z_find_mem h)
/-- a list of lists by number, nothing beyond it -/
noncomputable def z_nth {α : Type} (ls : List (List α)) : Nat → List α := List.rec (motive := fun _ => Nat → List α) (fun _ => []) (fun l _ ih n => Nat.rec (motive := fun _ => List α) l (fun m _ => ih m) n) ls
theorem z_nth_mem {α : Type} {x : α} : ∀ {ls : List (List α)} {o : Nat}, x ∈ z_nth ls o → ∃ l, ls[o]? = some l ∧ x ∈ l
  | [], _, h => by cases h
  | l :: _, 0, h => ⟨l, rfl, h⟩
  | _ :: t, n + 1, h => by
    obtain ⟨l, h1, h2⟩ := z_nth_mem (ls := t) (o := n) h
    exact ⟨l, h1, h2⟩
/-- a check of every entry of every list, with the number of its list -/
def z_every {α : Type} (f : Nat → α → Bool) : Nat → List (List α) → Bool
  | _, [] => true
  | o, l :: t => l.all (f o) && z_every f (o + 1) t
theorem z_every_at {α : Type} {f : Nat → α → Bool} {x : α} : ∀ {ls : List (List α)} {o n : Nat}, z_every f o ls = true → x ∈ z_nth ls n → f (o + n) x = true
  | [], _, _, _, h => by cases h
  | l :: t, o, 0, h, hx => by
    unfold z_every at h
    rw [Bool.and_eq_true] at h
    exact List.all_eq_true.mp h.1 x hx
  | l :: t, o, n + 1, h, hx => by
    unfold z_every at h
    rw [Bool.and_eq_true] at h
    have := z_every_at (o := o + 1) (n := n) h.2 hx
    rw [show o + (n + 1) = o + 1 + n by omega]
    exact this
/-- instructions: by a check over all places below a bound -/
def z_sw : Instr → Bool
  | .tableswitch _ _ _ _ => true
  | _ => false
theorem z_sw_ok {i : Instr} (h : z_sw i = true) : ∃ d lo hi o, i = .tableswitch d lo hi o := by
  cases i <;> first | (exact ⟨_, _, _, _, rfl⟩) | (cases h)
def z_chk (cc : ByteArray) (f : Nat → Option (Instr × Nat)) (pc : Nat) : Bool := match f pc with
  | none => true
  | some (i, len) => decide (decode cc pc = .ok (i, len)) && (Nat.beq len (y_len i) || z_sw i)
def z_all (cc : ByteArray) (f : Nat → Option (Instr × Nat)) (n : Nat) : Bool := (List.range n).all (z_chk cc f)
theorem z_all_ok {cc : ByteArray} {f : Nat → Option (Instr × Nat)} {n pc len : Nat} {i : Instr} (h : z_all cc f n = true) (hp : pc < n) (hf : f pc = some (i, len)) : decode cc pc = .ok (i, len) ∧ (len = y_len i ∨ ∃ d lo hi o, i = .tableswitch d lo hi o) := by
  have h1 := List.all_eq_true.mp h pc (List.mem_range.mpr hp)
  unfold z_chk at h1
  rw [hf] at h1
  simp only [Bool.and_eq_true, Bool.or_eq_true, decide_eq_true_eq] at h1
  refine ⟨h1.1, ?_⟩
  rcases h1.2 with h2 | h2
  · exact Or.inl (Nat.eq_of_beq_eq_true h2)
  · exact Or.inr (z_sw_ok h2)
end ZFind
