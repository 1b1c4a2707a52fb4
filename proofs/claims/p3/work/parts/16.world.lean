/-! WORLD: what stands outside, as one word of the state; it is kept by every run. -/
section YWorld
/-- nest words: methods' and fields' links of nest mates -/
def y_isN : Cond → Bool
  | .methodLinkNest _ _ _ _ => true
  | .fieldLinkNest _ _ _ _ _ _ => true
  | _ => false
/-- nS texts (lengths, bytes, addresses), where they are named (class, pool number, text, which); statics (class, name, descriptor, value); the script -/
def y_X (D : va_G) (cl : List vw_C) (tys : List (ClassId × FieldType)) (kA : FieldType → ClassId) (A : Nat → Prop) (NW : List Cond) (nS : Nat) (len : List Nat) (byt : List (List Int32)) (adK adV : Nat → Nat) (RS : List (String × Nat × String × Nat)) (ZS : List (String × String × String × Value)) (b L : Nat) (xs : Nat → Int32) (U : State) : Prop :=
  va_K D cl tys U ∧ U.vm.findClass ("[" ++ FieldType.int.toString) = some (kA .int) ∧ U.vm.findClass ("[" ++ FieldType.byte.toString) = some (kA .byte) ∧ (∀ w ∈ NW, y_isN w = true ∧ va_Nw w U) ∧ vk_S nS len byt adK adV A U U.heap ∧
  (∀ q ∈ RS, vk_R q.1 q.2.1 q.2.2.1 (adK q.2.2.2) U) ∧ (∀ q ∈ ZS, va_Z q.1 q.2.1 q.2.2.1 q.2.2.2 A U U.heap) ∧ va_T .int b L (fun j => .int (xs j)) A U U.heap
theorem y_X_kept {D : va_G} {cl : List vw_C} {tys : List (ClassId × FieldType)} {kA : FieldType → ClassId} {A : Nat → Prop} {NW : List Cond} {nS : Nat} {len : List Nat} {byt : List (List Int32)} {adK adV : Nat → Nat} {RS : List (String × Nat × String × Nat)} {ZS : List (String × String × String × Value)} {b L : Nat} {xs : Nat → Int32} {s U : State}
    (h : y_X D cl tys kA A NW nS len byt adK adV RS ZS b L xs s) (hW : s.WarmedH U.vm) (_hz : s.heap.size ≤ U.heap.size) (hq : ∀ q, q < s.heap.size → ¬ A q → U.heap[q]? = s.heap[q]?) : y_X D cl tys kA A NW nS len byt adK adV RS ZS b L xs U := by
  obtain ⟨h1, h2, h3, h4, h5, h6, h7, h8⟩ := h
  have hal := hW.alike
  refine ⟨va_K.moved hal h1, by rw [hal.findClass]; exact h2, by rw [hal.findClass]; exact h3, fun w hw => ⟨(h4 w hw).1, ?_⟩, vk_S.moved hal (h5.kept hq), fun q hm => vk_R.warm hW (h6 q hm), fun q hm => va_Z.moved hal ((h7 q hm).kept hq), va_T.moved hal (h8.kept hq)⟩
  obtain ⟨g1, g2⟩ := h4 w hw
  cases w with
  | methodLinkNest a i x hn => exact va_Nw.warmM hW g2
  | fieldLinkNest a i b n d hn => exact va_Nw.warmF hW g2
  | _ => cases g1
/-- a static whose value is a reference or null says 'isRef' -/
theorem y_statRef {C n d : String} {v : Value} {A : Nat → Prop} {U : State} {args : Array Value} (h : va_Z C n d v A U U.heap) (hv : v = .null ∨ ∃ t, v = .ref t) : (Cond.isRef (.static C n d)).before args U = true := by
  obtain ⟨cf, kf, fi, f, a, cell, z1, z2, z3, z4, z5, z6, z7, z8⟩ := h
  have he : (Term.static C n d).eval args U none [] U = some v := by
    simp [Term.eval, State.fieldNamed?, z1, z2, z4, z5, z6, z7]
  rcases hv with rfl | ⟨t, rfl⟩
  · simp [Cond.before, Cond.holds, Cond.value, he]
  · simp [Cond.before, Cond.holds, Cond.value, he]
end YWorld
