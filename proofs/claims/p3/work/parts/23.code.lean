/-! CODE: the instructions' tables are the code's. -/
def z_decB (mi : Nat) : Bool := z_all (z_cd mi) (z_ins mi) (z_sz mi)
theorem z_span_at {a n mi : Nat} (h : (List.range n).all (fun j => z_decB (a + j)) = true) (h1 : a ≤ mi) (h2 : mi < a + n) : z_decB mi = true := by
  have h3 := List.all_eq_true.mp h (mi - a) (List.mem_range.mpr (by omega))
  rw [show a + (mi - a) = mi by omega] at h3
  exact h3
