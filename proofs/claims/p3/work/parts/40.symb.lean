/-! SYMB: runs of the light machine from memories that are known by what they hold; ints are numbers of Int. -/
section WDefs
abbrev w_M : Type := q_M (Nat → Int32)
abbrev w_F : Type := q_F (Nat → Int32)
abbrev w_X : Type := Option Int ⊕ Nat
def w_res : w_X → Option Value ⊕ Nat
  | .inl none => .inl none
  | .inl (some v) => .inl (some (.int (Int32.ofInt v)))
  | .inr a => .inr a
def w_W (P : y_P) (d mi : Nat) (F : w_F) (Q : w_X → w_M → Prop) : Prop := ∃ r M', q_Runs q_KF P d mi F (w_res r, M') ∧ Q r M'
def w_in (a : Int) : Prop := -2147483648 ≤ a ∧ a ≤ 2147483647
variable {P : y_P} {d mi : Nat} {Q : w_X → w_M → Prop}
theorem w_toI {a : Int} (h : w_in a) : (Int32.ofInt a).toInt = a := Int32.toInt_ofInt_of_le (by have := h.1; omega) (by have := h.2; omega)
theorem w_ofI (x : Int32) : Int32.ofInt x.toInt = x := Int32.ofInt_toInt x
theorem w_inI (x : Int32) : w_in x.toInt := ⟨by have := Int32.le_toInt x; omega, by have := Int32.toInt_lt x; omega⟩
theorem w_mono {F : w_F} {Q' : w_X → w_M → Prop} (h : w_W P d mi F Q) (h2 : ∀ r M, Q r M → Q' r M) : w_W P d mi F Q' := by
  obtain ⟨r, M', h1, h3⟩ := h
  exact ⟨r, M', h1, h2 r M' h3⟩
theorem w_adv {n : Nat} {F F' : w_F} (h : q_adv q_KF P mi n F = some F') (h2 : w_W P d mi F' Q) : w_W P d mi F Q := by
  obtain ⟨r, M', h3, h4⟩ := h2
  exact ⟨r, M', q_Runs.adv h h3, h4⟩
theorem w_one {F F' : w_F} (h : q_adv1 q_KF P mi F = some F') (h2 : w_W P d mi F' Q) : w_W P d mi F Q := by
  obtain ⟨r, M', h3, h4⟩ := h2
  exact ⟨r, M', q_Runs.one h h3, h4⟩
theorem w_fin {F : w_F} {r : w_X} {M' : w_M} (h : q_fin P mi F = some (w_res r, M')) (h2 : Q r M') : w_W P d mi F Q := ⟨r, M', q_Runs.fin h, h2⟩
/-- an instruction that is no call and no end -/
theorem w_oth {pc len : Nat} {i : Instr} {ls : y_L} {st : List Value} {M : w_M} {F' : w_F} (hi : y_ins P mi pc = some (i, len)) (hc : y_isCtl i = false) (h : q_other q_KF P mi i pc ls st M = some F') (h2 : w_W P d mi F' Q) : w_W P d mi (pc, ls, st, M) Q := by
  refine w_one ?_ h2
  unfold q_adv1
  dsimp only
  rw [hi]
  dsimp only
  rw [hc]
  exact h
theorem w_br1 {pc len t : Nat} {cnd : ClassFile.Cond} {off : Int} {a : Int} {ls : y_L} {r : List Value} {M : w_M} (hins : y_ins P mi pc = some (.ifCond cnd off, len)) (hj : y_jump pc off = some t) (ra : w_in a) (hT : z_cmpI cnd a 0 → w_W P d mi (t, ls, r, M) Q) (hF : ¬ z_cmpI cnd a 0 → w_W P d mi (pc + 3, ls, r, M) Q) : w_W P d mi (pc, ls, .int (Int32.ofInt a) :: r, M) Q := by
  have e0 : (0 : Int32).toInt = 0 := by decide
  by_cases h : z_cmpI cnd a 0
  · obtain ⟨x, M', h1, h2⟩ := hT h
    exact ⟨x, M', q_Runs.if1 true hins (z_cmpT (by rw [w_toI ra, e0]; exact h)) hj h1, h2⟩
  · obtain ⟨x, M', h1, h2⟩ := hF h
    exact ⟨x, M', q_Runs.if1 false hins (z_cmpF (by rw [w_toI ra, e0]; exact h)) hj h1, h2⟩
theorem w_br2 {pc len t : Nat} {cnd : ClassFile.Cond} {off : Int} {a b : Int} {ls : y_L} {r : List Value} {M : w_M} (hins : y_ins P mi pc = some (.if_icmp cnd off, len)) (hj : y_jump pc off = some t) (ra : w_in a) (rb : w_in b) (hT : z_cmpI cnd a b → w_W P d mi (t, ls, r, M) Q) (hF : ¬ z_cmpI cnd a b → w_W P d mi (pc + 3, ls, r, M) Q) : w_W P d mi (pc, ls, .int (Int32.ofInt b) :: .int (Int32.ofInt a) :: r, M) Q := by
  by_cases h : z_cmpI cnd a b
  · obtain ⟨x, M', h1, h2⟩ := hT h
    exact ⟨x, M', q_Runs.if2 true hins (z_cmpT (by rw [w_toI ra, w_toI rb]; exact h)) hj h1, h2⟩
  · obtain ⟨x, M', h1, h2⟩ := hF h
    exact ⟨x, M', q_Runs.if2 false hins (z_cmpF (by rw [w_toI ra, w_toI rb]; exact h)) hj h1, h2⟩
/-- another name of the value on the stack -/
theorem w_top {pc : Nat} {ls : y_L} {r : List Value} {M : w_M} {x y : Value} (h : x = y) (h2 : w_W P d mi (pc, ls, y :: r, M) Q) : w_W P d mi (pc, ls, x :: r, M) Q := h ▸ h2
theorem w_int {pc : Nat} {ls : y_L} {r : List Value} {M : w_M} {x : Int32} (h : ∀ a, w_in a → Int32.ofInt a = x → w_W P d mi (pc, ls, .int (Int32.ofInt a) :: r, M) Q) : w_W P d mi (pc, ls, .int x :: r, M) Q := by
  have h1 := h x.toInt (w_inI x) (w_ofI x)
  rw [w_ofI] at h1
  exact h1
theorem w_sw {pc len : Nat} {df lo hi : Int} {offs : Array Int} {a v : Int} {ls : y_L} {r : List Value} {M : w_M} {F' : w_F} (e : a = v) (hins : y_ins P mi pc = some (.tableswitch df lo hi offs, len)) (h : q_lift M (y_switch df lo hi offs pc ls (.int (Int32.ofInt v) :: r) q_D0) = some F') (h2 : w_W P d mi F' Q) : w_W P d mi (pc, ls, .int (Int32.ofInt a) :: r, M) Q := by
  subst e
  exact w_oth hins rfl h h2
theorem w_swd {pc len t : Nat} {df lo hi : Int} {offs : Array Int} {a : Int} {ls : y_L} {r : List Value} {M : w_M} (hins : y_ins P mi pc = some (.tableswitch df lo hi offs, len)) (ra : w_in a) (hx : a < lo ∨ hi < a) (hj : y_jump pc df = some t) (h2 : w_W P d mi (t, ls, r, M) Q) : w_W P d mi (pc, ls, .int (Int32.ofInt a) :: r, M) Q := by
  obtain ⟨x, M', h1, h3⟩ := h2
  exact ⟨x, M', q_Runs.swd hins (by rw [w_toI ra]; exact hx) hj h1, h3⟩
/-! arithmetic -/
theorem w_add {pc len : Nat} {a b : Int} {ls : y_L} {r : List Value} {M : w_M} (hins : y_ins P mi pc = some (.iadd, len)) (h2 : w_W P d mi (pc + 1, ls, .int (Int32.ofInt (a + b)) :: r, M) Q) : w_W P d mi (pc, ls, .int (Int32.ofInt b) :: .int (Int32.ofInt a) :: r, M) Q := by
  refine w_oth hins rfl (F' := (pc + 1, ls, .int (Int32.ofInt a + Int32.ofInt b) :: r, M)) rfl ?_
  rw [← Int32.ofInt_add]
  exact h2
theorem w_sub {pc len : Nat} {a b : Int} {ls : y_L} {r : List Value} {M : w_M} (hins : y_ins P mi pc = some (.isub, len)) (h2 : w_W P d mi (pc + 1, ls, .int (Int32.ofInt (a - b)) :: r, M) Q) : w_W P d mi (pc, ls, .int (Int32.ofInt b) :: .int (Int32.ofInt a) :: r, M) Q := by
  refine w_oth hins rfl (F' := (pc + 1, ls, .int (Int32.ofInt a - Int32.ofInt b) :: r, M)) rfl ?_
  rw [← Int32.ofInt_sub]
  exact h2
theorem w_mul {pc len : Nat} {a b : Int} {ls : y_L} {r : List Value} {M : w_M} (hins : y_ins P mi pc = some (.imul, len)) (h2 : w_W P d mi (pc + 1, ls, .int (Int32.ofInt (a * b)) :: r, M) Q) : w_W P d mi (pc, ls, .int (Int32.ofInt b) :: .int (Int32.ofInt a) :: r, M) Q := by
  refine w_oth hins rfl (F' := (pc + 1, ls, .int (Int32.ofInt a * Int32.ofInt b) :: r, M)) rfl ?_
  rw [← Int32.ofInt_mul]
  exact h2
theorem w_inc {pc len i nL : Nat} {n : Int} {a : Int} {ls : y_L} {st : List Value} {M : w_M} (hins : y_ins P mi pc = some (.iinc i n, len)) (hg : y_get ls i = some (.int (Int32.ofInt a))) (hn : (y_met P mi).1 = nL) (hi : i < nL) (h2 : w_W P d mi (pc + 3, y_set ls i (.int (Int32.ofInt (a + n))), st, M) Q) : w_W P d mi (pc, ls, st, M) Q := by
  refine w_oth hins rfl (F' := (pc + 3, y_set ls i (.int (Int32.ofInt a + Int32.ofInt n)), st, M)) ?_ ?_
  · show q_lift M (y_inc (y_met P mi).1 i n pc ls st q_D0) = _
    unfold y_inc
    rw [hg, hn]
    dsimp only
    rw [if_pos hi]
    rfl
  · rw [← Int32.ofInt_add]
    exact h2
/-! memory -/
theorem w_lt {M : w_M} {a : Nat} {c : q_C (Nat → Int32)} (hl : M.1.length ≤ 1000000) (h : M.1[a]? = some c) : Nat.ble 1000000 a = false := by
  obtain ⟨h1, -⟩ := List.getElem?_eq_some_iff.mp h
  cases hb : Nat.ble 1000000 a with
  | false => rfl
  | true => have := Nat.ble_eq.mp hb; omega
theorem w_getf {pc len a cj k fin idx : Nat} {ty : FieldType} {fs : List Value} {v : Value} {ls : y_L} {t : List Value} {M : w_M} (hins : y_ins P mi pc = some (.getfield idx, len)) (hf : y_fld P mi idx = some (cj, k, fin, ty)) (hl : M.1.length ≤ 1000000) (hM : M.1[a]? = some (.inr (cj, fs))) (hk : fs[k]? = some v) (h2 : w_W P d mi (pc + 3, ls, v :: t, M) Q) : w_W P d mi (pc, ls, .ref a :: t, M) Q := by
  refine w_oth hins rfl (F' := (pc + 3, ls, v :: t, M)) ?_ h2
  show cond (Nat.ble 1000000 a) _ (q_getf (y_fld P mi) idx pc ls (.ref a :: t) M) = _
  rw [w_lt hl hM, cond_false]
  unfold q_getf
  dsimp only
  rw [hM, hf]
  dsimp only
  rw [Nat.beq_refl, hk]
theorem w_putf {pc len a cj k fin idx : Nat} {ty : FieldType} {fs : List Value} {v : Value} {ls : y_L} {t : List Value} {M : w_M} (hins : y_ins P mi pc = some (.putfield idx, len)) (hf : y_fld P mi idx = some (cj, k, fin, ty)) (hM : M.1[a]? = some (.inr (cj, fs))) (h0 : Nat.beq fin 0 = true) (hv : y_fits ty v = true) (hk : k < fs.length) (h2 : w_W P d mi (pc + 3, ls, t, (M.1.set a (.inr (cj, fs.set k v)), M.2)) Q) : w_W P d mi (pc, ls, v :: .ref a :: t, M) Q := by
  refine w_oth hins rfl (F' := (pc + 3, ls, t, (M.1.set a (.inr (cj, fs.set k v)), M.2))) ?_ h2
  show q_putf (y_met P mi).2.1 (y_fld P mi) idx pc ls (v :: .ref a :: t) M = _
  unfold q_putf
  dsimp only
  rw [hM, hf]
  dsimp only
  rw [Nat.beq_refl, h0, hv, Nat.blt_eq.mpr hk]
  rfl
theorem w_inB {i : Int} {n : Nat} (r : w_in i) (h0 : 0 ≤ i) (h1 : i < n) : y_inB (Int32.ofInt i) n = true ∧ (Int32.ofInt i).toNatClampNeg = i.toNat := by
  have e : (Int32.ofInt i).toInt = i := w_toI r
  have e2 : (Int32.ofInt i).toNatClampNeg = i.toNat := by
    show (Int32.ofInt i).toInt.toNat = _
    rw [e]
  refine ⟨?_, e2⟩
  unfold y_inB
  rw [e2]
  have h3 : ¬ (Int32.ofInt i) < 0 := by
    intro h
    have := Int32.lt_iff_toInt_lt.mp h
    rw [e] at this
    have e0 : (0 : Int32).toInt = 0 := by decide
    omega
  rw [decide_eq_false h3, Nat.blt_eq.mpr (show i.toNat < n by omega)]
  rfl
/-- what an array holds, as numbers -/
def w_arr (g : Int → Int) : Nat → Int32 := fun j => Int32.ofInt (g j)
def w_upA (g : Int → Int) (i v : Int) : Int → Int := fun j => if j = i then v else g j
theorem w_upd {g : Int → Int} {i v : Int} (h0 : 0 ≤ i) : upd (w_arr g) i.toNat (Int32.ofInt v) = w_arr (w_upA g i v) := by
  funext j
  unfold upd w_arr w_upA
  by_cases h : j = i.toNat
  · rw [if_pos h, if_pos (show (j : Int) = i by omega)]
  · rw [if_neg h, if_neg (show ¬ (j : Int) = i by omega)]
theorem w_ald {pc len a n : Nat} {ty : FieldType} {ins : Instr} {i : Int} {g : Int → Int} {ls : y_L} {t : List Value} {M : w_M} (hins : y_ins P mi pc = some (ins, len)) (hty : (ins = .iaload ∧ ty = .int) ∨ (ins = .baload ∧ ty = .byte)) (hl : M.1.length ≤ 1000000) (hM : M.1[a]? = some (.inl (ty, n, w_arr g))) (r : w_in i) (h0 : 0 ≤ i) (h1 : i < n) (h2 : w_W P d mi (pc + 1, ls, .int (Int32.ofInt (g i)) :: t, M) Q) : w_W P d mi (pc, ls, .int (Int32.ofInt i) :: .ref a :: t, M) Q := by
  obtain ⟨e1, e2⟩ := w_inB r h0 h1
  have key : q_ald q_KF ty pc ls (.int (Int32.ofInt i) :: .ref a :: t) M = some (pc + 1, ls, .int (Int32.ofInt (g i)) :: t, M) := by
    unfold q_ald
    dsimp only
    rw [hM]
    dsimp only
    have e3 : y_tyEq ty ty = true := by rcases hty with ⟨-, h⟩ | ⟨-, h⟩ <;> subst h <;> rfl
    rw [e3, e1]
    show some (pc + 1, ls, Value.int (w_arr g (Int32.ofInt i).toNatClampNeg) :: t, M) = _
    rw [e2]
    unfold w_arr
    rw [show ((i.toNat : Nat) : Int) = i by omega]
  refine w_oth hins (F' := (pc + 1, ls, .int (Int32.ofInt (g i)) :: t, M)) ?_ ?_ h2
  · rcases hty with ⟨h, -⟩ | ⟨h, -⟩ <;> subst h <;> rfl
  · rcases hty with ⟨h, h'⟩ | ⟨h, h'⟩ <;> subst h <;> subst h'
    · show cond (Nat.ble 1000000 a) _ (q_ald q_KF .int pc ls _ M) = _
      rw [w_lt hl hM, cond_false]
      exact key
    · show cond (Nat.ble 1000000 a) _ (q_ald q_KF .byte pc ls _ M) = _
      rw [w_lt hl hM, cond_false]
      exact key
/-- a byte as it is kept -/
def w_nb (v : Int) : Int := (Int32.ofInt v).toInt8.toInt
theorem w_asti {pc len a n : Nat} {i v : Int} {g : Int → Int} {ls : y_L} {t : List Value} {M : w_M} (hins : y_ins P mi pc = some (.iastore, len)) (hM : M.1[a]? = some (.inl (.int, n, w_arr g))) (r : w_in i) (h0 : 0 ≤ i) (h1 : i < n) (h2 : w_W P d mi (pc + 1, ls, t, (M.1.set a (.inl (.int, n, w_arr (w_upA g i v))), M.2)) Q) : w_W P d mi (pc, ls, .int (Int32.ofInt v) :: .int (Int32.ofInt i) :: .ref a :: t, M) Q := by
  obtain ⟨e1, e2⟩ := w_inB r h0 h1
  refine w_oth hins rfl (F' := (pc + 1, ls, t, (M.1.set a (.inl (.int, n, w_arr (w_upA g i v))), M.2))) ?_ h2
  show q_ast q_KF .int pc ls (.int (Int32.ofInt v) :: .int (Int32.ofInt i) :: .ref a :: t) M = _
  unfold q_ast
  dsimp only
  rw [hM]
  dsimp only
  rw [show y_tyEq FieldType.int FieldType.int = true from rfl, e1]
  show some (pc + 1, ls, t, (M.1.set a (.inl (FieldType.int, n, upd (w_arr g) (Int32.ofInt i).toNatClampNeg (Int32.ofInt v))), M.2)) = _
  rw [e2, w_upd h0]
theorem w_astb {pc len a n : Nat} {i v : Int} {g : Int → Int} {ls : y_L} {t : List Value} {M : w_M} (hins : y_ins P mi pc = some (.bastore, len)) (hM : M.1[a]? = some (.inl (.byte, n, w_arr g))) (r : w_in i) (h0 : 0 ≤ i) (h1 : i < n) (h2 : w_W P d mi (pc + 1, ls, t, (M.1.set a (.inl (.byte, n, w_arr (w_upA g i (w_nb v)))), M.2)) Q) : w_W P d mi (pc, ls, .int (Int32.ofInt v) :: .int (Int32.ofInt i) :: .ref a :: t, M) Q := by
  obtain ⟨e1, e2⟩ := w_inB r h0 h1
  refine w_oth hins rfl (F' := (pc + 1, ls, t, (M.1.set a (.inl (.byte, n, w_arr (w_upA g i (w_nb v)))), M.2))) ?_ h2
  show q_ast q_KF .byte pc ls (.int (Int32.ofInt v) :: .int (Int32.ofInt i) :: .ref a :: t) M = _
  unfold q_ast
  dsimp only
  rw [hM]
  dsimp only
  rw [show y_tyEq FieldType.byte FieldType.byte = true from rfl, e1]
  show some (pc + 1, ls, t, (M.1.set a (.inl (FieldType.byte, n, upd (w_arr g) (Int32.ofInt i).toNatClampNeg (vp_nar .byte (Int32.ofInt v)))), M.2)) = _
  have e3 : vp_nar .byte (Int32.ofInt v) = Int32.ofInt (w_nb v) := by
    show (Int32.ofInt v).toInt8.toInt32 = Int32.ofInt (Int32.ofInt v).toInt8.toInt
    exact (Int32.ofInt_int8ToInt (Int32.ofInt v).toInt8).symm
  rw [e2, e3, w_upd h0]
theorem w_alen {pc len a n : Nat} {ty : FieldType} {f : Nat → Int32} {ls : y_L} {t : List Value} {M : w_M} (hins : y_ins P mi pc = some (.arraylength, len)) (hl : M.1.length ≤ 1000000) (hM : M.1[a]? = some (.inl (ty, n, f))) (hty : y_tyEq ty ty = true) (h2 : w_W P d mi (pc + 1, ls, .int (Int32.ofInt (n : Int)) :: t, M) Q) : w_W P d mi (pc, ls, .ref a :: t, M) Q := by
  refine w_oth hins rfl (F' := (pc + 1, ls, .int (Int32.ofInt (n : Int)) :: t, M)) ?_ h2
  show cond (Nat.ble 1000000 a) _ (q_alen pc ls (.ref a :: t) M) = _
  rw [w_lt hl hM, cond_false]
  unfold q_alen
  dsimp only
  rw [hM]
  dsimp only
  rw [hty]
  rfl
end WDefs
